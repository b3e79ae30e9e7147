/-! ### Turns: partners, waiting, acting, the leader's move -/
def Fw (M N : zM) : Prop := ∀ b, 19 ≤ b → b ≠ 224 → b ≠ 225 → (b < 254 ∨ 374 ≤ b) → N b = M b
/-- only what Ways keeps has changed -/
def Wo (M N : zM) : Prop := ∀ b, b ≠ 224 → b ≠ 225 → (b < 254 ∨ 374 ≤ b) → N b = M b
/-- the members' places stand in row 228 -/
def PlR (M : zM) (pl : Nat → Int) : Prop := ∀ j : Nat, j < 10 → M 228 j = m5 (pl j) ∧ -1 ≤ pl j ∧ pl j < 120
theorem s_firstPartner (d : Nat) (Q : zQ) (M S : zM) (pl : Nat → Int) (p c : Nat) (hp : p < 120) (hc : c < 120) (hcp : c ≠ p) (hR : RelC M 0 S) (hW : WfS S) (hV : Wv M (S 0)) (hP : PlR M pl) (hD : ∀ x : Nat, x < 120 → M (254 + p) x = dd (S 0) p x)
    (hQ : ∀ N, Wo M N → Wv N (S 0) → Q (some (.inl (if frst (kPart S pl p c) c < 0 then -5 else onS S (frst (kPart S pl p c) c)))) N) :
    Sp (d + 3) 48 [.inr (.inr 251), .inr (.inr (254 + p)), .inl (c : Int)] M Q := by
  have hz : ∀ i : Int, zin 0 (254 + p) i = (0 ≤ i ∧ i < 120) := fun i => zin_of (n := 120) (zkD hp)
  have hc0 : 0 ≤ (c : Int) ∧ (c : Int) < 120 := ⟨by omega, by omega⟩
  have loop : ∀ n k : Nat, k + n = 4 → ∀ (N : zM) (w4 w5 w6 w7 : Option zV), Wo M N → Wv N (S 0) → (∀ x : Nat, x < 120 → N (254 + p) x = dd (S 0) p x) →
      (∀ N', Wo M N' → Wv N' (S 0) → Q (some (.inl (if fdr (kPart S pl p c) c n k < 0 then -5 else onS S (fdr (kPart S pl p c) c n k)))) N') →
      RT (Sp (d + 2)) 48 Q 2 [some (.inr (.inr 251)), some (.inr (.inr (254 + p))), some (.inl (c : Int)), some (.inl (k : Int)), w4, w5, w6, w7] [] N := by
    intro n
    induction n with
    | zero =>
      intro k hk N w4 w5 w6 w7 h1 h2 h3 hQ
      obtain rfl : k = 4 := by omega
      have := hQ N h1 h2
      simp [fdr] at this
      simp only [↓e48, ↓e48_0, ↓e48_1, ↓e48_2, ↓e48_3, ↓e48_4, ↓e48_7, ↓e48_8, ↓e48_9, ↓e48_12, ↓e48_14, ↓e48_16, ↓e48_19, ↓e48_20, ↓e48_22, ↓e48_23, ↓e48_24, ↓e48_25, ↓e48_26, ↓e48_27, ↓e48_28, ↓e48_31, ↓e48_32, ↓e48_35, ↓e48_36, ↓e48_38, ↓e48_40, ↓e48_43, ↓e48_44, ↓e48_47, ↓e48_50, ↓e48_52, ↓e48_53, ↓e48_56, ↓e48_58, ↓e48_60, ↓e48_62, ↓e48_65, ↓e48_66, ↓e48_69, ↓e48_72, ↓e48_74, ↓e48_75, ↓e48_78, ↓e48_80, ↓e48_82, ↓e48_84, ↓e48_87, ↓e48_88, ↓e48_91, ↓e48_93, ↓e48_96, ↓e48_98, ↓e48_99, ↓e48_100, ↓e48_103, ↓e48_105, ↓e48_108, ↓e48_109, ↓e48_110, ↓e48_113, ↓e48_115, ↓e48_116, ↓e48_119, ↓e48_122, ↓e48_124, znl_i, znl_r, znl_n, zcs_0, zcs_1, zcs_2, zcs_3, zcat_0, zcat_1, zcat_2, zcat_3, zbl_0, zbl_1, true_and, and_true, ↓zret_some, ↓zret_none, Nat.reduceAdd, Nat.reduceLeDiff, Nat.reduceMul, eq_self, Int.reduceToNat, Int.reduceLE, Int.reduceLT, Int.reduceNeg, and_self, zrg]
      simpa using this
    | succ n ih =>
      intro k hk N w4 w5 w6 w7 h1 h2 h3 hQ
      have hk0 : 0 ≤ (k : Int) ∧ (k : Int) < 4 := ⟨by omega, by omega⟩
      have hk1 : ¬ (k : Int) ≥ 4 := by omega
      have hk2 : -2147483648 ≤ (k : Int) ∧ (k : Int) < 2147483648 := ⟨by omega, by omega⟩
      have hnr := nb_zrg (k := k) hc0
      have hRN : RelC N 0 S := RelC_congr (fun b hb => h1 b (by omega) (by omega) (by omega)) hR
      rw [fdr_succ] at hQ
      -- no partner in this direction
      have skip : ¬ (0 ≤ nb c k ∧ kPart S pl p c (nb c k).toNat = true) → ∀ (N' : zM) (w4 w5 w6 w7 : Option zV), Wo M N' → Wv N' (S 0) → (∀ x : Nat, x < 120 → N' (254 + p) x = dd (S 0) p x) →
          RT (Sp (d + 2)) 48 Q 116 [some (.inr (.inr 251)), some (.inr (.inr (254 + p))), some (.inl (c : Int)), some (.inl (k : Int)), w4, w5, w6, w7] [] N' := by
        intro hno N' w4 w5 w6 w7 g1 g2 g3
        have h9 := ih (k + 1) (by omega) N' w4 w5 w6 w7 g1 g2 g3 (fun N'' g4 g5 => by
          have := hQ N'' g4 g5
          rw [if_neg hno] at this
          exact this)
        simp only [↓e48, ↓e48_0, ↓e48_1, ↓e48_3, ↓e48_4, ↓e48_7, ↓e48_8, ↓e48_9, ↓e48_12, ↓e48_14, ↓e48_16, ↓e48_19, ↓e48_20, ↓e48_22, ↓e48_23, ↓e48_24, ↓e48_25, ↓e48_26, ↓e48_27, ↓e48_28, ↓e48_31, ↓e48_32, ↓e48_35, ↓e48_36, ↓e48_38, ↓e48_40, ↓e48_43, ↓e48_44, ↓e48_47, ↓e48_50, ↓e48_52, ↓e48_53, ↓e48_56, ↓e48_58, ↓e48_60, ↓e48_62, ↓e48_65, ↓e48_66, ↓e48_69, ↓e48_72, ↓e48_74, ↓e48_75, ↓e48_78, ↓e48_80, ↓e48_82, ↓e48_84, ↓e48_87, ↓e48_88, ↓e48_91, ↓e48_93, ↓e48_96, ↓e48_98, ↓e48_99, ↓e48_100, ↓e48_103, ↓e48_105, ↓e48_108, ↓e48_109, ↓e48_110, ↓e48_113, ↓e48_115, ↓e48_116, ↓e48_119, ↓e48_122, ↓e48_124, znl_i, znl_r, znl_n, zcs_0, zcs_1, zcs_2, zcs_3, zcat_0, zcat_1, zcat_2, zcat_3, zbl_0, zbl_1, true_and, and_true, ↓zret_some, ↓zret_none, Nat.reduceAdd, Nat.reduceLeDiff, Nat.reduceMul, eq_self, Int.reduceToNat, Int.reduceLE, Int.reduceLT, Int.reduceNeg, and_self]
        rw [show ((k : Int) + 1) = ((k + 1 : Nat) : Int) by omega]
        exact h9
      rw [e48_2]
      simp only [↓e48, ↓e48_0, ↓e48_1, ↓e48_3, ↓e48_4, ↓e48_7, ↓e48_8, ↓e48_9, ↓e48_12, ↓e48_14, ↓e48_16, ↓e48_19, ↓e48_20, ↓e48_22, ↓e48_23, ↓e48_24, ↓e48_25, ↓e48_26, ↓e48_27, ↓e48_28, ↓e48_32, ↓e48_36, ↓e48_38, ↓e48_40, ↓e48_43, ↓e48_44, ↓e48_47, ↓e48_50, ↓e48_52, ↓e48_53, ↓e48_56, ↓e48_58, ↓e48_60, ↓e48_62, ↓e48_65, ↓e48_66, ↓e48_69, ↓e48_72, ↓e48_74, ↓e48_75, ↓e48_78, ↓e48_80, ↓e48_82, ↓e48_84, ↓e48_87, ↓e48_88, ↓e48_91, ↓e48_93, ↓e48_96, ↓e48_98, ↓e48_99, ↓e48_100, ↓e48_103, ↓e48_105, ↓e48_108, ↓e48_109, ↓e48_110, ↓e48_113, ↓e48_115, ↓e48_119, ↓e48_122, ↓e48_124, znl_i, znl_r, znl_n, zcs_0, zcs_1, zcs_2, zcs_3, zcat_0, zcat_1, zcat_2, zcat_3, zbl_0, zbl_1, true_and, and_true, ↓zret_some, ↓zret_none, Nat.reduceAdd, Nat.reduceLeDiff, Nat.reduceMul, eq_self, Int.reduceToNat, Int.reduceLE, Int.reduceLT, Int.reduceNeg, and_self, zrg, hk1, hk2, ↓reduceIte, ↓s_nb (d + 1) _ N c k hc0.1 hc0.2 hk0.1 hk0.2, hnr, hz, hc0]
      -- no member on a good cell
      have no : ¬ (0 ≤ nb c k ∧ kPart S pl p c (nb c k).toNat = true) → ∀ (w4 w5 w6 w7 : Option zV), znl w4 → RT (Sp (d + 2)) 48 Q 35 [some (.inr (.inr 251)), some (.inr (.inr (254 + p))), some (.inl (c : Int)), some (.inl (k : Int)), w4, w5, w6, w7] [] N := by
        intro hno w4 w5 w6 w7 hw4
        simp only [↓e48, ↓e48_0, ↓e48_1, ↓e48_3, ↓e48_4, ↓e48_7, ↓e48_8, ↓e48_9, ↓e48_12, ↓e48_14, ↓e48_16, ↓e48_19, ↓e48_20, ↓e48_22, ↓e48_23, ↓e48_24, ↓e48_25, ↓e48_26, ↓e48_27, ↓e48_28, ↓e48_31, ↓e48_32, ↓e48_35, ↓e48_36, ↓e48_38, ↓e48_40, ↓e48_43, ↓e48_44, ↓e48_47, ↓e48_50, ↓e48_52, ↓e48_53, ↓e48_56, ↓e48_58, ↓e48_60, ↓e48_62, ↓e48_65, ↓e48_66, ↓e48_69, ↓e48_72, ↓e48_74, ↓e48_75, ↓e48_78, ↓e48_80, ↓e48_82, ↓e48_84, ↓e48_87, ↓e48_88, ↓e48_91, ↓e48_93, ↓e48_96, ↓e48_98, ↓e48_99, ↓e48_100, ↓e48_103, ↓e48_105, ↓e48_108, ↓e48_109, ↓e48_110, ↓e48_113, ↓e48_115, ↓e48_119, ↓e48_122, ↓e48_124, znl_i, znl_r, znl_n, zcs_0, zcs_1, zcs_2, zcs_3, zcat_0, zcat_1, zcat_2, zcat_3, zbl_0, zbl_1, true_and, and_true, ↓zret_some, ↓zret_none, Nat.reduceAdd, Nat.reduceLeDiff, Nat.reduceMul, eq_self, Int.reduceToNat, Int.reduceLE, Int.reduceLT, Int.reduceNeg, and_self, zrg, hw4]
        simp
        exact skip hno N _ _ _ _ h1 h2 h3
      by_cases a : nb c k < 0
      · rw [if_pos a]
        exact no (fun z => by omega) _ _ _ _ trivial
      · obtain ⟨x, hx⟩ : ∃ x : Nat, nb c k = x := ⟨(nb c k).toNat, by omega⟩
        have hx1 : x < 120 := by have := nb_rng hc0 (k := k) (by omega); omega
        have hx0 : 0 ≤ (x : Int) ∧ (x : Int) < 120 := ⟨by omega, by omega⟩
        have r1 := dd_rng (w := S 0) (q := p) (c := x) hp
        have r2 := dd_rng (w := S 0) (q := p) (c := c) hp
        have r3 : -2147483648 ≤ dd (S 0) p x ∧ dd (S 0) p x < 2147483648 := ⟨by omega, by omega⟩
        have r4 : -2147483648 ≤ dd (S 0) p c - 1 ∧ dd (S 0) p c - 1 < 2147483648 := ⟨by omega, by omega⟩
        rw [if_neg a]
        rw [hx] at no skip hQ ⊢
        simp only [Int.toNat_natCast] at no skip hQ
        simp only [hx0, and_self, true_and, Int.toNat_natCast, h3 x hx1, h3 c hc, r3, r4]
        by_cases g : kGood S p c x = true
        · have g2 := (dd_good (S := S) hcp).mpr g
          have g3 := (good_ok g hcp).2.2
          have g4 := hRN.1 x hx1
          simp only [Nat.zero_add] at g4
          rw [if_neg g3] at g4
          have g5 := onS_rng S x
          have g6 : -2147483648 ≤ onS S x ∧ onS S x < 2147483648 := ⟨by omega, by omega⟩
          rw [if_neg (fun z => z g2)]
          have no2 : ¬ kPart S pl p c x = true → ∀ (w4 w5 w6 w7 : Option zV), znl w6 → RT (Sp (d + 2)) 48 Q 78 [some (.inr (.inr 251)), some (.inr (.inr (254 + p))), some (.inl (c : Int)), some (.inl (k : Int)), w4, w5, w6, w7] [] N := by
            intro hno w4 w5 w6 w7 hw6
            simp only [↓e48, ↓e48_0, ↓e48_1, ↓e48_3, ↓e48_4, ↓e48_7, ↓e48_8, ↓e48_9, ↓e48_12, ↓e48_14, ↓e48_16, ↓e48_19, ↓e48_20, ↓e48_22, ↓e48_23, ↓e48_24, ↓e48_25, ↓e48_26, ↓e48_27, ↓e48_28, ↓e48_31, ↓e48_32, ↓e48_35, ↓e48_36, ↓e48_38, ↓e48_40, ↓e48_43, ↓e48_44, ↓e48_47, ↓e48_50, ↓e48_52, ↓e48_53, ↓e48_56, ↓e48_58, ↓e48_60, ↓e48_62, ↓e48_65, ↓e48_66, ↓e48_69, ↓e48_72, ↓e48_74, ↓e48_75, ↓e48_78, ↓e48_80, ↓e48_82, ↓e48_84, ↓e48_87, ↓e48_88, ↓e48_91, ↓e48_93, ↓e48_96, ↓e48_98, ↓e48_99, ↓e48_100, ↓e48_103, ↓e48_105, ↓e48_108, ↓e48_109, ↓e48_110, ↓e48_113, ↓e48_115, ↓e48_119, ↓e48_122, ↓e48_124, znl_i, znl_r, znl_n, zcs_0, zcs_1, zcs_2, zcs_3, zcat_0, zcat_1, zcat_2, zcat_3, zbl_0, zbl_1, true_and, and_true, ↓zret_some, ↓zret_none, Nat.reduceAdd, Nat.reduceLeDiff, Nat.reduceMul, eq_self, Int.reduceToNat, Int.reduceLE, Int.reduceLT, Int.reduceNeg, and_self, zrg, hw6]
            simp
            exact skip (fun z => hno z.2) N _ _ _ _ h1 h2 h3
          simp only [↓e48, ↓e48_0, ↓e48_1, ↓e48_3, ↓e48_4, ↓e48_7, ↓e48_8, ↓e48_9, ↓e48_12, ↓e48_14, ↓e48_16, ↓e48_19, ↓e48_20, ↓e48_22, ↓e48_23, ↓e48_24, ↓e48_25, ↓e48_26, ↓e48_27, ↓e48_28, ↓e48_31, ↓e48_32, ↓e48_36, ↓e48_38, ↓e48_40, ↓e48_43, ↓e48_44, ↓e48_47, ↓e48_50, ↓e48_52, ↓e48_53, ↓e48_56, ↓e48_58, ↓e48_60, ↓e48_62, ↓e48_66, ↓e48_69, ↓e48_72, ↓e48_74, ↓e48_75, ↓e48_80, ↓e48_82, ↓e48_84, ↓e48_87, ↓e48_88, ↓e48_91, ↓e48_93, ↓e48_96, ↓e48_98, ↓e48_99, ↓e48_100, ↓e48_103, ↓e48_105, ↓e48_108, ↓e48_109, ↓e48_110, ↓e48_113, ↓e48_115, ↓e48_119, ↓e48_122, ↓e48_124, znl_i, znl_r, znl_n, zcs_0, zcs_1, zcs_2, zcs_3, zcat_0, zcat_1, zcat_2, zcat_3, zbl_0, zbl_1, true_and, and_true, ↓zret_some, ↓zret_none, Nat.reduceAdd, Nat.reduceLeDiff, Nat.reduceMul, eq_self, Int.reduceToNat, Int.reduceLE, Int.reduceLT, Int.reduceNeg, and_self, zkc_0, zin_1, zin_2, zin_3, zin_4, zin_5, zin_6, zin_7, zin_8, zin_9, zaa_9, zkc_10, zin_11, zin_12, zkc_13, zin_14, zin_15, zkc_16, zin_17, zin_18, zkc_19, zin_20, zin_21, zin_22, zin_23, zin_24, zin_25, zin_26, zin_27, zin_28, zaa_28, zkc_29, zin_30, zin_31, zkc_32, zin_33, zin_34, zkc_35, zin_36, zin_37, zkc_38, zin_39, zin_40, zin_41, zin_42, zin_43, zin_44, zin_45, zin_46, zin_47, zaa_47, zkc_48, zin_49, zin_50, zkc_51, zin_52, zin_53, zkc_54, zin_55, zin_56, zkc_209, zkc_210, zin_211, zaa_211, zkc_212, zin_213, zkc_214, zkc_215, zin_216, zin_217, zkc_218, zin_219, zin_220, zin_221, zkc_222, zin_223, zaa_223, zin_224, zin_225, zkc_226, zin_227, zin_228, zin_229, zin_230, zin_231, zin_232, zkc_233, zin_234, zaa_234, zin_235, zin_236, zin_237, zin_238, zin_239, zin_240, zin_241, zin_242, zin_243, zin_244, zin_245, zin_246, zin_247, zin_248, zin_249, zin_250, zkc_251, zin_252, zin_253, zkc_374, zin_375, zin_376, zin_377, zin_378, zin_379, zin_380, zin_381, zin_382, zin_383, zin_384, zin_385, zin_386, zin_387, zrg, hx0, Int.toNat_natCast, g4, g6, show ¬ (1 : Int) = 0 by omega, ↓reduceIte]
          by_cases v : onS S x < 0
          · rw [if_pos v]
            exact no2 (fun z => by have := (part_ok z).2.1; omega) _ _ _ _ trivial
          · obtain ⟨o, ho⟩ : ∃ o : Nat, onS S x = o := ⟨(onS S x).toNat, by omega⟩
            obtain ⟨o1, o2⟩ := onS_some ho
            have o3 : 0 ≤ (o : Int) ∧ (o : Int) < 10 := ⟨by omega, by omega⟩
            obtain ⟨q1, q2, q3⟩ := hP o o1
            have q4 : N 228 o = m5 (pl o) := by rw [h1 228 (by omega) (by omega) (by omega)]; exact q1
            rw [if_neg v, ho]
            simp only [↓e48, ↓e48_0, ↓e48_1, ↓e48_3, ↓e48_4, ↓e48_7, ↓e48_8, ↓e48_9, ↓e48_12, ↓e48_14, ↓e48_16, ↓e48_19, ↓e48_20, ↓e48_22, ↓e48_23, ↓e48_24, ↓e48_25, ↓e48_26, ↓e48_27, ↓e48_28, ↓e48_31, ↓e48_32, ↓e48_36, ↓e48_38, ↓e48_40, ↓e48_43, ↓e48_44, ↓e48_47, ↓e48_50, ↓e48_52, ↓e48_53, ↓e48_56, ↓e48_58, ↓e48_60, ↓e48_62, ↓e48_65, ↓e48_66, ↓e48_69, ↓e48_72, ↓e48_74, ↓e48_75, ↓e48_80, ↓e48_82, ↓e48_84, ↓e48_88, ↓e48_91, ↓e48_93, ↓e48_96, ↓e48_98, ↓e48_99, ↓e48_100, ↓e48_103, ↓e48_105, ↓e48_108, ↓e48_109, ↓e48_110, ↓e48_113, ↓e48_115, ↓e48_119, ↓e48_122, ↓e48_124, znl_i, znl_r, znl_n, zcs_0, zcs_1, zcs_2, zcs_3, zcat_0, zcat_1, zcat_2, zcat_3, zbl_0, zbl_1, true_and, and_true, ↓zret_some, ↓zret_none, Nat.reduceAdd, Nat.reduceLeDiff, Nat.reduceMul, eq_self, Int.reduceToNat, Int.reduceLE, Int.reduceLT, Int.reduceNeg, and_self, zkc_0, zin_1, zin_2, zin_3, zin_4, zin_5, zin_6, zin_7, zin_8, zin_9, zaa_9, zkc_10, zin_11, zin_12, zkc_13, zin_14, zin_15, zkc_16, zin_17, zin_18, zkc_19, zin_20, zin_21, zin_22, zin_23, zin_24, zin_25, zin_26, zin_27, zin_28, zaa_28, zkc_29, zin_30, zin_31, zkc_32, zin_33, zin_34, zkc_35, zin_36, zin_37, zkc_38, zin_39, zin_40, zin_41, zin_42, zin_43, zin_44, zin_45, zin_46, zin_47, zaa_47, zkc_48, zin_49, zin_50, zkc_51, zin_52, zin_53, zkc_54, zin_55, zin_56, zkc_209, zkc_210, zin_211, zaa_211, zkc_212, zin_213, zkc_214, zkc_215, zin_216, zin_217, zkc_218, zin_219, zin_220, zin_221, zkc_222, zin_223, zaa_223, zin_224, zin_225, zkc_226, zin_227, zin_228, zin_229, zin_230, zin_231, zin_232, zkc_233, zin_234, zaa_234, zin_235, zin_236, zin_237, zin_238, zin_239, zin_240, zin_241, zin_242, zin_243, zin_244, zin_245, zin_246, zin_247, zin_248, zin_249, zin_250, zkc_251, zin_252, zin_253, zkc_374, zin_375, zin_376, zin_377, zin_378, zin_379, zin_380, zin_381, zin_382, zin_383, zin_384, zin_385, zin_386, zin_387, zrg, o3, Int.toNat_natCast, q4]
            have q5 : -2147483648 ≤ m5 (pl o) ∧ m5 (pl o) < 2147483648 := by unfold m5; constructor <;> split <;> omega
            simp only [q5, true_and, and_self]
            by_cases v2 : pl o < 0
            · rw [if_pos (by unfold m5; rw [if_pos v2]; omega)]
              exact skip (fun z => by have := (part_ok z.2).2.2.1; rw [ho, Int.toNat_natCast] at this; omega) N _ _ _ _ h1 h2 h3
            · obtain ⟨q, hq⟩ : ∃ q : Nat, pl o = q := ⟨(pl o).toNat, by omega⟩
              have hm5 : m5 (pl o) = q := by unfold m5; rw [if_neg v2, hq]
              have hq1 : q < 120 := by omega
              have hzq : ∀ i : Int, zin 0 (254 + q) i = (0 ≤ i ∧ i < 120) := fun i => zin_of (n := 120) (zkD hq1)
              rw [hm5, if_neg (by omega)]
              simp only [↓e48, ↓e48_0, ↓e48_1, ↓e48_3, ↓e48_4, ↓e48_7, ↓e48_8, ↓e48_9, ↓e48_12, ↓e48_14, ↓e48_16, ↓e48_19, ↓e48_20, ↓e48_22, ↓e48_23, ↓e48_24, ↓e48_25, ↓e48_26, ↓e48_27, ↓e48_28, ↓e48_31, ↓e48_32, ↓e48_36, ↓e48_38, ↓e48_40, ↓e48_43, ↓e48_44, ↓e48_47, ↓e48_50, ↓e48_52, ↓e48_53, ↓e48_56, ↓e48_58, ↓e48_60, ↓e48_62, ↓e48_65, ↓e48_66, ↓e48_69, ↓e48_72, ↓e48_74, ↓e48_75, ↓e48_80, ↓e48_82, ↓e48_84, ↓e48_87, ↓e48_88, ↓e48_91, ↓e48_93, ↓e48_98, ↓e48_99, ↓e48_100, ↓e48_103, ↓e48_105, ↓e48_108, ↓e48_109, ↓e48_110, ↓e48_113, ↓e48_115, ↓e48_119, ↓e48_122, ↓e48_124, znl_i, znl_r, znl_n, zcs_0, zcs_1, zcs_2, zcs_3, zcat_0, zcat_1, zcat_2, zcat_3, zbl_0, zbl_1, true_and, and_true, ↓zret_some, ↓zret_none, Nat.reduceAdd, Nat.reduceLeDiff, Nat.reduceMul, eq_self, Int.reduceToNat, Int.reduceLE, Int.reduceLT, Int.reduceNeg, and_self, zkc_0, zin_1, zin_2, zin_3, zin_4, zin_5, zin_6, zin_7, zin_8, zin_9, zaa_9, zkc_10, zin_11, zin_12, zkc_13, zin_14, zin_15, zkc_16, zin_17, zin_18, zkc_19, zin_20, zin_21, zin_22, zin_23, zin_24, zin_25, zin_26, zin_27, zin_28, zaa_28, zkc_29, zin_30, zin_31, zkc_32, zin_33, zin_34, zkc_35, zin_36, zin_37, zkc_38, zin_39, zin_40, zin_41, zin_42, zin_43, zin_44, zin_45, zin_46, zin_47, zaa_47, zkc_48, zin_49, zin_50, zkc_51, zin_52, zin_53, zkc_54, zin_55, zin_56, zkc_209, zkc_210, zin_211, zaa_211, zkc_212, zin_213, zkc_214, zkc_215, zin_216, zin_217, zkc_218, zin_219, zin_220, zin_221, zkc_222, zin_223, zaa_223, zin_224, zin_225, zkc_226, zin_227, zin_228, zin_229, zin_230, zin_231, zin_232, zkc_233, zin_234, zaa_234, zin_235, zin_236, zin_237, zin_238, zin_239, zin_240, zin_241, zin_242, zin_243, zin_244, zin_245, zin_246, zin_247, zin_248, zin_249, zin_250, zkc_251, zin_252, zin_253, zkc_374, zin_375, zin_376, zin_377, zin_378, zin_379, zin_380, zin_381, zin_382, zin_383, zin_384, zin_385, zin_386, zin_387, zrg]
              refine s_from2 d _ N (S 0) q hq1 (Hw_of hRN hW) h2 (fun N2 u1 u2 u3 => ?_)
              have hw2 : Wo M N2 := fun b b1 b2 b3 => by rw [u3 b b1 b2 (by omega)]; exact h1 b b1 b2 b3
              have hR2 : RelC N2 0 S := RelC_congr (fun b hb => hw2 b (by omega) (by omega) (by omega)) hR
              have hp2 : ∀ x : Nat, x < 120 → N2 (254 + p) x = dd (S 0) p x := fun x hx => by
                by_cases z : p = q
                · subst z; exact u2 x hx
                · rw [u3 (254 + p) (by omega) (by omega) (by omega)]; exact h3 x hx
              rw [zret_some]
              simp only [↓e48, ↓e48_0, ↓e48_1, ↓e48_3, ↓e48_4, ↓e48_7, ↓e48_8, ↓e48_9, ↓e48_12, ↓e48_14, ↓e48_16, ↓e48_19, ↓e48_20, ↓e48_22, ↓e48_23, ↓e48_24, ↓e48_25, ↓e48_26, ↓e48_27, ↓e48_28, ↓e48_31, ↓e48_32, ↓e48_36, ↓e48_38, ↓e48_40, ↓e48_43, ↓e48_44, ↓e48_47, ↓e48_50, ↓e48_52, ↓e48_53, ↓e48_56, ↓e48_58, ↓e48_60, ↓e48_62, ↓e48_65, ↓e48_66, ↓e48_69, ↓e48_72, ↓e48_74, ↓e48_75, ↓e48_80, ↓e48_82, ↓e48_84, ↓e48_87, ↓e48_88, ↓e48_91, ↓e48_93, ↓e48_96, ↓e48_98, ↓e48_99, ↓e48_100, ↓e48_103, ↓e48_105, ↓e48_109, ↓e48_110, ↓e48_113, ↓e48_115, ↓e48_119, ↓e48_122, ↓e48_124, znl_i, znl_r, znl_n, zcs_0, zcs_1, zcs_2, zcs_3, zcat_0, zcat_1, zcat_2, zcat_3, zbl_0, zbl_1, true_and, and_true, ↓zret_some, ↓zret_none, Nat.reduceAdd, Nat.reduceLeDiff, Nat.reduceMul, eq_self, Int.reduceToNat, Int.reduceLE, Int.reduceLT, Int.reduceNeg, and_self, zkc_0, zin_1, zin_2, zin_3, zin_4, zin_5, zin_6, zin_7, zin_8, zin_9, zaa_9, zkc_10, zin_11, zin_12, zkc_13, zin_14, zin_15, zkc_16, zin_17, zin_18, zkc_19, zin_20, zin_21, zin_22, zin_23, zin_24, zin_25, zin_26, zin_27, zin_28, zaa_28, zkc_29, zin_30, zin_31, zkc_32, zin_33, zin_34, zkc_35, zin_36, zin_37, zkc_38, zin_39, zin_40, zin_41, zin_42, zin_43, zin_44, zin_45, zin_46, zin_47, zaa_47, zkc_48, zin_49, zin_50, zkc_51, zin_52, zin_53, zkc_54, zin_55, zin_56, zkc_209, zkc_210, zin_211, zaa_211, zkc_212, zin_213, zkc_214, zkc_215, zin_216, zin_217, zkc_218, zin_219, zin_220, zin_221, zkc_222, zin_223, zaa_223, zin_224, zin_225, zkc_226, zin_227, zin_228, zin_229, zin_230, zin_231, zin_232, zkc_233, zin_234, zaa_234, zin_235, zin_236, zin_237, zin_238, zin_239, zin_240, zin_241, zin_242, zin_243, zin_244, zin_245, zin_246, zin_247, zin_248, zin_249, zin_250, zkc_251, zin_252, zin_253, zkc_374, zin_375, zin_376, zin_377, zin_378, zin_379, zin_380, zin_381, zin_382, zin_383, zin_384, zin_385, zin_386, zin_387, zrg, hzq, hx0, Int.toNat_natCast, u2 x hx1]
              refine s_from2 d _ N2 (S 0) q hq1 (Hw_of hR2 hW) u1 (fun N3 y1 y2 y3 => ?_)
              have hw3 : Wo M N3 := fun b b1 b2 b3 => by rw [y3 b b1 b2 (by omega)]; exact hw2 b b1 b2 b3
              have hp3 : ∀ x : Nat, x < 120 → N3 (254 + p) x = dd (S 0) p x := fun x hx => by
                by_cases z : p = q
                · subst z; exact y2 x hx
                · rw [y3 (254 + p) (by omega) (by omega) (by omega)]; exact hp2 x hx
              have t1 := dd_rng (w := S 0) (q := q) (c := x) hq1
              have t2 := dd_rng (w := S 0) (q := q) (c := c) hq1
              have t3 : -2147483648 ≤ dd (S 0) q x ∧ dd (S 0) q x < 2147483648 := ⟨by omega, by omega⟩
              have t4 : -2147483648 ≤ dd (S 0) q c ∧ dd (S 0) q c < 2147483648 := ⟨by omega, by omega⟩
              rw [zret_some]
              simp only [↓e48, ↓e48_0, ↓e48_1, ↓e48_3, ↓e48_4, ↓e48_7, ↓e48_8, ↓e48_9, ↓e48_12, ↓e48_14, ↓e48_16, ↓e48_19, ↓e48_20, ↓e48_22, ↓e48_23, ↓e48_24, ↓e48_25, ↓e48_26, ↓e48_27, ↓e48_28, ↓e48_31, ↓e48_32, ↓e48_36, ↓e48_38, ↓e48_40, ↓e48_43, ↓e48_44, ↓e48_47, ↓e48_50, ↓e48_52, ↓e48_53, ↓e48_56, ↓e48_58, ↓e48_60, ↓e48_62, ↓e48_65, ↓e48_66, ↓e48_69, ↓e48_72, ↓e48_74, ↓e48_75, ↓e48_80, ↓e48_82, ↓e48_84, ↓e48_87, ↓e48_88, ↓e48_91, ↓e48_93, ↓e48_96, ↓e48_98, ↓e48_99, ↓e48_100, ↓e48_103, ↓e48_105, ↓e48_108, ↓e48_109, ↓e48_110, ↓e48_113, ↓e48_115, ↓e48_119, ↓e48_122, ↓e48_124, znl_i, znl_r, znl_n, zcs_0, zcs_1, zcs_2, zcs_3, zcat_0, zcat_1, zcat_2, zcat_3, zbl_0, zbl_1, true_and, and_true, ↓zret_some, ↓zret_none, Nat.reduceAdd, Nat.reduceLeDiff, Nat.reduceMul, eq_self, Int.reduceToNat, Int.reduceLE, Int.reduceLT, Int.reduceNeg, and_self, zkc_0, zin_1, zin_2, zin_3, zin_4, zin_5, zin_6, zin_7, zin_8, zin_9, zaa_9, zkc_10, zin_11, zin_12, zkc_13, zin_14, zin_15, zkc_16, zin_17, zin_18, zkc_19, zin_20, zin_21, zin_22, zin_23, zin_24, zin_25, zin_26, zin_27, zin_28, zaa_28, zkc_29, zin_30, zin_31, zkc_32, zin_33, zin_34, zkc_35, zin_36, zin_37, zkc_38, zin_39, zin_40, zin_41, zin_42, zin_43, zin_44, zin_45, zin_46, zin_47, zaa_47, zkc_48, zin_49, zin_50, zkc_51, zin_52, zin_53, zkc_54, zin_55, zin_56, zkc_209, zkc_210, zin_211, zaa_211, zkc_212, zin_213, zkc_214, zkc_215, zin_216, zin_217, zkc_218, zin_219, zin_220, zin_221, zkc_222, zin_223, zaa_223, zin_224, zin_225, zkc_226, zin_227, zin_228, zin_229, zin_230, zin_231, zin_232, zkc_233, zin_234, zaa_234, zin_235, zin_236, zin_237, zin_238, zin_239, zin_240, zin_241, zin_242, zin_243, zin_244, zin_245, zin_246, zin_247, zin_248, zin_249, zin_250, zkc_251, zin_252, zin_253, zkc_374, zin_375, zin_376, zin_377, zin_378, zin_379, zin_380, zin_381, zin_382, zin_383, zin_384, zin_385, zin_386, zin_387, zrg, hzq, hc0, Int.toNat_natCast, y2 c hc, t3, t4]
              have hkp : kPart S pl p c x = true ↔ ¬ dd (S 0) q x ≤ dd (S 0) q c := by
                rw [dd_le]
                unfold kPart
                rw [g, ho, Bool.true_and, decide_eq_true_eq, Int.toNat_natCast, hq, Int.toNat_natCast]
                constructor
                · intro z; omega
                · intro z; exact ⟨by omega, by omega, by omega⟩
              by_cases v3 : dd (S 0) q x ≤ dd (S 0) q c
              · rw [if_pos v3]
                exact skip (fun z => hkp.mp z.2 v3) N3 _ _ _ _ hw3 y1 hp3
              · rw [if_neg v3]
                have := hQ N3 hw3 y1
                have e : (if 0 ≤ (x : Int) ∧ kPart S pl p c x = true then (x : Int) else fdr (kPart S pl p c) c n (k + 1)) = x := if_pos ⟨by omega, hkp.mpr v3⟩
                rw [e, if_neg (by omega), ho] at this
                exact this
        · have g2 : ¬ dd (S 0) p x = dd (S 0) p c - 1 := fun z => g ((dd_good hcp).mp z)
          rw [if_pos g2]
          exact no (fun z => g (part_ok z.2).1) _ _ _ _ trivial
  have h9 := loop 4 0 rfl M none none none none (fun _ _ _ _ => rfl) hV hD hQ
  simp only [↓e48, ↓e48_0, ↓e48_1, ↓e48_3, ↓e48_4, ↓e48_7, ↓e48_8, ↓e48_9, ↓e48_12, ↓e48_14, ↓e48_16, ↓e48_19, ↓e48_20, ↓e48_22, ↓e48_23, ↓e48_24, ↓e48_25, ↓e48_26, ↓e48_27, ↓e48_28, ↓e48_31, ↓e48_32, ↓e48_35, ↓e48_36, ↓e48_38, ↓e48_40, ↓e48_43, ↓e48_44, ↓e48_47, ↓e48_50, ↓e48_52, ↓e48_53, ↓e48_56, ↓e48_58, ↓e48_60, ↓e48_62, ↓e48_65, ↓e48_66, ↓e48_69, ↓e48_72, ↓e48_74, ↓e48_75, ↓e48_78, ↓e48_80, ↓e48_82, ↓e48_84, ↓e48_87, ↓e48_88, ↓e48_91, ↓e48_93, ↓e48_96, ↓e48_98, ↓e48_99, ↓e48_100, ↓e48_103, ↓e48_105, ↓e48_108, ↓e48_109, ↓e48_110, ↓e48_113, ↓e48_115, ↓e48_116, ↓e48_119, ↓e48_122, ↓e48_124, znl_i, znl_r, znl_n, zcs_0, zcs_1, zcs_2, zcs_3, zcat_0, zcat_1, zcat_2, zcat_3, zbl_0, zbl_1, true_and, and_true, ↓zret_some, ↓zret_none, Nat.reduceAdd, Nat.reduceLeDiff, Nat.reduceMul, eq_self, Int.reduceToNat, Int.reduceLE, Int.reduceLT, Int.reduceNeg, and_self]
  exact h9
theorem zput_ne {M : zM} {m c r : Int} {b : Nat} (hb : 9 ≤ b) : zput M m c r b = M b := by
  funext i
  have b1 : b ≠ 1 := by omega
  have b2 : b ≠ 2 := by omega
  have b3 : b ≠ 3 := by omega
  have b4 : b ≠ 4 := by omega
  have b5 : b ≠ 5 := by omega
  simp [zput, zup, b1, b2, b3, b4, b5]
theorem zput_8 {M : zM} {m c r : Int} : zput M m c r 8 = M 8 := by
  funext i
  simp [zput, zup]
theorem s_stayOrStep (d : Nat) (Q : zQ) (M S : zM) (m : Nat) (hm : m < 10) (h0 : 0 ≤ S 1 m) (hB : 0 ≤ S 2 m ∧ S 2 m < 2000000000) (hR : RelC M 0 S) (hW : WfS S)
    (hQ : ∀ N, RelC N 0 (if 2 ≤ S 2 m ∧ 0 ≤ frst (kSide S) (S 1 m) then sacc (sput S m (frst (kSide S) (S 1 m)) 5) 4 else zup (sstay S m 3) 2 m (S 2 m + 1)) → (∀ b, 19 ≤ b → N b = M b) → Q none N) :
    Sp (d + 3) 49 [.inr (.inr 251), .inl (m : Int), .inl (S 1 m)] M Q := by
  have hm0 : 0 ≤ (m : Int) ∧ (m : Int) < 10 := ⟨by omega, by omega⟩
  have hc := hW.2.1 m hm
  have hcc : 0 ≤ S 1 m ∧ S 1 m < 120 := ⟨h0, hc.2⟩
  have h2 := hR.2.1 m hm
  have h4 := hR.2.2.2.1 m hm
  simp only [Nat.zero_add] at h2 h4
  rw [if_neg (by omega)] at h2
  have b1 : -2147483648 ≤ S 2 m + 1 ∧ S 2 m + 1 < 2147483648 := ⟨by omega, by omega⟩
  obtain ⟨c, hcN⟩ : ∃ c : Nat, S 1 m = c := ⟨(S 1 m).toNat, by omega⟩
  have stay : ¬ (2 ≤ S 2 m ∧ 0 ≤ frst (kSide S) (S 1 m)) → RT (Sp (d + 2)) 49 Q 56 [some (.inr (.inr 251)), some (.inl (m : Int)), some (.inl (S 1 m)), some (.inl (-5))] [] M := by
    intro hno
    have h9 := hQ (zup (zup (zup (zup M 6 m (M 6 m + 1)) 8 2 (M 8 2 + 1)) 3 m 3) 4 m (M 4 m + 1)) (by
      rw [if_neg hno, h4]
      exact RelC_num (RelC_stay hR hm) (b := 4) (e := 2) (k := m) (v := S 2 m + 1) (by omega)) (fun b hb => by
      rw [zup_ne _ _ _ (by omega), zup_ne _ _ _ (by omega), zup_ne _ _ _ (by omega), zup_ne _ _ _ (by omega)])
    have e4 : zup (zup (zup M 6 m (M 6 m + 1)) 8 2 (M 8 2 + 1)) 3 m 3 4 m = M 4 m := by simp [zup]
    simp only [↓e49, ↓e49_0, ↓e49_1, ↓e49_4, ↓e49_7, ↓e49_8, ↓e49_9, ↓e49_10, ↓e49_11, ↓e49_12, ↓e49_15, ↓e49_16, ↓e49_17, ↓e49_20, ↓e49_23, ↓e49_25, ↓e49_26, ↓e49_27, ↓e49_30, ↓e49_31, ↓e49_34, ↓e49_35, ↓e49_36, ↓e49_37, ↓e49_40, ↓e49_41, ↓e49_44, ↓e49_47, ↓e49_48, ↓e49_49, ↓e49_50, ↓e49_51, ↓e49_52, ↓e49_53, ↓e49_56, ↓e49_57, ↓e49_60, ↓e49_61, ↓e49_62, ↓e49_65, ↓e49_66, ↓e49_69, ↓e49_72, ↓e49_73, ↓e49_74, ↓e49_75, ↓e49_76, ↓e49_77, ↓e49_78, znl_i, znl_r, znl_n, zcs_0, zcs_1, zcs_2, zcs_3, zcat_0, zcat_1, zcat_2, zcat_3, zbl_0, zbl_1, true_and, and_true, ↓zret_some, ↓zret_none, Nat.reduceAdd, Nat.reduceLeDiff, Nat.reduceMul, eq_self, Int.reduceToNat, Int.reduceLE, Int.reduceLT, Int.reduceNeg, and_self, zkc_0, zin_1, zin_2, zin_3, zin_4, zin_5, zin_6, zin_7, zin_8, zin_9, zaa_9, zkc_10, zin_11, zin_12, zkc_13, zin_14, zin_15, zkc_16, zin_17, zin_18, zkc_19, zin_20, zin_21, zin_22, zin_23, zin_24, zin_25, zin_26, zin_27, zin_28, zaa_28, zkc_29, zin_30, zin_31, zkc_32, zin_33, zin_34, zkc_35, zin_36, zin_37, zkc_38, zin_39, zin_40, zin_41, zin_42, zin_43, zin_44, zin_45, zin_46, zin_47, zaa_47, zkc_48, zin_49, zin_50, zkc_51, zin_52, zin_53, zkc_54, zin_55, zin_56, zkc_209, zkc_210, zin_211, zaa_211, zkc_212, zin_213, zkc_214, zkc_215, zin_216, zin_217, zkc_218, zin_219, zin_220, zin_221, zkc_222, zin_223, zaa_223, zin_224, zin_225, zkc_226, zin_227, zin_228, zin_229, zin_230, zin_231, zin_232, zkc_233, zin_234, zaa_234, zin_235, zin_236, zin_237, zin_238, zin_239, zin_240, zin_241, zin_242, zin_243, zin_244, zin_245, zin_246, zin_247, zin_248, zin_249, zin_250, zkc_251, zin_252, zin_253, zkc_374, zin_375, zin_376, zin_377, zin_378, zin_379, zin_380, zin_381, zin_382, zin_383, zin_384, zin_385, zin_386, zin_387, ↓s_stay (d + 1) _ M m 3 hm0, Int.toNat_natCast, hm0, e4]
    exact h9
  simp only [↓e49, ↓e49_0, ↓e49_1, ↓e49_4, ↓e49_7, ↓e49_8, ↓e49_9, ↓e49_10, ↓e49_11, ↓e49_12, ↓e49_16, ↓e49_17, ↓e49_20, ↓e49_23, ↓e49_25, ↓e49_26, ↓e49_27, ↓e49_30, ↓e49_31, ↓e49_34, ↓e49_35, ↓e49_36, ↓e49_37, ↓e49_40, ↓e49_41, ↓e49_44, ↓e49_47, ↓e49_48, ↓e49_49, ↓e49_50, ↓e49_51, ↓e49_52, ↓e49_53, ↓e49_57, ↓e49_60, ↓e49_61, ↓e49_62, ↓e49_65, ↓e49_66, ↓e49_69, ↓e49_72, ↓e49_73, ↓e49_74, ↓e49_75, ↓e49_76, ↓e49_77, ↓e49_78, znl_i, znl_r, znl_n, zcs_0, zcs_1, zcs_2, zcs_3, zcat_0, zcat_1, zcat_2, zcat_3, zbl_0, zbl_1, true_and, and_true, ↓zret_some, ↓zret_none, Nat.reduceAdd, Nat.reduceLeDiff, Nat.reduceMul, eq_self, Int.reduceToNat, Int.reduceLE, Int.reduceLT, Int.reduceNeg, and_self, zrg, zkc_0, zin_1, zin_2, zin_3, zin_4, zin_5, zin_6, zin_7, zin_8, zin_9, zaa_9, zkc_10, zin_11, zin_12, zkc_13, zin_14, zin_15, zkc_16, zin_17, zin_18, zkc_19, zin_20, zin_21, zin_22, zin_23, zin_24, zin_25, zin_26, zin_27, zin_28, zaa_28, zkc_29, zin_30, zin_31, zkc_32, zin_33, zin_34, zkc_35, zin_36, zin_37, zkc_38, zin_39, zin_40, zin_41, zin_42, zin_43, zin_44, zin_45, zin_46, zin_47, zaa_47, zkc_48, zin_49, zin_50, zkc_51, zin_52, zin_53, zkc_54, zin_55, zin_56, zkc_209, zkc_210, zin_211, zaa_211, zkc_212, zin_213, zkc_214, zkc_215, zin_216, zin_217, zkc_218, zin_219, zin_220, zin_221, zkc_222, zin_223, zaa_223, zin_224, zin_225, zkc_226, zin_227, zin_228, zin_229, zin_230, zin_231, zin_232, zkc_233, zin_234, zaa_234, zin_235, zin_236, zin_237, zin_238, zin_239, zin_240, zin_241, zin_242, zin_243, zin_244, zin_245, zin_246, zin_247, zin_248, zin_249, zin_250, zkc_251, zin_252, zin_253, zkc_374, zin_375, zin_376, zin_377, zin_378, zin_379, zin_380, zin_381, zin_382, zin_383, zin_384, zin_385, zin_386, zin_387, hm0, Int.toNat_natCast, h4, b1]
  by_cases a : S 2 m + 1 < 3
  · rw [if_pos a]
    simp
    exact stay (fun z => by omega)
  · rw [if_neg a]
    simp only [↓e49, ↓e49_0, ↓e49_1, ↓e49_4, ↓e49_7, ↓e49_8, ↓e49_9, ↓e49_10, ↓e49_11, ↓e49_12, ↓e49_15, ↓e49_16, ↓e49_17, ↓e49_20, ↓e49_23, ↓e49_25, ↓e49_26, ↓e49_27, ↓e49_31, ↓e49_34, ↓e49_35, ↓e49_36, ↓e49_37, ↓e49_40, ↓e49_41, ↓e49_44, ↓e49_47, ↓e49_48, ↓e49_49, ↓e49_50, ↓e49_51, ↓e49_52, ↓e49_53, ↓e49_57, ↓e49_60, ↓e49_61, ↓e49_62, ↓e49_65, ↓e49_66, ↓e49_69, ↓e49_72, ↓e49_73, ↓e49_74, ↓e49_75, ↓e49_76, ↓e49_77, ↓e49_78, znl_i, znl_r, znl_n, zcs_0, zcs_1, zcs_2, zcs_3, zcat_0, zcat_1, zcat_2, zcat_3, zbl_0, zbl_1, true_and, and_true, ↓zret_some, ↓zret_none, Nat.reduceAdd, Nat.reduceLeDiff, Nat.reduceMul, eq_self, Int.reduceToNat, Int.reduceLE, Int.reduceLT, Int.reduceNeg, and_self, zrg, zkc_0, zin_1, zin_2, zin_3, zin_4, zin_5, zin_6, zin_7, zin_8, zin_9, zaa_9, zkc_10, zin_11, zin_12, zkc_13, zin_14, zin_15, zkc_16, zin_17, zin_18, zkc_19, zin_20, zin_21, zin_22, zin_23, zin_24, zin_25, zin_26, zin_27, zin_28, zaa_28, zkc_29, zin_30, zin_31, zkc_32, zin_33, zin_34, zkc_35, zin_36, zin_37, zkc_38, zin_39, zin_40, zin_41, zin_42, zin_43, zin_44, zin_45, zin_46, zin_47, zaa_47, zkc_48, zin_49, zin_50, zkc_51, zin_52, zin_53, zkc_54, zin_55, zin_56, zkc_209, zkc_210, zin_211, zaa_211, zkc_212, zin_213, zkc_214, zkc_215, zin_216, zin_217, zkc_218, zin_219, zin_220, zin_221, zkc_222, zin_223, zaa_223, zin_224, zin_225, zkc_226, zin_227, zin_228, zin_229, zin_230, zin_231, zin_232, zkc_233, zin_234, zaa_234, zin_235, zin_236, zin_237, zin_238, zin_239, zin_240, zin_241, zin_242, zin_243, zin_244, zin_245, zin_246, zin_247, zin_248, zin_249, zin_250, zkc_251, zin_252, zin_253, zkc_374, zin_375, zin_376, zin_377, zin_378, zin_379, zin_380, zin_381, zin_382, zin_383, zin_384, zin_385, zin_386, zin_387, hcN, ↓s_firstFree d _ M S c (by omega) hR]
    rcases frst_cases (ok := kSide S) hcc with z | ⟨z1, z2, z3, z4⟩
    · have hn : ¬ (2 ≤ S 2 m ∧ 0 ≤ frst (kSide S) (S 1 m)) := fun w => by omega
      have h9 := stay hn
      rw [hcN] at z h9
      rw [z]
      simp [m5]
      exact h9
    · have hy : 2 ≤ S 2 m ∧ 0 ≤ frst (kSide S) (S 1 m) := ⟨by omega, z1⟩
      rw [if_pos hy] at hQ
      have z5 := of_decide_eq_true z3
      rw [hcN] at z1 z2 z5 hQ hy
      have z6 : ((((frst (kSide S) (c : Int))).toNat : Nat) : Int) = frst (kSide S) (c : Int) := by omega
      rw [z6] at z5
      generalize frst (kSide S) (c : Int) = f at *
      have z7 : -2147483648 ≤ m5 f ∧ m5 f < 2147483648 := by unfold m5; constructor <;> split <;> omega
      have z8 : m5 f = f := by unfold m5; rw [if_neg (by omega)]
      have h9 := hQ _ (RelC_acc (RelC_put (r := 5) hR hW hm h0 ⟨z1, z2⟩ z5.2 z5.1) (k := 4) (by omega)) (fun b hb => by
        rw [zup_ne _ _ _ (by omega), zput_ne (by omega), zup_ne _ _ _ (by omega)])
      have h8 : 0 ≤ M 2 (m : Int).toNat ∧ M 2 (m : Int).toNat < 120 := by rw [Int.toNat_natCast, h2]; omega
      rw [z8] at z7 ⊢
      simp only [z7, true_and, and_self, if_neg (show ¬ f < 0 by omega)]
      simp only [↓e49, ↓e49_0, ↓e49_1, ↓e49_4, ↓e49_7, ↓e49_8, ↓e49_9, ↓e49_10, ↓e49_11, ↓e49_12, ↓e49_15, ↓e49_16, ↓e49_17, ↓e49_20, ↓e49_23, ↓e49_25, ↓e49_26, ↓e49_27, ↓e49_30, ↓e49_31, ↓e49_34, ↓e49_35, ↓e49_36, ↓e49_37, ↓e49_40, ↓e49_41, ↓e49_44, ↓e49_47, ↓e49_48, ↓e49_49, ↓e49_50, ↓e49_51, ↓e49_52, ↓e49_53, ↓e49_57, ↓e49_60, ↓e49_61, ↓e49_62, ↓e49_65, ↓e49_66, ↓e49_69, ↓e49_72, ↓e49_73, ↓e49_74, ↓e49_75, ↓e49_76, ↓e49_77, ↓e49_78, znl_i, znl_r, znl_n, zcs_0, zcs_1, zcs_2, zcs_3, zcat_0, zcat_1, zcat_2, zcat_3, zbl_0, zbl_1, true_and, and_true, ↓zret_some, ↓zret_none, Nat.reduceAdd, Nat.reduceLeDiff, Nat.reduceMul, eq_self, Int.reduceToNat, Int.reduceLE, Int.reduceLT, Int.reduceNeg, and_self, zrg, zkc_0, zin_1, zin_2, zin_3, zin_4, zin_5, zin_6, zin_7, zin_8, zin_9, zaa_9, zkc_10, zin_11, zin_12, zkc_13, zin_14, zin_15, zkc_16, zin_17, zin_18, zkc_19, zin_20, zin_21, zin_22, zin_23, zin_24, zin_25, zin_26, zin_27, zin_28, zaa_28, zkc_29, zin_30, zin_31, zkc_32, zin_33, zin_34, zkc_35, zin_36, zin_37, zkc_38, zin_39, zin_40, zin_41, zin_42, zin_43, zin_44, zin_45, zin_46, zin_47, zaa_47, zkc_48, zin_49, zin_50, zkc_51, zin_52, zin_53, zkc_54, zin_55, zin_56, zkc_209, zkc_210, zin_211, zaa_211, zkc_212, zin_213, zkc_214, zkc_215, zin_216, zin_217, zkc_218, zin_219, zin_220, zin_221, zkc_222, zin_223, zaa_223, zin_224, zin_225, zkc_226, zin_227, zin_228, zin_229, zin_230, zin_231, zin_232, zkc_233, zin_234, zaa_234, zin_235, zin_236, zin_237, zin_238, zin_239, zin_240, zin_241, zin_242, zin_243, zin_244, zin_245, zin_246, zin_247, zin_248, zin_249, zin_250, zkc_251, zin_252, zin_253, zkc_374, zin_375, zin_376, zin_377, zin_378, zin_379, zin_380, zin_381, zin_382, zin_383, zin_384, zin_385, zin_386, zin_387, ↓s_step d _ M m f 5 hm0 ⟨z1, z2⟩ h8, Int.toNat_natCast, zput_8]
      rw [zput_8] at h9
      exact h9
