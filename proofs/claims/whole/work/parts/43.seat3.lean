/-! ### Match.seat and Match.solve -/
theorem HT_cnt {M N : zM} {n ρ j t : Nat} {cs : Nat → Nat} (h : HT M N n ρ j t cs) (hfree : ∃ f : Nat, 1 ≤ f ∧ f ≤ n ∧ N 235 f = 0) : t ≤ n := by
  obtain ⟨ha, ⟨hb0, hb1⟩, h3, hd, he, hf, ⟨hg1, hg2, hg3, hg4⟩, -⟩ := h
  obtain ⟨f, f1, f2, f3⟩ := hfree
  have := pig (n + 1) (t + 1) (fun i => if i = t then f else cs i) (fun i hi => by
    show (if i = t then f else cs i) < n + 1
    split
    · omega
    · have := (hg3 i (by omega)).1; omega) (fun i k hi hk e => by
    have e : (if i = t then f else cs i) = (if k = t then f else cs k) := e
    split at e <;> split at e
    · omega
    · have := (hg3 k (by omega)).2
      rw [← e, f3] at this; omega
    · have := (hg3 i (by omega)).2
      rw [e, f3] at this; omega
    · exact hg4 i k (by omega) (by omega) e)
  omega
theorem s_seat (d : Nat) (Q : zQ) (M : zM) (n ρ : Nat) (hn : n < 20) (hρ1 : 1 ≤ ρ) (hρ : ρ < 10) (hρn : ρ ≤ n) (hM : HM M n (ρ - 1)) (hP : Pr M n ρ)
    (hQ : ∀ N, HM N n ρ → (∀ b, b ≠ 235 → b ≠ 236 → b ≠ 237 → b ≠ 238 → b ≠ 239 → b ≠ 250 → N b = M b) → Q none N) : Sp (d + 2) 15 [.inr (.inr 233), .inl (ρ : Int), .inl (n : Int)] M Q := by
  have hnr : -2147483648 ≤ (n : Int) ∧ (n : Int) < 2147483648 := ⟨by omega, by omega⟩
  obtain ⟨m1, m2, m3, m4, m5, m6, m7⟩ := id hM
  obtain ⟨f, f1, f2, f3⟩ := HM_free hM (by omega)
  -- the way back
  have loopC : ∀ m s : Nat, s + m = n + 1 → ∀ (Ns N : zM) (jf c idx t : Nat) (cs : Nat → Nat), HT M Ns n ρ jf t cs → AU Ns N n ρ jf c idx t cs → t ≤ n → s + idx ≤ t →
      RT (Sp (d + 1)) 15 Q 79 [some (.inr (.inr 233)), some (.inl (ρ : Int)), some (.inl (n : Int)), some (.inl (c : Int)), some (.inl (s : Int))] [] N := by
    intro m
    induction m with
    | zero => intro s hs Ns N jf c idx t cs hT hA ht hst; omega
    | succ m ih =>
      intro s hs Ns N jf c idx t cs hT hA ht hst
      have hsr : -2147483648 ≤ (s : Int) ∧ (s : Int) < 2147483648 := ⟨by omega, by omega⟩
      have e1 : ¬ (s : Int) > n := by omega
      have hcn := hA.2.1.1
      have hcr : -2147483648 ≤ (c : Int) ∧ (c : Int) < 2147483648 := ⟨by omega, by omega⟩
      by_cases hc : c = 0
      · subst hc
        have h9 := hQ N (AU_end hT hA) (fun b b1 b2 b3 b4 b5 b6 => by rw [hA.1 b b1]; exact hT.1 b b1 b2 b3 b4 b5 b6)
        rw [e15_79]
        simp only [↓e15, ↓e15_0, ↓e15_1, ↓e15_2, ↓e15_3, ↓e15_4, ↓e15_7, ↓e15_8, ↓e15_11, ↓e15_12, ↓e15_15, ↓e15_16, ↓e15_17, ↓e15_20, ↓e15_21, ↓e15_22, ↓e15_23, ↓e15_26, ↓e15_29, ↓e15_30, ↓e15_33, ↓e15_34, ↓e15_35, ↓e15_36, ↓e15_37, ↓e15_38, ↓e15_39, ↓e15_41, ↓e15_43, ↓e15_44, ↓e15_47, ↓e15_48, ↓e15_51, ↓e15_52, ↓e15_53, ↓e15_56, ↓e15_57, ↓e15_60, ↓e15_61, ↓e15_62, ↓e15_63, ↓e15_64, ↓e15_65, ↓e15_66, ↓e15_69, ↓e15_70, ↓e15_73, ↓e15_76, ↓e15_77, ↓e15_81, ↓e15_82, ↓e15_85, ↓e15_86, ↓e15_89, ↓e15_90, ↓e15_93, ↓e15_94, ↓e15_95, ↓e15_98, ↓e15_99, ↓e15_102, ↓e15_103, ↓e15_104, ↓e15_105, ↓e15_106, ↓e15_107, ↓e15_110, ↓e15_111, ↓e15_112, ↓e15_113, ↓e15_116, ↓e15_119, znl_i, znl_r, znl_n, zcs_0, zcs_1, zcs_2, zcs_3, zcat_0, zcat_1, zcat_2, zcat_3, zbl_0, zbl_1, true_and, and_true, ↓zret_some, ↓zret_none, Nat.reduceAdd, Nat.reduceLeDiff, Nat.reduceMul, eq_self, Int.reduceToNat, zrg, hnr, hsr, e1, ↓reduceIte]
        simp
        exact h9
      · obtain ⟨k, k1, k2, k3, k4⟩ := AU_step hT hA hc hρ (fun c c1 c2 => by
          have := m1 c c1 c2
          rw [hT.2.1.2 c c1]; omega) hρ1
        have e2 : ¬ (c : Int) = 0 := by omega
        have e3 : 0 ≤ (c : Int) ∧ (c : Int) < 20 := ⟨by omega, by omega⟩
        have e4 : 0 ≤ (cs k : Int) ∧ (cs k : Int) < 20 := ⟨by omega, by omega⟩
        have h9 := ih (s + 1) (by omega) Ns _ jf (cs k) k t cs hT k4 ht (by omega)
        have k5 : ∀ z : Int, zup N 235 c z 239 = N 239 := fun z => zup_ne _ _ _ (by omega)
        rw [e15_79]
        simp only [↓e15, ↓e15_0, ↓e15_1, ↓e15_2, ↓e15_3, ↓e15_4, ↓e15_7, ↓e15_8, ↓e15_11, ↓e15_12, ↓e15_15, ↓e15_16, ↓e15_17, ↓e15_20, ↓e15_21, ↓e15_22, ↓e15_23, ↓e15_26, ↓e15_29, ↓e15_30, ↓e15_33, ↓e15_34, ↓e15_35, ↓e15_36, ↓e15_37, ↓e15_38, ↓e15_39, ↓e15_41, ↓e15_43, ↓e15_44, ↓e15_47, ↓e15_48, ↓e15_51, ↓e15_52, ↓e15_53, ↓e15_56, ↓e15_57, ↓e15_60, ↓e15_61, ↓e15_62, ↓e15_63, ↓e15_64, ↓e15_65, ↓e15_66, ↓e15_69, ↓e15_70, ↓e15_73, ↓e15_76, ↓e15_77, ↓e15_81, ↓e15_82, ↓e15_85, ↓e15_86, ↓e15_89, ↓e15_90, ↓e15_93, ↓e15_94, ↓e15_95, ↓e15_98, ↓e15_99, ↓e15_102, ↓e15_103, ↓e15_104, ↓e15_105, ↓e15_106, ↓e15_107, ↓e15_110, ↓e15_111, ↓e15_112, ↓e15_113, ↓e15_116, ↓e15_119, znl_i, znl_r, znl_n, zcs_0, zcs_1, zcs_2, zcs_3, zcat_0, zcat_1, zcat_2, zcat_3, zbl_0, zbl_1, true_and, and_true, ↓zret_some, ↓zret_none, Nat.reduceAdd, Nat.reduceLeDiff, Nat.reduceMul, eq_self, Int.reduceToNat, zrg, hnr, hsr, hcr, e1, e2, e3, e4, ↓reduceIte, zkc_0, zin_1, zin_2, zin_3, zin_4, zin_5, zin_6, zin_7, zin_8, zin_9, zaa_9, zkc_10, zin_11, zin_12, zkc_13, zin_14, zin_15, zkc_16, zin_17, zin_18, zkc_19, zin_20, zin_21, zin_22, zin_23, zin_24, zin_25, zin_26, zin_27, zin_28, zaa_28, zkc_29, zin_30, zin_31, zkc_32, zin_33, zin_34, zkc_35, zin_36, zin_37, zkc_38, zin_39, zin_40, zin_41, zin_42, zin_43, zin_44, zin_45, zin_46, zin_47, zaa_47, zkc_48, zin_49, zin_50, zkc_51, zin_52, zin_53, zkc_54, zin_55, zin_56, zkc_209, zkc_210, zin_211, zaa_211, zkc_212, zin_213, zkc_214, zkc_215, zin_216, zin_217, zkc_218, zin_219, zin_220, zin_221, zkc_222, zin_223, zaa_223, zin_224, zin_225, zkc_226, zin_227, zin_228, zin_229, zin_230, zin_231, zin_232, zkc_233, zin_234, zaa_234, zin_235, zin_236, zin_237, zin_238, zin_239, zin_240, zin_241, zin_242, zin_243, zin_244, zin_245, zin_246, zin_247, zin_248, zin_249, zin_250, zkc_251, zin_252, zin_253, zkc_374, zin_375, zin_376, zin_377, zin_378, zin_379, zin_380, zin_381, zin_382, zin_383, zin_384, zin_385, zin_386, zin_387, Int.toNat_natCast, k2, k5]
        rw [show ((s : Int) + 1) = ((s + 1 : Nat) : Int) by omega]
        exact h9
  -- the search
  have loopB : ∀ m t : Nat, t + m = n + 1 → ∀ (N : zM) (j : Nat) (cs : Nat → Nat), HT M N n ρ j t cs →
      RT (Sp (d + 1)) 15 Q 41 [some (.inr (.inr 233)), some (.inl (ρ : Int)), some (.inl (n : Int)), some (.inl (j : Int)), some (.inl (t : Int))] [] N := by
    intro m
    induction m with
    | zero =>
      intro t ht N j cs hT
      have := HT_cnt hT ⟨f, f1, f2, by rw [hT.2.1.2 f f1]; exact f3⟩
      omega
    | succ m ih =>
      intro t ht N j cs hT
      have hfree : ∃ f : Nat, 1 ≤ f ∧ f ≤ n ∧ N 235 f = 0 := ⟨f, f1, f2, by rw [hT.2.1.2 f f1]; exact f3⟩
      have htn := HT_cnt hT hfree
      have htr : -2147483648 ≤ (t : Int) ∧ (t : Int) < 2147483648 := ⟨by omega, by omega⟩
      have e1 : ¬ (t : Int) > n := by omega
      have hjn := hT.2.2.2.2.2.2.2.1.2.1
      have e3 : 0 ≤ (j : Int) ∧ (j : Int) < 20 := ⟨by omega, by omega⟩
      have hNr : ∀ c : Nat, 1 ≤ c → c ≤ n → 0 ≤ N 235 c ∧ N 235 c < ρ := fun c c1 c2 => by
        have := m1 c c1 c2
        rw [hT.2.1.2 c c1]; omega
      have hNi : ∀ c e : Nat, 1 ≤ c → c ≤ n → 1 ≤ e → e ≤ n → N 235 c ≠ 0 → N 235 c = N 235 e → c = e := fun c e c1 c2 d1 d2 => by
        rw [hT.2.1.2 c c1, hT.2.1.2 e d1]
        exact m2 c e c1 c2 d1 d2
      have hpj0 : 0 ≤ N 235 j ∧ N 235 j ≤ ρ := by
        by_cases z : j = 0
        · rw [z, hT.2.1.1]; omega
        · have := hNr j (by omega) hjn; omega
      have hpjr : -2147483648 ≤ N 235 j ∧ N 235 j < 2147483648 := by omega
      by_cases hpj : N 235 j = 0
      · have hA := AU_init hT hρ1 hNr hNi (fun i i1 i2 => by
          obtain ⟨c, c1, c2, c3⟩ := m3 i i1 (by omega)
          exact ⟨c, c1, c2, by rw [hT.2.1.2 c c1]; exact c3⟩) hpj
        have h9 := loopC (n + 1) 0 (by omega) N N j j t t cs hT hA htn (by omega)
        rw [e15_41]
        simp only [↓e15, ↓e15_0, ↓e15_1, ↓e15_2, ↓e15_3, ↓e15_4, ↓e15_7, ↓e15_8, ↓e15_11, ↓e15_12, ↓e15_15, ↓e15_16, ↓e15_17, ↓e15_20, ↓e15_21, ↓e15_22, ↓e15_23, ↓e15_26, ↓e15_29, ↓e15_30, ↓e15_33, ↓e15_34, ↓e15_35, ↓e15_36, ↓e15_37, ↓e15_38, ↓e15_39, ↓e15_43, ↓e15_44, ↓e15_47, ↓e15_48, ↓e15_51, ↓e15_52, ↓e15_53, ↓e15_56, ↓e15_57, ↓e15_60, ↓e15_61, ↓e15_62, ↓e15_63, ↓e15_64, ↓e15_65, ↓e15_66, ↓e15_69, ↓e15_70, ↓e15_73, ↓e15_76, ↓e15_77, ↓e15_81, ↓e15_82, ↓e15_85, ↓e15_86, ↓e15_89, ↓e15_90, ↓e15_93, ↓e15_94, ↓e15_95, ↓e15_98, ↓e15_99, ↓e15_102, ↓e15_103, ↓e15_104, ↓e15_105, ↓e15_106, ↓e15_107, ↓e15_110, ↓e15_111, ↓e15_112, ↓e15_113, ↓e15_116, ↓e15_119, znl_i, znl_r, znl_n, zcs_0, zcs_1, zcs_2, zcs_3, zcat_0, zcat_1, zcat_2, zcat_3, zbl_0, zbl_1, true_and, and_true, ↓zret_some, ↓zret_none, Nat.reduceAdd, Nat.reduceLeDiff, Nat.reduceMul, eq_self, Int.reduceToNat, zrg, hnr, htr, e1, e3, hpj, ↓reduceIte, zkc_0, zin_1, zin_2, zin_3, zin_4, zin_5, zin_6, zin_7, zin_8, zin_9, zaa_9, zkc_10, zin_11, zin_12, zkc_13, zin_14, zin_15, zkc_16, zin_17, zin_18, zkc_19, zin_20, zin_21, zin_22, zin_23, zin_24, zin_25, zin_26, zin_27, zin_28, zaa_28, zkc_29, zin_30, zin_31, zkc_32, zin_33, zin_34, zkc_35, zin_36, zin_37, zkc_38, zin_39, zin_40, zin_41, zin_42, zin_43, zin_44, zin_45, zin_46, zin_47, zaa_47, zkc_48, zin_49, zin_50, zkc_51, zin_52, zin_53, zkc_54, zin_55, zin_56, zkc_209, zkc_210, zin_211, zaa_211, zkc_212, zin_213, zkc_214, zkc_215, zin_216, zin_217, zkc_218, zin_219, zin_220, zin_221, zkc_222, zin_223, zaa_223, zin_224, zin_225, zkc_226, zin_227, zin_228, zin_229, zin_230, zin_231, zin_232, zkc_233, zin_234, zaa_234, zin_235, zin_236, zin_237, zin_238, zin_239, zin_240, zin_241, zin_242, zin_243, zin_244, zin_245, zin_246, zin_247, zin_248, zin_249, zin_250, zkc_251, zin_252, zin_253, zkc_374, zin_375, zin_376, zin_377, zin_378, zin_379, zin_380, zin_381, zin_382, zin_383, zin_384, zin_385, zin_386, zin_387, Int.toNat_natCast]
        simp
        exact h9
      · have hPN : Pr N n ρ := fun i c i1 i2 c1 c2 => by
          rw [hT.1 (240 + i) (by omega) (by omega) (by omega) (by omega) (by omega) (by omega)]
          exact hP i c i1 i2 c1 c2
        obtain ⟨bu, bv⟩ := HT_bnd hT hPN hfree hρ hNr
        obtain ⟨row, hrow⟩ : ∃ row : Nat, N 235 j = row := ⟨(N 235 j).toNat, by omega⟩
        have hrw : (N 235 j).toNat = row := by omega
        have hrowb : 1 ≤ row ∧ row ≤ ρ ∧ row < 10 := by omega
        have hN1 : ∀ b, b ≠ 250 → zup N 250 j 1 b = N b := fun b hb => zup_ne _ _ _ hb
        have hN1r : ∀ c : Nat, zup N 250 j 1 250 c = if c = j then 1 else N 250 c := fun c => by simp [zup]
        have hrst : ∀ c : Nat, rst (zup N 250 j 1) row c = N (240 + row) c - N 236 row - N 237 c := fun c => by
          unfold rst
          rw [hN1 _ (by omega), hN1 236 (by omega), hN1 237 (by omega)]
        obtain ⟨-, ⟨hb0, hb1⟩, hc, hd, he, hf, ⟨hg1, hg2, hg3, hg4⟩, ⟨hj1, hj2, hj3, hj4⟩, hw, hwj, hs0, hs1⟩ := id hT
        have hrb : ∀ c : Nat, 1 ≤ c → c ≤ n → 0 ≤ rst (zup N 250 j 1) row c ∧ rst (zup N 250 j 1) row c < 1152921504606846976 := fun c c1 c2 => by
          have a1 := hc row c hrowb.1 hrowb.2.1 c1 c2
          have a2 := hPN row c hrowb.1 hrowb.2.1 c1 c2
          have a3 := bu row hrowb.1 hrowb.2.1
          have a4 := bv c c1 c2
          rw [hrst c]
          omega
        have hsb : ∀ c : Nat, 1 ≤ c → c ≤ n → N 250 c = 0 → 0 ≤ N 238 c ∧ N 238 c ≤ 1152921504606846976 := fun c c1 c2 c4 => by
          by_cases z : t = 0
          · rw [hs0 z c c1 c2]; omega
          · obtain ⟨k, k1, k2, k3⟩ := (hs1 (by omega) c c1 c2 c4).2
            have hk := hg3 k k1
            have hkr : 1 ≤ (N 235 (cs k)).toNat ∧ (N 235 (cs k)).toNat ≤ ρ := by
              by_cases y : cs k = 0
              · rw [y, hb0]; simp; omega
              · have := hNr (cs k) (by omega) hk.1; omega
            have a1 := hc _ c hkr.1 hkr.2 c1 c2
            have a2 := hPN _ c hkr.1 hkr.2 c1 c2
            have a3 := bu _ hkr.1 hkr.2
            have a4 := bv c c1 c2
            omega
        have hcall : ∀ Q' : zQ, (∀ (N2 N3 : zM) (x : Nat) (least : Int), R1 (zup N 250 j 1) N2 row n j (n + 1) x least → 1 ≤ x → x ≤ n → zup N 250 j 1 250 x = 0 → least = sl1 (zup N 250 j 1) row x → (∀ c : Nat, 1 ≤ c → c ≤ n → zup N 250 j 1 250 c = 0 → least ≤ sl1 (zup N 250 j 1) row c) → R2 N2 N3 least (n + 1) → Q' (some (.inl (x : Int))) N3) →
            Sp (d + 1) 16 [.inr (.inr 233), .inl (j : Int), .inl (n : Int)] (zup N 250 j 1) Q' := by
          intro Q' hQ'
          refine s_reach d Q' (zup N 250 j 1) j n row hjn hn (by rw [hN1 235 (by omega)]; exact hrow) hrowb.1 hrowb.2.2 (fun c c1 => ?_) (fun c c1 c2 => ?_) (fun c e c1 d1 c2 d2 => ?_) (fun c c1 c2 c3 => ?_) ⟨f, f1, f2, ?_⟩ hQ'
          · rw [hN1r c]; split
            · exact Or.inr rfl
            · exact hg1 c c1
          · rw [hN1 235 (by omega)]
            rw [hN1r c] at c2
            have : N 235 c ≠ 0 := by
              by_cases z : c = j
              · rw [z]; exact hpj
              · rw [if_neg z] at c2
                obtain ⟨i, i1, i2⟩ := (hg2 c c1).mp c2
                have := (hg3 i i1).2
                rw [i2] at this; exact this
            by_cases y : c = 0
            · rw [y, hb0]; omega
            · have := hNr c (by omega) c1; omega
          · rw [hN1 235 (by omega)]
            intro hq
            have nz : ∀ c : Nat, c ≤ n → zup N 250 j 1 250 c = 1 → N 235 c ≠ 0 := fun c c1 c2 => by
              rw [hN1r c] at c2
              by_cases z : c = j
              · rw [z]; exact hpj
              · rw [if_neg z] at c2
                obtain ⟨i, i1, i2⟩ := (hg2 c c1).mp c2
                have := (hg3 i i1).2
                rw [i2] at this; exact this
            by_cases y1 : c = 0 <;> by_cases y2 : e = 0
            · omega
            · rw [y1, hb0] at hq
              have := hNr e (by omega) d1; omega
            · rw [y2, hb0] at hq
              have := hNr c (by omega) c1; omega
            · exact hNi c e (by omega) c1 (by omega) d1 (nz c c1 c2) hq
          · have c4 : N 250 c = 0 := by
              rw [hN1r c] at c3; split at c3
              · omega
              · exact c3
            have := hrb c c1 c2
            have := hsb c c1 c2 c4
            rw [hN1 238 (by omega)]
            omega
          · rw [hN1r f]
            have : N 235 f = 0 := by rw [hb1 f f1]; exact f3
            rw [if_neg (fun z => hpj (by rw [← z]; exact this))]
            rcases hg1 f f2 with q | q
            · exact q
            · exfalso
              obtain ⟨i, i1, i2⟩ := (hg2 f f2).mp q
              have := (hg3 i i1).2
              rw [i2] at this; omega
        rw [e15_41]
        simp only [↓e15, ↓e15_0, ↓e15_1, ↓e15_2, ↓e15_3, ↓e15_4, ↓e15_7, ↓e15_8, ↓e15_11, ↓e15_12, ↓e15_15, ↓e15_16, ↓e15_17, ↓e15_20, ↓e15_21, ↓e15_22, ↓e15_23, ↓e15_26, ↓e15_29, ↓e15_30, ↓e15_33, ↓e15_34, ↓e15_35, ↓e15_36, ↓e15_37, ↓e15_38, ↓e15_39, ↓e15_43, ↓e15_44, ↓e15_47, ↓e15_48, ↓e15_51, ↓e15_52, ↓e15_53, ↓e15_56, ↓e15_57, ↓e15_60, ↓e15_61, ↓e15_62, ↓e15_63, ↓e15_64, ↓e15_65, ↓e15_66, ↓e15_70, ↓e15_73, ↓e15_76, ↓e15_77, ↓e15_79, ↓e15_81, ↓e15_82, ↓e15_85, ↓e15_86, ↓e15_89, ↓e15_90, ↓e15_93, ↓e15_94, ↓e15_95, ↓e15_98, ↓e15_99, ↓e15_102, ↓e15_103, ↓e15_104, ↓e15_105, ↓e15_106, ↓e15_107, ↓e15_110, ↓e15_111, ↓e15_112, ↓e15_113, ↓e15_116, ↓e15_119, znl_i, znl_r, znl_n, zcs_0, zcs_1, zcs_2, zcs_3, zcat_0, zcat_1, zcat_2, zcat_3, zbl_0, zbl_1, true_and, and_true, ↓zret_some, ↓zret_none, Nat.reduceAdd, Nat.reduceLeDiff, Nat.reduceMul, eq_self, Int.reduceToNat, zrg, hnr, htr, e1, e3, hpj, hpjr, ↓reduceIte, zkc_0, zin_1, zin_2, zin_3, zin_4, zin_5, zin_6, zin_7, zin_8, zin_9, zaa_9, zkc_10, zin_11, zin_12, zkc_13, zin_14, zin_15, zkc_16, zin_17, zin_18, zkc_19, zin_20, zin_21, zin_22, zin_23, zin_24, zin_25, zin_26, zin_27, zin_28, zaa_28, zkc_29, zin_30, zin_31, zkc_32, zin_33, zin_34, zkc_35, zin_36, zin_37, zkc_38, zin_39, zin_40, zin_41, zin_42, zin_43, zin_44, zin_45, zin_46, zin_47, zaa_47, zkc_48, zin_49, zin_50, zkc_51, zin_52, zin_53, zkc_54, zin_55, zin_56, zkc_209, zkc_210, zin_211, zaa_211, zkc_212, zin_213, zkc_214, zkc_215, zin_216, zin_217, zkc_218, zin_219, zin_220, zin_221, zkc_222, zin_223, zaa_223, zin_224, zin_225, zkc_226, zin_227, zin_228, zin_229, zin_230, zin_231, zin_232, zkc_233, zin_234, zaa_234, zin_235, zin_236, zin_237, zin_238, zin_239, zin_240, zin_241, zin_242, zin_243, zin_244, zin_245, zin_246, zin_247, zin_248, zin_249, zin_250, zkc_251, zin_252, zin_253, zkc_374, zin_375, zin_376, zin_377, zin_378, zin_379, zin_380, zin_381, zin_382, zin_383, zin_384, zin_385, zin_386, zin_387, Int.toNat_natCast]
        refine hcall _ (fun N2 N3 x least g1 g2 g3 g4 g5 g6 g7 => ?_)
        have hT' := HT_step (N1 := zup N 250 j 1) (N2 := N2) (N3 := N3) (x := x) (least := least) hT hn hρ hρ1 hNr hNi hpj rfl (by rw [hrw]; exact g1) g2 g3 g4 (by rw [hrw]; exact g5) (by rw [hrw]; exact g6) g7 (by rw [hrw]; exact fun c c1 c2 _ => (hrb c c1 c2).2)
        have h9 := ih (t + 1) (by omega) N3 x _ hT'
        simp only [↓e15, ↓e15_0, ↓e15_1, ↓e15_2, ↓e15_3, ↓e15_4, ↓e15_7, ↓e15_8, ↓e15_11, ↓e15_12, ↓e15_15, ↓e15_16, ↓e15_17, ↓e15_20, ↓e15_21, ↓e15_22, ↓e15_23, ↓e15_26, ↓e15_29, ↓e15_30, ↓e15_33, ↓e15_34, ↓e15_35, ↓e15_36, ↓e15_37, ↓e15_38, ↓e15_39, ↓e15_43, ↓e15_44, ↓e15_47, ↓e15_48, ↓e15_51, ↓e15_52, ↓e15_53, ↓e15_56, ↓e15_57, ↓e15_60, ↓e15_61, ↓e15_62, ↓e15_63, ↓e15_64, ↓e15_65, ↓e15_66, ↓e15_69, ↓e15_70, ↓e15_73, ↓e15_76, ↓e15_77, ↓e15_79, ↓e15_81, ↓e15_82, ↓e15_85, ↓e15_86, ↓e15_89, ↓e15_90, ↓e15_93, ↓e15_94, ↓e15_95, ↓e15_98, ↓e15_99, ↓e15_102, ↓e15_103, ↓e15_104, ↓e15_105, ↓e15_106, ↓e15_107, ↓e15_110, ↓e15_111, ↓e15_112, ↓e15_113, ↓e15_116, ↓e15_119, znl_i, znl_r, znl_n, zcs_0, zcs_1, zcs_2, zcs_3, zcat_0, zcat_1, zcat_2, zcat_3, zbl_0, zbl_1, true_and, and_true, ↓zret_some, ↓zret_none, Nat.reduceAdd, Nat.reduceLeDiff, Nat.reduceMul, eq_self, Int.reduceToNat]
        rw [show ((t : Int) + 1) = ((t + 1 : Nat) : Int) by omega]
        exact h9
  -- the rows are made anew
  have loopA : ∀ m e : Nat, e + m = n + 1 → ∀ N : zM, (∀ b, b ≠ 238 → b ≠ 250 → N b = M b) → (∀ c : Nat, c < e → N 238 c = 1152921504606846976 ∧ N 250 c = 0) →
      RT (Sp (d + 1)) 15 Q 2 [some (.inr (.inr 233)), some (.inl (ρ : Int)), some (.inl (n : Int)), some (.inl (e : Int)), none] [] N := by
    intro m
    induction m with
    | zero =>
      intro e he N h1 h2
      obtain rfl : e = n + 1 := by omega
      have e1 : ((n + 1 : Nat) : Int) > n := by omega
      have e2 : -2147483648 ≤ ((n + 1 : Nat) : Int) ∧ ((n + 1 : Nat) : Int) < 2147483648 := ⟨by omega, by omega⟩
      have z : ∀ b, b ≠ 235 → zup N 235 0 ρ b = N b := fun b hb => zup_ne _ _ _ hb
      have zp : ∀ c : Nat, 1 ≤ c → zup N 235 0 ρ 235 c = M 235 c := fun c hc => by
        have : ¬ c = 0 := by omega
        simp only [zup, this, and_false, if_false]
        rw [h1 235 (by omega) (by omega)]
      have hT : HT M (zup N 235 0 ρ) n ρ 0 0 (fun _ => 0) := by
        refine ⟨fun b b1 b2 b3 b4 b5 b6 => by rw [z b b1]; exact h1 b b4 b6, ⟨by simp [zup], zp⟩, fun i c i1 i2 c1 c2 => ?_, fun i c i1 c1 c2 hpc => ?_, fun c c1 c2 => ?_, fun i i1 i2 => ?_, ⟨fun c c1 => Or.inl (by rw [z 250 (by omega)]; exact (h2 c (by omega)).2), fun c c1 => ?_, fun i hi => absurd hi (Nat.not_lt_zero i), fun i k hi => absurd hi (Nat.not_lt_zero i)⟩, ⟨by rw [z 250 (by omega)]; exact (h2 0 (by omega)).2, by omega, fun _ => rfl, fun q => absurd q (by omega)⟩, fun i _ hi => absurd hi (Nat.not_lt_zero i), fun q => absurd q (by omega), fun _ c c1 c2 => by rw [z 238 (by omega)]; exact (h2 c (by omega)).1, fun q => absurd q (by omega)⟩
        · rw [z 236 (by omega), z 237 (by omega), z (240 + i) (by omega), h1 236 (by omega) (by omega), h1 237 (by omega) (by omega), h1 (240 + i) (by omega) (by omega)]
          by_cases q : i = ρ
          · have a1 := (m7 i i1 (by omega)).2 (by omega)
            have a2 := (m6 c c1 c2).1
            have a3 := (hP i c i1 i2 c1 c2).1
            omega
          · exact m4 i c i1 (by omega) c1 c2
        · rw [zp c c1] at hpc
          have := m1 c c1 c2
          rw [z 236 (by omega), z 237 (by omega), z (240 + i) (by omega), h1 236 (by omega) (by omega), h1 237 (by omega) (by omega), h1 (240 + i) (by omega) (by omega)]
          exact m5 i c i1 c1 c2 hpc
        · rw [zp c c1, z 237 (by omega), h1 237 (by omega) (by omega)]
          exact m6 c c1 c2
        · rw [z 236 (by omega), h1 236 (by omega) (by omega)]
          exact ⟨(m7 i i1 i2).1, fun q => (m7 i i1 i2).2 (by omega)⟩
        · rw [z 250 (by omega), (h2 c (by omega)).2]
          exact ⟨fun q => by omega, fun ⟨i, hi, _⟩ => absurd hi (Nat.not_lt_zero i)⟩
      have h9 := loopB (n + 1) 0 (by omega) _ 0 _ hT
      rw [e15_2]
      simp only [↓e15, ↓e15_0, ↓e15_1, ↓e15_3, ↓e15_4, ↓e15_7, ↓e15_8, ↓e15_11, ↓e15_12, ↓e15_15, ↓e15_16, ↓e15_17, ↓e15_20, ↓e15_21, ↓e15_22, ↓e15_23, ↓e15_26, ↓e15_29, ↓e15_30, ↓e15_33, ↓e15_34, ↓e15_35, ↓e15_36, ↓e15_37, ↓e15_38, ↓e15_39, ↓e15_43, ↓e15_44, ↓e15_47, ↓e15_48, ↓e15_51, ↓e15_52, ↓e15_53, ↓e15_56, ↓e15_57, ↓e15_60, ↓e15_61, ↓e15_62, ↓e15_63, ↓e15_64, ↓e15_65, ↓e15_66, ↓e15_69, ↓e15_70, ↓e15_73, ↓e15_76, ↓e15_77, ↓e15_79, ↓e15_81, ↓e15_82, ↓e15_85, ↓e15_86, ↓e15_89, ↓e15_90, ↓e15_93, ↓e15_94, ↓e15_95, ↓e15_98, ↓e15_99, ↓e15_102, ↓e15_103, ↓e15_104, ↓e15_105, ↓e15_106, ↓e15_107, ↓e15_110, ↓e15_111, ↓e15_112, ↓e15_113, ↓e15_116, ↓e15_119, znl_i, znl_r, znl_n, zcs_0, zcs_1, zcs_2, zcs_3, zcat_0, zcat_1, zcat_2, zcat_3, zbl_0, zbl_1, true_and, and_true, ↓zret_some, ↓zret_none, Nat.reduceAdd, Nat.reduceLeDiff, Nat.reduceMul, eq_self, Int.reduceToNat, zrg, hnr, e1, e2, ↓reduceIte, zkc_0, zin_1, zin_2, zin_3, zin_4, zin_5, zin_6, zin_7, zin_8, zin_9, zaa_9, zkc_10, zin_11, zin_12, zkc_13, zin_14, zin_15, zkc_16, zin_17, zin_18, zkc_19, zin_20, zin_21, zin_22, zin_23, zin_24, zin_25, zin_26, zin_27, zin_28, zaa_28, zkc_29, zin_30, zin_31, zkc_32, zin_33, zin_34, zkc_35, zin_36, zin_37, zkc_38, zin_39, zin_40, zin_41, zin_42, zin_43, zin_44, zin_45, zin_46, zin_47, zaa_47, zkc_48, zin_49, zin_50, zkc_51, zin_52, zin_53, zkc_54, zin_55, zin_56, zkc_209, zkc_210, zin_211, zaa_211, zkc_212, zin_213, zkc_214, zkc_215, zin_216, zin_217, zkc_218, zin_219, zin_220, zin_221, zkc_222, zin_223, zaa_223, zin_224, zin_225, zkc_226, zin_227, zin_228, zin_229, zin_230, zin_231, zin_232, zkc_233, zin_234, zaa_234, zin_235, zin_236, zin_237, zin_238, zin_239, zin_240, zin_241, zin_242, zin_243, zin_244, zin_245, zin_246, zin_247, zin_248, zin_249, zin_250, zkc_251, zin_252, zin_253, zkc_374, zin_375, zin_376, zin_377, zin_378, zin_379, zin_380, zin_381, zin_382, zin_383, zin_384, zin_385, zin_386, zin_387]
      simp
      exact h9
    | succ m ih =>
      intro e he N h1 h2
      have e1 : ¬ (e : Int) > n := by omega
      have e2 : -2147483648 ≤ (e : Int) ∧ (e : Int) < 2147483648 := ⟨by omega, by omega⟩
      have e3 : 0 ≤ (e : Int) ∧ (e : Int) < 20 := ⟨by omega, by omega⟩
      have h9 := ih (e + 1) (by omega) (zup (zup N 238 e 1152921504606846976) 250 e 0) (fun b b1 b2 => by rw [zup_ne _ _ _ b2, zup_ne _ _ _ b1]; exact h1 b b1 b2) (fun c hc => by
        by_cases q : c = e
        · subst q; simp [zup]
        · have := h2 c (by omega)
          simp [zup, q, this])
      rw [e15_2]
      simp only [↓e15, ↓e15_0, ↓e15_1, ↓e15_3, ↓e15_4, ↓e15_7, ↓e15_8, ↓e15_11, ↓e15_12, ↓e15_15, ↓e15_16, ↓e15_17, ↓e15_20, ↓e15_21, ↓e15_22, ↓e15_23, ↓e15_26, ↓e15_29, ↓e15_30, ↓e15_33, ↓e15_34, ↓e15_35, ↓e15_36, ↓e15_37, ↓e15_38, ↓e15_39, ↓e15_41, ↓e15_43, ↓e15_44, ↓e15_47, ↓e15_48, ↓e15_51, ↓e15_52, ↓e15_53, ↓e15_56, ↓e15_57, ↓e15_60, ↓e15_61, ↓e15_62, ↓e15_63, ↓e15_64, ↓e15_65, ↓e15_66, ↓e15_69, ↓e15_70, ↓e15_73, ↓e15_76, ↓e15_77, ↓e15_79, ↓e15_81, ↓e15_82, ↓e15_85, ↓e15_86, ↓e15_89, ↓e15_90, ↓e15_93, ↓e15_94, ↓e15_95, ↓e15_98, ↓e15_99, ↓e15_102, ↓e15_103, ↓e15_104, ↓e15_105, ↓e15_106, ↓e15_107, ↓e15_110, ↓e15_111, ↓e15_112, ↓e15_113, ↓e15_116, ↓e15_119, znl_i, znl_r, znl_n, zcs_0, zcs_1, zcs_2, zcs_3, zcat_0, zcat_1, zcat_2, zcat_3, zbl_0, zbl_1, true_and, and_true, ↓zret_some, ↓zret_none, Nat.reduceAdd, Nat.reduceLeDiff, Nat.reduceMul, eq_self, Int.reduceToNat, zrg, hnr, e1, e2, e3, ↓reduceIte, zkc_0, zin_1, zin_2, zin_3, zin_4, zin_5, zin_6, zin_7, zin_8, zin_9, zaa_9, zkc_10, zin_11, zin_12, zkc_13, zin_14, zin_15, zkc_16, zin_17, zin_18, zkc_19, zin_20, zin_21, zin_22, zin_23, zin_24, zin_25, zin_26, zin_27, zin_28, zaa_28, zkc_29, zin_30, zin_31, zkc_32, zin_33, zin_34, zkc_35, zin_36, zin_37, zkc_38, zin_39, zin_40, zin_41, zin_42, zin_43, zin_44, zin_45, zin_46, zin_47, zaa_47, zkc_48, zin_49, zin_50, zkc_51, zin_52, zin_53, zkc_54, zin_55, zin_56, zkc_209, zkc_210, zin_211, zaa_211, zkc_212, zin_213, zkc_214, zkc_215, zin_216, zin_217, zkc_218, zin_219, zin_220, zin_221, zkc_222, zin_223, zaa_223, zin_224, zin_225, zkc_226, zin_227, zin_228, zin_229, zin_230, zin_231, zin_232, zkc_233, zin_234, zaa_234, zin_235, zin_236, zin_237, zin_238, zin_239, zin_240, zin_241, zin_242, zin_243, zin_244, zin_245, zin_246, zin_247, zin_248, zin_249, zin_250, zkc_251, zin_252, zin_253, zkc_374, zin_375, zin_376, zin_377, zin_378, zin_379, zin_380, zin_381, zin_382, zin_383, zin_384, zin_385, zin_386, zin_387, Int.toNat_natCast]
      rw [show ((e : Int) + 1) = ((e + 1 : Nat) : Int) by omega]
      exact h9
  have h9 := loopA (n + 1) 0 (by omega) M (fun _ _ _ => rfl) (fun c hc => absurd hc (Nat.not_lt_zero c))
  simp only [↓e15, ↓e15_0, ↓e15_1, ↓e15_3, ↓e15_4, ↓e15_7, ↓e15_8, ↓e15_11, ↓e15_12, ↓e15_15, ↓e15_16, ↓e15_17, ↓e15_20, ↓e15_21, ↓e15_22, ↓e15_23, ↓e15_26, ↓e15_29, ↓e15_30, ↓e15_33, ↓e15_34, ↓e15_35, ↓e15_36, ↓e15_37, ↓e15_38, ↓e15_39, ↓e15_41, ↓e15_43, ↓e15_44, ↓e15_47, ↓e15_48, ↓e15_51, ↓e15_52, ↓e15_53, ↓e15_56, ↓e15_57, ↓e15_60, ↓e15_61, ↓e15_62, ↓e15_63, ↓e15_64, ↓e15_65, ↓e15_66, ↓e15_69, ↓e15_70, ↓e15_73, ↓e15_76, ↓e15_77, ↓e15_79, ↓e15_81, ↓e15_82, ↓e15_85, ↓e15_86, ↓e15_89, ↓e15_90, ↓e15_93, ↓e15_94, ↓e15_95, ↓e15_98, ↓e15_99, ↓e15_102, ↓e15_103, ↓e15_104, ↓e15_105, ↓e15_106, ↓e15_107, ↓e15_110, ↓e15_111, ↓e15_112, ↓e15_113, ↓e15_116, ↓e15_119, znl_i, znl_r, znl_n, zcs_0, zcs_1, zcs_2, zcs_3, zcat_0, zcat_1, zcat_2, zcat_3, zbl_0, zbl_1, true_and, and_true, ↓zret_some, ↓zret_none, Nat.reduceAdd, Nat.reduceLeDiff, Nat.reduceMul, eq_self, Int.reduceToNat]
  exact h9
