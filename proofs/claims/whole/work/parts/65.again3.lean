/-! ### Giving.takeSlotIn, Giving.sumBySlots -/
theorem zb_and9 : ∀ s : Nat, s < 9 → ∀ set : Nat, set < 512 → zand (set : Int) (zshl 1 (s : Int)) = if set.testBit s = true then ((2 ^ s : Nat) : Int) else 0 := by decide +kernel
theorem zb_xor9 : ∀ s : Nat, s < 9 → ∀ set : Nat, set < 512 → set.testBit s = true → zxor (set : Int) (zshl 1 (s : Int)) = ((set ^^^ 2 ^ s : Nat) : Int) ∧ set ^^^ 2 ^ s < set := by decide +kernel
theorem lsq_rng {D : Nat → Nat → Int} {k : Nat} : ∀ q set : Nat, 0 ≤ lsq D k q set ∧ lsq D k q set ≤ 12100 + 1100 * q
  | 0, set => by unfold lsq; split <;> omega
  | q + 1, set => by
    have h := (lsi_le (prev := lsq D k q) (D := D q) (set := set) k).1
    have h2 := lsq_rng (D := D) (k := k) q set
    show 0 ≤ lsi (lsq D k q) (D q) set k ∧ lsi (lsq D k q) (D q) set k ≤ _
    rcases lsi_at (prev := lsq D k q) (D := D q) (set := set) k with z | ⟨e, e1, e2, e3, z⟩
    · rw [z]; omega
    · have h3 := lsq_rng (D := D) (k := k) q (set ^^^ 2 ^ e)
      refine ⟨by omega, by omega⟩
theorem lsi_rng {D : Nat → Nat → Int} {k q : Nat} (set i : Nat) : 0 ≤ lsi (lsq D k q) (D q) set i ∧ lsi (lsq D k q) (D q) set i ≤ 13200 + 1100 * q := by
  have h := (lsi_le (prev := lsq D k q) (D := D q) (set := set) i).1
  have h2 := lsq_rng (D := D) (k := k) q set
  rcases lsi_at (prev := lsq D k q) (D := D q) (set := set) i with z | ⟨e, e1, e2, e3, z⟩
  · omega
  · have h3 := lsq_rng (D := D) (k := k) q (set ^^^ 2 ^ e)
    omega
theorem s_take (d : Nat) (Q : zQ) (M S : zM) (q pl k : Nat) (hq : q < 10) (hR : RelC M 0 S) (hW : WfS S) (hk : k = (folN S 10).length) (hF : M 226 10 = k ∧ ∀ i : Nat, i < k → M 230 i = (fo S i : Nat))
    (hpl : plc S (op S q) = pl) (hpl0 : pl < 120) (hD : ∀ c : Nat, c < 120 → M (254 + pl) c = dd (S 0) pl c) (hL : ∀ e : Nat, e < 512 → M 232 e = lsq (Dri S) k q e)
    (hQ : ∀ N, (∀ b, b ≠ 232 → N b = M b) → (∀ e : Nat, e < 512 → N 232 e = lsq (Dri S) k (q + 1) e) → Q none N) : Sp (d + 1) 13 [.inr (.inr 226), .inr (.inr (254 + pl))] M Q := by
  have hk9 := fol_len9 hW
  obtain ⟨hF1, hF2⟩ := hF
  have hkr : -2147483648 ≤ (k : Int) ∧ (k : Int) < 2147483648 := ⟨by omega, by omega⟩
  have hzD : ∀ i : Int, zin 0 (254 + pl) i = (0 ≤ i ∧ i < 120) := fun i => zin_of (n := 120) (zkD hpl0)
  have loop : ∀ s : Nat, s ≤ 512 → ∀ (N : zM) (w3 w4 w5 : Option zV), (∀ b, b ≠ 232 → N b = M b) → (∀ e : Nat, e < 512 → N 232 e = if e < s then lsq (Dri S) k q e else lsq (Dri S) k (q + 1) e) →
      RT (Sp d) 13 Q 4 [some (.inr (.inr 226)), some (.inr (.inr (254 + pl))), some (.inl ((s : Int) - 1)), w3, w4, w5] [] N := by
    intro s
    induction s with
    | zero =>
      intro _ N w3 w4 w5 h1 h2
      rw [e13_4]
      simp only [↓e13_5, zrg]
      refine ⟨by omega, ?_⟩
      rw [if_pos (by omega)]
      simp only [↓e13_102]
      exact hQ N h1 (fun e he => by have := h2 e he; rw [if_neg (by omega)] at this; exact this)
    | succ s ih =>
      intro hs N w3 w4 w5 h1 h2
      have e0 : (((s + 1 : Nat) : Int) - 1) = (s : Int) := by omega
      have hsr : -2147483648 ≤ (s : Int) ∧ (s : Int) < 2147483648 := ⟨by omega, by omega⟩
      have hs0 : 0 ≤ (s : Int) ∧ (s : Int) < 512 := ⟨by omega, by omega⟩
      have es : ¬ (s : Int) < 0 := by omega
      have hRN : RelC N 0 S := RelC_congr (fun b hb => h1 b (by omega)) hR
      have hold : ∀ e : Nat, e ≤ s → N 232 e = lsq (Dri S) k q e := fun e he => by have := h2 e (by omega); rw [if_pos (by omega)] at this; exact this
      have e226 : N 226 = M 226 := h1 226 (by omega)
      have e230 : N 230 = M 230 := h1 230 (by omega)
      have inner : ∀ u i : Nat, i + u = k → ∀ w5 : Option zV, RT (Sp d) 13 Q 22 [some (.inr (.inr 226)), some (.inr (.inr (254 + pl))), some (.inl (s : Int)), some (.inl (lsi (lsq (Dri S) k q) (Dri S q) s i)), some (.inl (i : Int)), w5] [] N := by
        intro u
        induction u with
        | zero =>
          intro i hi w5
          obtain rfl : i = k := by omega
          have h9 := ih (by omega) (zup N 232 s (lsi (lsq (Dri S) i q) (Dri S q) s i)) (some (.inl (lsi (lsq (Dri S) i q) (Dri S q) s i))) (some (.inl (i : Int))) w5 (fun b hb => by rw [zup_ne _ _ _ hb]; exact h1 b hb) (fun e he => by
            by_cases z : e = s
            · subst z; rw [if_neg (by omega)]; simp [zup]; rfl
            · simp only [zup, z, and_false, if_false]
              rw [h2 e he]
              by_cases y : e < s
              · rw [if_pos y, if_pos (by omega)]
              · rw [if_neg y, if_neg (by omega)])
          rw [e13_22]
          simp only [↓e13, ↓e13_0, ↓e13_3, ↓e13_5, ↓e13_8, ↓e13_9, ↓e13_12, ↓e13_13, ↓e13_14, ↓e13_17, ↓e13_18, ↓e13_19, ↓e13_20, ↓e13_24, ↓e13_25, ↓e13_28, ↓e13_31, ↓e13_32, ↓e13_33, ↓e13_36, ↓e13_39, ↓e13_40, ↓e13_43, ↓e13_45, ↓e13_46, ↓e13_47, ↓e13_48, ↓e13_50, ↓e13_51, ↓e13_52, ↓e13_54, ↓e13_55, ↓e13_56, ↓e13_59, ↓e13_61, ↓e13_64, ↓e13_65, ↓e13_66, ↓e13_69, ↓e13_70, ↓e13_71, ↓e13_73, ↓e13_74, ↓e13_75, ↓e13_76, ↓e13_78, ↓e13_79, ↓e13_82, ↓e13_83, ↓e13_86, ↓e13_89, ↓e13_90, ↓e13_93, ↓e13_94, ↓e13_95, ↓e13_96, ↓e13_99, ↓e13_102, znl_i, znl_r, znl_n, zcs_0, zcs_1, zcs_2, zcs_3, zcat_0, zcat_1, zcat_2, zcat_3, zbl_0, zbl_1, true_and, and_true, ↓zret_some, ↓zret_none, Nat.reduceAdd, Nat.reduceLeDiff, Nat.reduceMul, eq_self, Int.reduceToNat, Int.reduceLE, Int.reduceLT, Int.reduceNeg, and_self, zrg, zkc_0, zin_1, zin_2, zin_3, zin_4, zin_5, zin_6, zin_7, zin_8, zin_9, zaa_9, zkc_10, zin_11, zin_12, zkc_13, zin_14, zin_15, zkc_16, zin_17, zin_18, zkc_19, zin_20, zin_21, zin_22, zin_23, zin_24, zin_25, zin_26, zin_27, zin_28, zaa_28, zkc_29, zin_30, zin_31, zkc_32, zin_33, zin_34, zkc_35, zin_36, zin_37, zkc_38, zin_39, zin_40, zin_41, zin_42, zin_43, zin_44, zin_45, zin_46, zin_47, zaa_47, zkc_48, zin_49, zin_50, zkc_51, zin_52, zin_53, zkc_54, zin_55, zin_56, zkc_209, zkc_210, zin_211, zaa_211, zkc_212, zin_213, zkc_214, zkc_215, zin_216, zin_217, zkc_218, zin_219, zin_220, zin_221, zkc_222, zin_223, zaa_223, zin_224, zin_225, zkc_226, zin_227, zin_228, zin_229, zin_230, zin_231, zin_232, zkc_233, zin_234, zaa_234, zin_235, zin_236, zin_237, zin_238, zin_239, zin_240, zin_241, zin_242, zin_243, zin_244, zin_245, zin_246, zin_247, zin_248, zin_249, zin_250, zkc_251, zin_252, zin_253, zkc_374, zin_375, zin_376, zin_377, zin_378, zin_379, zin_380, zin_381, zin_382, zin_383, zin_384, zin_385, zin_386, zin_387, e226, hF1, hkr, hs0, ge_iff_le, Int.le_refl, ↓reduceIte, Int.toNat_natCast]
          rw [show (s : Int) + -1 = (s : Int) - 1 by omega]
          exact h9
        | succ u ihu =>
          intro i hi w5
          have hir : -2147483648 ≤ (i : Int) ∧ (i : Int) < 2147483648 := ⟨by omega, by omega⟩
          have hi0 : 0 ≤ (i : Int) ∧ (i : Int) < 10 := ⟨by omega, by omega⟩
          have ei : ¬ (i : Int) ≥ k := by omega
          have hfi := hF2 i (by omega)
          have hfl := fo_lt (S := S) (i := i) (by omega)
          have hm0 : 0 ≤ (fo S i : Int) ∧ (fo S i : Int) < 10 := ⟨by omega, by omega⟩
          have hcell := hRN.2.1 (fo S i) hfl.1
          simp only [Nat.zero_add] at hcell
          have hmem : 0 ≤ S 1 (fo S i) := by
            have := hfl.2
            unfold isF at this
            exact (of_decide_eq_true this).2
          have hc2 := (hW.2.1 (fo S i) hfl.1).2
          rw [if_neg (by omega)] at hcell
          obtain ⟨c, hc⟩ : ∃ c : Nat, S 1 (fo S i) = c := ⟨(S 1 (fo S i)).toNat, by omega⟩
          rw [hc] at hcell
          have hc0 : 0 ≤ (c : Int) ∧ (c : Int) < 120 := ⟨by omega, by omega⟩
          have hdist : N (254 + pl) c = Dri S q i := by
            rw [h1 _ (by omega), hD c (by omega)]
            unfold Dri
            rw [hpl, hc]
            simp
          have hdr : -5 ≤ Dri S q i ∧ Dri S q i < 120 := by
            unfold Dri dd
            rw [hpl, hc]
            simp only [Int.toNat_natCast]
            have h3 := dst_rng (S 0) pl c
            have h4 := dst_lt (w := S 0) (a := pl) (c := c) hpl0
            split <;> omega
          have hdr2 : -2147483648 ≤ Dri S q i ∧ Dri S q i < 2147483648 := ⟨by omega, by omega⟩
          have band := zb_and9 i (by omega) s (by omega)
          have a6 : -2147483648 ≤ (if s.testBit i = true then ((2 ^ i : Nat) : Int) else 0) ∧ (if s.testBit i = true then ((2 ^ i : Nat) : Int) else 0) < 2147483648 := by
            have h5 := two10 (n := i) (by omega)
            clear band
            split
            · generalize 2 ^ i = x at *
              omega
            · omega
          have next : ∀ v : Int, v = lsi (lsq (Dri S) k q) (Dri S q) s (i + 1) → ∀ w5, RT (Sp d) 13 Q 83 [some (.inr (.inr 226)), some (.inr (.inr (254 + pl))), some (.inl (s : Int)), some (.inl v), some (.inl (i : Int)), w5] [] N := by
            intro v hv w5
            have h9 := ihu (i + 1) (by omega) w5
            rw [← hv] at h9
            simp only [↓e13, ↓e13_0, ↓e13_3, ↓e13_4, ↓e13_5, ↓e13_8, ↓e13_9, ↓e13_12, ↓e13_13, ↓e13_14, ↓e13_17, ↓e13_18, ↓e13_19, ↓e13_20, ↓e13_24, ↓e13_25, ↓e13_28, ↓e13_31, ↓e13_32, ↓e13_33, ↓e13_36, ↓e13_39, ↓e13_40, ↓e13_43, ↓e13_45, ↓e13_46, ↓e13_47, ↓e13_48, ↓e13_50, ↓e13_51, ↓e13_52, ↓e13_54, ↓e13_55, ↓e13_56, ↓e13_59, ↓e13_61, ↓e13_64, ↓e13_65, ↓e13_66, ↓e13_69, ↓e13_70, ↓e13_71, ↓e13_73, ↓e13_74, ↓e13_75, ↓e13_76, ↓e13_78, ↓e13_79, ↓e13_82, ↓e13_83, ↓e13_86, ↓e13_89, ↓e13_90, ↓e13_93, ↓e13_94, ↓e13_95, ↓e13_96, ↓e13_99, ↓e13_102, znl_i, znl_r, znl_n, zcs_0, zcs_1, zcs_2, zcs_3, zcat_0, zcat_1, zcat_2, zcat_3, zbl_0, zbl_1, true_and, and_true, ↓zret_some, ↓zret_none, Nat.reduceAdd, Nat.reduceLeDiff, Nat.reduceMul, eq_self, Int.reduceToNat, Int.reduceLE, Int.reduceLT, Int.reduceNeg, and_self]
            rw [show ((i : Int) + 1) = ((i + 1 : Nat) : Int) by omega]
            exact h9
          rw [e13_22]
          simp only [↓e13, ↓e13_0, ↓e13_3, ↓e13_5, ↓e13_8, ↓e13_9, ↓e13_12, ↓e13_13, ↓e13_14, ↓e13_17, ↓e13_18, ↓e13_19, ↓e13_20, ↓e13_24, ↓e13_25, ↓e13_28, ↓e13_31, ↓e13_32, ↓e13_33, ↓e13_36, ↓e13_39, ↓e13_40, ↓e13_43, ↓e13_45, ↓e13_46, ↓e13_47, ↓e13_48, ↓e13_50, ↓e13_51, ↓e13_52, ↓e13_54, ↓e13_55, ↓e13_56, ↓e13_59, ↓e13_61, ↓e13_65, ↓e13_66, ↓e13_69, ↓e13_70, ↓e13_71, ↓e13_73, ↓e13_74, ↓e13_75, ↓e13_76, ↓e13_78, ↓e13_79, ↓e13_82, ↓e13_86, ↓e13_89, ↓e13_90, ↓e13_93, ↓e13_94, ↓e13_95, ↓e13_96, ↓e13_99, ↓e13_102, znl_i, znl_r, znl_n, zcs_0, zcs_1, zcs_2, zcs_3, zcat_0, zcat_1, zcat_2, zcat_3, zbl_0, zbl_1, true_and, and_true, ↓zret_some, ↓zret_none, Nat.reduceAdd, Nat.reduceLeDiff, Nat.reduceMul, eq_self, Int.reduceToNat, Int.reduceLE, Int.reduceLT, Int.reduceNeg, and_self, zrg, zkc_0, zin_1, zin_2, zin_3, zin_4, zin_5, zin_6, zin_7, zin_8, zin_9, zaa_9, zkc_10, zin_11, zin_12, zkc_13, zin_14, zin_15, zkc_16, zin_17, zin_18, zkc_19, zin_20, zin_21, zin_22, zin_23, zin_24, zin_25, zin_26, zin_27, zin_28, zaa_28, zkc_29, zin_30, zin_31, zkc_32, zin_33, zin_34, zkc_35, zin_36, zin_37, zkc_38, zin_39, zin_40, zin_41, zin_42, zin_43, zin_44, zin_45, zin_46, zin_47, zaa_47, zkc_48, zin_49, zin_50, zkc_51, zin_52, zin_53, zkc_54, zin_55, zin_56, zkc_209, zkc_210, zin_211, zaa_211, zkc_212, zin_213, zkc_214, zkc_215, zin_216, zin_217, zkc_218, zin_219, zin_220, zin_221, zkc_222, zin_223, zaa_223, zin_224, zin_225, zkc_226, zin_227, zin_228, zin_229, zin_230, zin_231, zin_232, zkc_233, zin_234, zaa_234, zin_235, zin_236, zin_237, zin_238, zin_239, zin_240, zin_241, zin_242, zin_243, zin_244, zin_245, zin_246, zin_247, zin_248, zin_249, zin_250, zkc_251, zin_252, zin_253, zkc_374, zin_375, zin_376, zin_377, zin_378, zin_379, zin_380, zin_381, zin_382, zin_383, zin_384, zin_385, zin_386, zin_387, e226, e230, hF1, hkr, hir, hi0, ei, hfi, hm0, hcell, hc0, hzD, hdist, hdr2, band, a6, ↓reduceIte, Int.toNat_natCast]
          by_cases b1 : s.testBit i = true
          · have b2 : ¬ ((2 ^ i : Nat) : Int) = 0 := by
              have := Nat.two_pow_pos i
              omega
            rw [if_pos b1, if_neg b2]
            by_cases b3 : Dri S q i < 0
            · rw [if_pos b3]
              refine next _ ?_ _
              show _ = if _ then _ else _
              rw [if_neg (fun y => by have := y.2.1; omega)]
            · rw [if_neg b3]
              obtain ⟨x1, x2⟩ := zb_xor9 i (by omega) s (by omega) b1
              have x3 : 0 ≤ ((s ^^^ 2 ^ i : Nat) : Int) ∧ ((s ^^^ 2 ^ i : Nat) : Int) < 512 := by
                generalize s ^^^ 2 ^ i = x at *
                omega
              have x4 := hold (s ^^^ 2 ^ i) (by omega)
              have x5 := lsq_rng (D := Dri S) (k := k) q (s ^^^ 2 ^ i)
              have x6 := lsi_rng (D := Dri S) (k := k) (q := q) s i
              have x7 : -2147483648 ≤ lsq (Dri S) k q (s ^^^ 2 ^ i) + Dri S q i ∧ lsq (Dri S) k q (s ^^^ 2 ^ i) + Dri S q i < 2147483648 := ⟨by omega, by omega⟩
              have x8 : -2147483648 ≤ lsi (lsq (Dri S) k q) (Dri S q) s i ∧ lsi (lsq (Dri S) k q) (Dri S q) s i < 2147483648 := ⟨by omega, by omega⟩
              simp only [↓e13, ↓e13_0, ↓e13_3, ↓e13_5, ↓e13_8, ↓e13_9, ↓e13_12, ↓e13_13, ↓e13_14, ↓e13_17, ↓e13_18, ↓e13_19, ↓e13_20, ↓e13_24, ↓e13_25, ↓e13_28, ↓e13_31, ↓e13_32, ↓e13_33, ↓e13_36, ↓e13_39, ↓e13_40, ↓e13_43, ↓e13_45, ↓e13_46, ↓e13_47, ↓e13_48, ↓e13_50, ↓e13_51, ↓e13_52, ↓e13_54, ↓e13_55, ↓e13_56, ↓e13_59, ↓e13_61, ↓e13_64, ↓e13_65, ↓e13_66, ↓e13_69, ↓e13_70, ↓e13_71, ↓e13_73, ↓e13_74, ↓e13_75, ↓e13_76, ↓e13_78, ↓e13_79, ↓e13_82, ↓e13_86, ↓e13_89, ↓e13_90, ↓e13_93, ↓e13_94, ↓e13_95, ↓e13_96, ↓e13_99, ↓e13_102, znl_i, znl_r, znl_n, zcs_0, zcs_1, zcs_2, zcs_3, zcat_0, zcat_1, zcat_2, zcat_3, zbl_0, zbl_1, true_and, and_true, ↓zret_some, ↓zret_none, Nat.reduceAdd, Nat.reduceLeDiff, Nat.reduceMul, eq_self, Int.reduceToNat, Int.reduceLE, Int.reduceLT, Int.reduceNeg, and_self, zrg, zkc_0, zin_1, zin_2, zin_3, zin_4, zin_5, zin_6, zin_7, zin_8, zin_9, zaa_9, zkc_10, zin_11, zin_12, zkc_13, zin_14, zin_15, zkc_16, zin_17, zin_18, zkc_19, zin_20, zin_21, zin_22, zin_23, zin_24, zin_25, zin_26, zin_27, zin_28, zaa_28, zkc_29, zin_30, zin_31, zkc_32, zin_33, zin_34, zkc_35, zin_36, zin_37, zkc_38, zin_39, zin_40, zin_41, zin_42, zin_43, zin_44, zin_45, zin_46, zin_47, zaa_47, zkc_48, zin_49, zin_50, zkc_51, zin_52, zin_53, zkc_54, zin_55, zin_56, zkc_209, zkc_210, zin_211, zaa_211, zkc_212, zin_213, zkc_214, zkc_215, zin_216, zin_217, zkc_218, zin_219, zin_220, zin_221, zkc_222, zin_223, zaa_223, zin_224, zin_225, zkc_226, zin_227, zin_228, zin_229, zin_230, zin_231, zin_232, zkc_233, zin_234, zaa_234, zin_235, zin_236, zin_237, zin_238, zin_239, zin_240, zin_241, zin_242, zin_243, zin_244, zin_245, zin_246, zin_247, zin_248, zin_249, zin_250, zkc_251, zin_252, zin_253, zkc_374, zin_375, zin_376, zin_377, zin_378, zin_379, zin_380, zin_381, zin_382, zin_383, zin_384, zin_385, zin_386, zin_387, x1, x3, x4, x7, x8, Int.toNat_natCast]
              refine next _ ?_ _
              show _ = if _ then _ else _
              by_cases b4 : lsq (Dri S) k q (s ^^^ 2 ^ i) + Dri S q i < lsi (lsq (Dri S) k q) (Dri S q) s i
              · rw [if_pos b4, if_pos ⟨b1, by omega, b4⟩]
              · rw [if_neg b4, if_neg (fun y => b4 y.2.2)]
          · rw [if_neg b1, if_pos rfl]
            refine next _ ?_ _
            show _ = if _ then _ else _
            rw [if_neg (fun y => b1 y.1)]
      have h9 := inner k 0 (by omega) w5
      have h8 : lsi (lsq (Dri S) k q) (Dri S q) s 0 = lsq (Dri S) k q s + 1100 := rfl
      rw [h8] at h9
      have h7 := hold s (Nat.le_refl s)
      rw [e0, e13_4]
      simp only [↓e13, ↓e13_0, ↓e13_3, ↓e13_5, ↓e13_8, ↓e13_9, ↓e13_12, ↓e13_13, ↓e13_14, ↓e13_17, ↓e13_18, ↓e13_19, ↓e13_20, ↓e13_24, ↓e13_25, ↓e13_28, ↓e13_31, ↓e13_32, ↓e13_33, ↓e13_36, ↓e13_39, ↓e13_40, ↓e13_43, ↓e13_45, ↓e13_46, ↓e13_47, ↓e13_48, ↓e13_50, ↓e13_51, ↓e13_52, ↓e13_54, ↓e13_55, ↓e13_56, ↓e13_59, ↓e13_61, ↓e13_64, ↓e13_65, ↓e13_66, ↓e13_69, ↓e13_70, ↓e13_71, ↓e13_73, ↓e13_74, ↓e13_75, ↓e13_76, ↓e13_78, ↓e13_79, ↓e13_82, ↓e13_83, ↓e13_86, ↓e13_89, ↓e13_90, ↓e13_93, ↓e13_94, ↓e13_95, ↓e13_96, ↓e13_99, ↓e13_102, znl_i, znl_r, znl_n, zcs_0, zcs_1, zcs_2, zcs_3, zcat_0, zcat_1, zcat_2, zcat_3, zbl_0, zbl_1, true_and, and_true, ↓zret_some, ↓zret_none, Nat.reduceAdd, Nat.reduceLeDiff, Nat.reduceMul, eq_self, Int.reduceToNat, Int.reduceLE, Int.reduceLT, Int.reduceNeg, and_self, zrg, zkc_0, zin_1, zin_2, zin_3, zin_4, zin_5, zin_6, zin_7, zin_8, zin_9, zaa_9, zkc_10, zin_11, zin_12, zkc_13, zin_14, zin_15, zkc_16, zin_17, zin_18, zkc_19, zin_20, zin_21, zin_22, zin_23, zin_24, zin_25, zin_26, zin_27, zin_28, zaa_28, zkc_29, zin_30, zin_31, zkc_32, zin_33, zin_34, zkc_35, zin_36, zin_37, zkc_38, zin_39, zin_40, zin_41, zin_42, zin_43, zin_44, zin_45, zin_46, zin_47, zaa_47, zkc_48, zin_49, zin_50, zkc_51, zin_52, zin_53, zkc_54, zin_55, zin_56, zkc_209, zkc_210, zin_211, zaa_211, zkc_212, zin_213, zkc_214, zkc_215, zin_216, zin_217, zkc_218, zin_219, zin_220, zin_221, zkc_222, zin_223, zaa_223, zin_224, zin_225, zkc_226, zin_227, zin_228, zin_229, zin_230, zin_231, zin_232, zkc_233, zin_234, zaa_234, zin_235, zin_236, zin_237, zin_238, zin_239, zin_240, zin_241, zin_242, zin_243, zin_244, zin_245, zin_246, zin_247, zin_248, zin_249, zin_250, zkc_251, zin_252, zin_253, zkc_374, zin_375, zin_376, zin_377, zin_378, zin_379, zin_380, zin_381, zin_382, zin_383, zin_384, zin_385, zin_386, zin_387, hsr, hs0, es, h7, ↓reduceIte, Int.toNat_natCast]
      exact h9
  have h9 := loop 512 (Nat.le_refl _) M none none none (fun _ _ => rfl) (fun e he => by rw [if_pos he]; exact hL e he)
  simp only [↓e13, ↓e13_0, ↓e13_3, ↓e13_5, ↓e13_8, ↓e13_9, ↓e13_12, ↓e13_13, ↓e13_14, ↓e13_17, ↓e13_18, ↓e13_19, ↓e13_20, ↓e13_22, ↓e13_24, ↓e13_25, ↓e13_28, ↓e13_31, ↓e13_32, ↓e13_33, ↓e13_36, ↓e13_39, ↓e13_40, ↓e13_43, ↓e13_45, ↓e13_46, ↓e13_47, ↓e13_48, ↓e13_50, ↓e13_51, ↓e13_52, ↓e13_54, ↓e13_55, ↓e13_56, ↓e13_59, ↓e13_61, ↓e13_64, ↓e13_65, ↓e13_66, ↓e13_69, ↓e13_70, ↓e13_71, ↓e13_73, ↓e13_74, ↓e13_75, ↓e13_76, ↓e13_78, ↓e13_79, ↓e13_82, ↓e13_83, ↓e13_86, ↓e13_89, ↓e13_90, ↓e13_93, ↓e13_94, ↓e13_95, ↓e13_96, ↓e13_99, ↓e13_102, znl_i, znl_r, znl_n, zcs_0, zcs_1, zcs_2, zcs_3, zcat_0, zcat_1, zcat_2, zcat_3, zbl_0, zbl_1, true_and, and_true, ↓zret_some, ↓zret_none, Nat.reduceAdd, Nat.reduceLeDiff, Nat.reduceMul, eq_self, Int.reduceToNat, Int.reduceLE, Int.reduceLT, Int.reduceNeg, and_self]
  exact h9
def Gg (M N : zM) : Prop := ∀ b, (b < 224 ∨ 374 ≤ b ∨ (251 ≤ b ∧ b < 254)) → N b = M b
theorem s_sumBySlots (d : Nat) (Q : zQ) (M S : zM) (hR : RelC M 0 S) (hW : WfS S) (hV : Wv M (S 0)) (hQ : ∀ N, Gg M N → Wv N (S 0) → Q (some (.inl (gvs S))) N) : Sp (d + 5) 12 [.inr (.inr 226)] M Q := by
  have hk9 := fol_len9 hW
  have hp9 := opn_len9 hW
  have hn10 := nsl_rng hW
  have zk232 : zk 232 = (0, 512, []) := by decide +kernel
  simp only [↓e12, ↓e12_0, ↓e12_1, ↓e12_5, ↓e12_8, ↓e12_9, ↓e12_12, ↓e12_15, ↓e12_18, ↓e12_19, ↓e12_22, ↓e12_23, ↓e12_24, ↓e12_25, ↓e12_26, ↓e12_27, ↓e12_28, ↓e12_29, ↓e12_32, ↓e12_35, ↓e12_36, ↓e12_37, ↓e12_40, ↓e12_41, ↓e12_44, ↓e12_45, ↓e12_48, ↓e12_49, ↓e12_50, ↓e12_51, ↓e12_54, ↓e12_57, ↓e12_60, ↓e12_63, ↓e12_64, ↓e12_67, ↓e12_68, ↓e12_69, ↓e12_70, ↓e12_71, ↓e12_72, ↓e12_73, ↓e12_76, ↓e12_79, ↓e12_80, ↓e12_81, ↓e12_84, ↓e12_85, ↓e12_86, ↓e12_89, ↓e12_90, ↓e12_93, ↓e12_96, ↓e12_97, ↓e12_100, ↓e12_101, znl_i, znl_r, znl_n, zcs_0, zcs_1, zcs_2, zcs_3, zcat_0, zcat_1, zcat_2, zcat_3, zbl_0, zbl_1, true_and, and_true, ↓zret_some, ↓zret_none, Nat.reduceAdd, Nat.reduceLeDiff, Nat.reduceMul, eq_self, Int.reduceToNat, Int.reduceLE, Int.reduceLT, Int.reduceNeg, and_self, zkc_0, zin_1, zin_2, zin_3, zin_4, zin_5, zin_6, zin_7, zin_8, zin_9, zaa_9, zkc_10, zin_11, zin_12, zkc_13, zin_14, zin_15, zkc_16, zin_17, zin_18, zkc_19, zin_20, zin_21, zin_22, zin_23, zin_24, zin_25, zin_26, zin_27, zin_28, zaa_28, zkc_29, zin_30, zin_31, zkc_32, zin_33, zin_34, zkc_35, zin_36, zin_37, zkc_38, zin_39, zin_40, zin_41, zin_42, zin_43, zin_44, zin_45, zin_46, zin_47, zaa_47, zkc_48, zin_49, zin_50, zkc_51, zin_52, zin_53, zkc_54, zin_55, zin_56, zkc_209, zkc_210, zin_211, zaa_211, zkc_212, zin_213, zkc_214, zkc_215, zin_216, zin_217, zkc_218, zin_219, zin_220, zin_221, zkc_222, zin_223, zaa_223, zin_224, zin_225, zkc_226, zin_227, zin_228, zin_229, zin_230, zin_231, zin_232, zkc_233, zin_234, zaa_234, zin_235, zin_236, zin_237, zin_238, zin_239, zin_240, zin_241, zin_242, zin_243, zin_244, zin_245, zin_246, zin_247, zin_248, zin_249, zin_250, zkc_251, zin_252, zin_253, zkc_374, zin_375, zin_376, zin_377, zin_378, zin_379, zin_380, zin_381, zin_382, zin_383, zin_384, zin_385, zin_386, zin_387]
  refine s_listFollowers (d + 1) _ M S hR hW (fun N1 f => ?_)
  obtain ⟨f1, f2, f3, f4⟩ := f
  have hR1 : RelC N1 0 S := RelC_congr (fun b hb => f1 b (by omega) (by omega)) hR
  rw [zret_none]
  simp only [↓e12, ↓e12_0, ↓e12_1, ↓e12_4, ↓e12_5, ↓e12_9, ↓e12_12, ↓e12_15, ↓e12_18, ↓e12_19, ↓e12_22, ↓e12_23, ↓e12_24, ↓e12_25, ↓e12_26, ↓e12_27, ↓e12_28, ↓e12_29, ↓e12_32, ↓e12_35, ↓e12_36, ↓e12_37, ↓e12_40, ↓e12_41, ↓e12_44, ↓e12_45, ↓e12_48, ↓e12_49, ↓e12_50, ↓e12_51, ↓e12_54, ↓e12_57, ↓e12_60, ↓e12_63, ↓e12_64, ↓e12_67, ↓e12_68, ↓e12_69, ↓e12_70, ↓e12_71, ↓e12_72, ↓e12_73, ↓e12_76, ↓e12_79, ↓e12_80, ↓e12_81, ↓e12_84, ↓e12_85, ↓e12_86, ↓e12_89, ↓e12_90, ↓e12_93, ↓e12_96, ↓e12_97, ↓e12_100, ↓e12_101, znl_i, znl_r, znl_n, zcs_0, zcs_1, zcs_2, zcs_3, zcat_0, zcat_1, zcat_2, zcat_3, zbl_0, zbl_1, true_and, and_true, ↓zret_some, ↓zret_none, Nat.reduceAdd, Nat.reduceLeDiff, Nat.reduceMul, eq_self, Int.reduceToNat, Int.reduceLE, Int.reduceLT, Int.reduceNeg, and_self, zkc_0, zin_1, zin_2, zin_3, zin_4, zin_5, zin_6, zin_7, zin_8, zin_9, zaa_9, zkc_10, zin_11, zin_12, zkc_13, zin_14, zin_15, zkc_16, zin_17, zin_18, zkc_19, zin_20, zin_21, zin_22, zin_23, zin_24, zin_25, zin_26, zin_27, zin_28, zaa_28, zkc_29, zin_30, zin_31, zkc_32, zin_33, zin_34, zkc_35, zin_36, zin_37, zkc_38, zin_39, zin_40, zin_41, zin_42, zin_43, zin_44, zin_45, zin_46, zin_47, zaa_47, zkc_48, zin_49, zin_50, zkc_51, zin_52, zin_53, zkc_54, zin_55, zin_56, zkc_209, zkc_210, zin_211, zaa_211, zkc_212, zin_213, zkc_214, zkc_215, zin_216, zin_217, zkc_218, zin_219, zin_220, zin_221, zkc_222, zin_223, zaa_223, zin_224, zin_225, zkc_226, zin_227, zin_228, zin_229, zin_230, zin_231, zin_232, zkc_233, zin_234, zaa_234, zin_235, zin_236, zin_237, zin_238, zin_239, zin_240, zin_241, zin_242, zin_243, zin_244, zin_245, zin_246, zin_247, zin_248, zin_249, zin_250, zkc_251, zin_252, zin_253, zkc_374, zin_375, zin_376, zin_377, zin_378, zin_379, zin_380, zin_381, zin_382, zin_383, zin_384, zin_385, zin_386, zin_387]
  refine s_listOpen d _ N1 S hR1 hW (fun N2 g => ?_)
  obtain ⟨g1, g2, g3, g4, g5⟩ := g
  have hR2 : RelC N2 0 S := RelC_congr (fun b hb => g1 b (by omega) (by omega) (by omega)) hR1
  have hl := fun l => ag_least hW (l := l)
  have flt : ∀ i, i < (folN S 10).length → (folN S 10)[i]? = some (fo S i) := fun i hi => fo_at hi
  have olt : ∀ i, i < (opnN S (nsl S).toNat).length → (opnN S (nsl S).toNat)[i]? = some (op S i) ∧ op S i < (nsl S).toNat ∧ isO S (op S i) = true := fun i hi => ⟨op_at hi, op_lt hi⟩
  generalize hk : (folN S 10).length = k at *
  generalize hp : (opnN S (nsl S).toNat).length = p at *
  have hpr : -2147483648 ≤ (p : Int) ∧ (p : Int) < 2147483648 := ⟨by omega, by omega⟩
  have n10 : N2 226 10 = k := by rw [g2 10 (by omega), f3]
  have nfr : ∀ b, b ≠ 226 → b ≠ 229 → b ≠ 230 → b ≠ 231 → N2 b = M b := fun b b1 b4 b5 b6 => by rw [g1 b b1 b4 b6, f1 b b1 b5]
  have hV2 : Wv N2 (S 0) := fun x hx => by
    rw [nfr 224 (by omega) (by omega) (by omega) (by omega), nfr (254 + x) (by omega) (by omega) (by omega) (by omega)]
    exact hV x hx
  have n30 : ∀ i : Nat, i < k → N2 230 i = (fo S i : Nat) := fun i hi => by
    rw [g1 230 (by omega) (by omega) (by omega)]
    exact f4 i _ (flt i hi)
  -- the least of all
  have least : ∀ u s : Nat, s + u = 512 → 1 ≤ s → ∀ (N : zM) (v : Int), Gg M N → Wv N (S 0) → (∀ e : Nat, e < 512 → N 232 e = lsq (Dri S) k p e) → (∀ e : Nat, e < s → v ≤ lsq (Dri S) k p e) → (∃ e, v = lsq (Dri S) k p e) →
      RT (Sp (d + 4)) 12 Q 72 [some (.inr (.inr 226)), some (.inl v), some (.inl (s : Int))] [] N := by
    intro u
    induction u with
    | zero =>
      intro s hs hs1 N v h1 h2 h3 h4 h5
      obtain rfl : s = 512 := by omega
      obtain ⟨b1, b2, b3⟩ := hl v h4 h5
      have a1 : -2147483648 ≤ v ∧ v < 2147483648 := ⟨by omega, by omega⟩
      rw [e12_72]
      simp only [↓e12, ↓e12_0, ↓e12_1, ↓e12_4, ↓e12_5, ↓e12_8, ↓e12_9, ↓e12_12, ↓e12_15, ↓e12_18, ↓e12_19, ↓e12_22, ↓e12_23, ↓e12_24, ↓e12_25, ↓e12_26, ↓e12_27, ↓e12_28, ↓e12_29, ↓e12_32, ↓e12_35, ↓e12_36, ↓e12_37, ↓e12_40, ↓e12_41, ↓e12_44, ↓e12_45, ↓e12_48, ↓e12_49, ↓e12_50, ↓e12_51, ↓e12_54, ↓e12_57, ↓e12_60, ↓e12_63, ↓e12_64, ↓e12_67, ↓e12_68, ↓e12_69, ↓e12_70, ↓e12_71, ↓e12_73, ↓e12_76, ↓e12_79, ↓e12_80, ↓e12_81, ↓e12_84, ↓e12_85, ↓e12_86, ↓e12_89, ↓e12_90, ↓e12_93, ↓e12_96, ↓e12_97, ↓e12_100, ↓e12_101, znl_i, znl_r, znl_n, zcs_0, zcs_1, zcs_2, zcs_3, zcat_0, zcat_1, zcat_2, zcat_3, zbl_0, zbl_1, true_and, and_true, ↓zret_some, ↓zret_none, Nat.reduceAdd, Nat.reduceLeDiff, Nat.reduceMul, eq_self, Int.reduceToNat, Int.reduceLE, Int.reduceLT, Int.reduceNeg, and_self, zrg, Int.cast_ofNat_Int, ge_iff_le, Int.le_refl, ↓reduceIte, b1, a1, b3, show (0 : Int) < 1100 by omega]
      exact hQ N h1 h2
    | succ u ih =>
      intro s hs hs1 N v h1 h2 h3 h4 h5
      have hsr : -2147483648 ≤ (s : Int) ∧ (s : Int) < 2147483648 := ⟨by omega, by omega⟩
      have hs0 : 0 ≤ (s : Int) ∧ (s : Int) < 512 := ⟨by omega, by omega⟩
      have es : ¬ (s : Int) ≥ 512 := by omega
      have hr := lsq_rng (D := Dri S) (k := k) p s
      obtain ⟨e0, he0⟩ := h5
      have hr2 := lsq_rng (D := Dri S) (k := k) p e0
      have a1 : -2147483648 ≤ v ∧ v < 2147483648 := ⟨by omega, by omega⟩
      have a2 : -2147483648 ≤ lsq (Dri S) k p s ∧ lsq (Dri S) k p s < 2147483648 := ⟨by omega, by omega⟩
      have h9 := ih (s + 1) (by omega) (by omega) N (if lsq (Dri S) k p s < v then lsq (Dri S) k p s else v) h1 h2 h3 (fun e he => by
        by_cases z : e = s
        · subst z; split <;> omega
        · have := h4 e (by omega)
          split <;> omega) (by
        split
        · exact ⟨s, rfl⟩
        · exact ⟨e0, he0⟩)
      have h8 := h3 s (by omega)
      rw [e12_72]
      simp only [↓e12, ↓e12_0, ↓e12_1, ↓e12_4, ↓e12_5, ↓e12_8, ↓e12_9, ↓e12_12, ↓e12_15, ↓e12_18, ↓e12_19, ↓e12_22, ↓e12_23, ↓e12_24, ↓e12_25, ↓e12_26, ↓e12_27, ↓e12_28, ↓e12_29, ↓e12_32, ↓e12_35, ↓e12_36, ↓e12_37, ↓e12_40, ↓e12_41, ↓e12_44, ↓e12_45, ↓e12_48, ↓e12_49, ↓e12_50, ↓e12_51, ↓e12_54, ↓e12_57, ↓e12_60, ↓e12_63, ↓e12_64, ↓e12_67, ↓e12_68, ↓e12_69, ↓e12_70, ↓e12_71, ↓e12_73, ↓e12_76, ↓e12_79, ↓e12_80, ↓e12_81, ↓e12_84, ↓e12_85, ↓e12_86, ↓e12_89, ↓e12_90, ↓e12_93, ↓e12_96, ↓e12_97, ↓e12_100, ↓e12_101, znl_i, znl_r, znl_n, zcs_0, zcs_1, zcs_2, zcs_3, zcat_0, zcat_1, zcat_2, zcat_3, zbl_0, zbl_1, true_and, and_true, ↓zret_some, ↓zret_none, Nat.reduceAdd, Nat.reduceLeDiff, Nat.reduceMul, eq_self, Int.reduceToNat, Int.reduceLE, Int.reduceLT, Int.reduceNeg, and_self, zrg, zkc_0, zin_1, zin_2, zin_3, zin_4, zin_5, zin_6, zin_7, zin_8, zin_9, zaa_9, zkc_10, zin_11, zin_12, zkc_13, zin_14, zin_15, zkc_16, zin_17, zin_18, zkc_19, zin_20, zin_21, zin_22, zin_23, zin_24, zin_25, zin_26, zin_27, zin_28, zaa_28, zkc_29, zin_30, zin_31, zkc_32, zin_33, zin_34, zkc_35, zin_36, zin_37, zkc_38, zin_39, zin_40, zin_41, zin_42, zin_43, zin_44, zin_45, zin_46, zin_47, zaa_47, zkc_48, zin_49, zin_50, zkc_51, zin_52, zin_53, zkc_54, zin_55, zin_56, zkc_209, zkc_210, zin_211, zaa_211, zkc_212, zin_213, zkc_214, zkc_215, zin_216, zin_217, zkc_218, zin_219, zin_220, zin_221, zkc_222, zin_223, zaa_223, zin_224, zin_225, zkc_226, zin_227, zin_228, zin_229, zin_230, zin_231, zin_232, zkc_233, zin_234, zaa_234, zin_235, zin_236, zin_237, zin_238, zin_239, zin_240, zin_241, zin_242, zin_243, zin_244, zin_245, zin_246, zin_247, zin_248, zin_249, zin_250, zkc_251, zin_252, zin_253, zkc_374, zin_375, zin_376, zin_377, zin_378, zin_379, zin_380, zin_381, zin_382, zin_383, zin_384, zin_385, zin_386, zin_387, hsr, hs0, es, h8, a1, a2, ↓reduceIte, Int.toNat_natCast]
      rw [show ((s : Int) + 1) = ((s + 1 : Nat) : Int) by omega]
      exact h9
  have slots : ∀ u q : Nat, q + u = p → ∀ N : zM, (∀ b, b ≠ 224 → b ≠ 225 → b ≠ 232 → (b < 254 ∨ 374 ≤ b) → N b = N2 b) → Wv N (S 0) → (∀ e : Nat, e < 512 → N 232 e = lsq (Dri S) k q e) →
      RT (Sp (d + 4)) 12 Q 27 [some (.inr (.inr 226)), some (.inl (q : Int)), none] [] N := by
    intro u
    induction u with
    | zero =>
      intro q hq N h1 h2 h3
      obtain rfl : q = p := by omega
      have a1 : N 226 3 = q := by rw [h1 226 (by omega) (by omega) (by omega) (by omega), g3]
      have a2 := h3 0 (by omega)
      have h9 := least 511 1 (by omega) (by omega) N (lsq (Dri S) k q 0) (fun b hb => by rw [h1 b (by omega) (by omega) (by omega) (by omega)]; exact nfr b (by omega) (by omega) (by omega) (by omega)) h2 h3 (fun e he => by
        obtain rfl : e = 0 := by omega
        exact Int.le_refl _) ⟨0, rfl⟩
      rw [e12_27]
      simp only [↓e12, ↓e12_0, ↓e12_1, ↓e12_4, ↓e12_5, ↓e12_8, ↓e12_9, ↓e12_12, ↓e12_15, ↓e12_18, ↓e12_19, ↓e12_22, ↓e12_23, ↓e12_24, ↓e12_25, ↓e12_26, ↓e12_28, ↓e12_29, ↓e12_32, ↓e12_35, ↓e12_36, ↓e12_37, ↓e12_40, ↓e12_41, ↓e12_44, ↓e12_45, ↓e12_48, ↓e12_49, ↓e12_50, ↓e12_51, ↓e12_54, ↓e12_57, ↓e12_60, ↓e12_63, ↓e12_64, ↓e12_67, ↓e12_68, ↓e12_69, ↓e12_70, ↓e12_71, ↓e12_73, ↓e12_76, ↓e12_79, ↓e12_80, ↓e12_81, ↓e12_84, ↓e12_85, ↓e12_86, ↓e12_89, ↓e12_90, ↓e12_93, ↓e12_96, ↓e12_97, ↓e12_100, ↓e12_101, znl_i, znl_r, znl_n, zcs_0, zcs_1, zcs_2, zcs_3, zcat_0, zcat_1, zcat_2, zcat_3, zbl_0, zbl_1, true_and, and_true, ↓zret_some, ↓zret_none, Nat.reduceAdd, Nat.reduceLeDiff, Nat.reduceMul, eq_self, Int.reduceToNat, Int.reduceLE, Int.reduceLT, Int.reduceNeg, and_self, zrg, zkc_0, zin_1, zin_2, zin_3, zin_4, zin_5, zin_6, zin_7, zin_8, zin_9, zaa_9, zkc_10, zin_11, zin_12, zkc_13, zin_14, zin_15, zkc_16, zin_17, zin_18, zkc_19, zin_20, zin_21, zin_22, zin_23, zin_24, zin_25, zin_26, zin_27, zin_28, zaa_28, zkc_29, zin_30, zin_31, zkc_32, zin_33, zin_34, zkc_35, zin_36, zin_37, zkc_38, zin_39, zin_40, zin_41, zin_42, zin_43, zin_44, zin_45, zin_46, zin_47, zaa_47, zkc_48, zin_49, zin_50, zkc_51, zin_52, zin_53, zkc_54, zin_55, zin_56, zkc_209, zkc_210, zin_211, zaa_211, zkc_212, zin_213, zkc_214, zkc_215, zin_216, zin_217, zkc_218, zin_219, zin_220, zin_221, zkc_222, zin_223, zaa_223, zin_224, zin_225, zkc_226, zin_227, zin_228, zin_229, zin_230, zin_231, zin_232, zkc_233, zin_234, zaa_234, zin_235, zin_236, zin_237, zin_238, zin_239, zin_240, zin_241, zin_242, zin_243, zin_244, zin_245, zin_246, zin_247, zin_248, zin_249, zin_250, zkc_251, zin_252, zin_253, zkc_374, zin_375, zin_376, zin_377, zin_378, zin_379, zin_380, zin_381, zin_382, zin_383, zin_384, zin_385, zin_386, zin_387, a1, a2, hpr, ge_iff_le, Int.le_refl, ↓reduceIte]
      exact h9
    | succ u ih =>
      intro q hq N h1 h2 h3
      have hqr : -2147483648 ≤ (q : Int) ∧ (q : Int) < 2147483648 := ⟨by omega, by omega⟩
      have hq0 : 0 ≤ (q : Int) ∧ (q : Int) < 10 := ⟨by omega, by omega⟩
      have eq : ¬ (q : Int) ≥ p := by omega
      have a1 : N 226 3 = p := by rw [h1 226 (by omega) (by omega) (by omega) (by omega), g3]
      obtain ⟨o1, o2, o3⟩ := olt q (by omega)
      obtain ⟨o4, o5, o6⟩ := isO_plc o3
      have a2 : N 231 q = (op S q : Nat) := by rw [h1 231 (by omega) (by omega) (by omega) (by omega)]; exact g5 q _ o1
      have hs0 : 0 ≤ (op S q : Int) ∧ (op S q : Int) < 10 := ⟨by omega, by omega⟩
      obtain ⟨pl, hpl⟩ : ∃ pl : Nat, plc S (op S q) = pl := ⟨(plc S (op S q)).toNat, by omega⟩
      have a3 : N 229 (op S q) = pl := by rw [h1 229 (by omega) (by omega) (by omega) (by omega), g4 _ (by omega), if_neg (by omega), hpl]
      have hRN : RelC N 0 S := RelC_congr (fun b hb => h1 b (by omega) (by omega) (by omega) (by omega)) hR2
      rw [e12_27]
      simp only [↓e12, ↓e12_0, ↓e12_1, ↓e12_4, ↓e12_5, ↓e12_8, ↓e12_9, ↓e12_12, ↓e12_15, ↓e12_18, ↓e12_19, ↓e12_22, ↓e12_23, ↓e12_24, ↓e12_25, ↓e12_26, ↓e12_28, ↓e12_29, ↓e12_32, ↓e12_35, ↓e12_36, ↓e12_37, ↓e12_40, ↓e12_41, ↓e12_44, ↓e12_45, ↓e12_48, ↓e12_49, ↓e12_50, ↓e12_51, ↓e12_57, ↓e12_60, ↓e12_63, ↓e12_64, ↓e12_67, ↓e12_68, ↓e12_69, ↓e12_70, ↓e12_71, ↓e12_72, ↓e12_73, ↓e12_76, ↓e12_79, ↓e12_80, ↓e12_81, ↓e12_84, ↓e12_85, ↓e12_86, ↓e12_89, ↓e12_90, ↓e12_93, ↓e12_96, ↓e12_97, ↓e12_100, ↓e12_101, znl_i, znl_r, znl_n, zcs_0, zcs_1, zcs_2, zcs_3, zcat_0, zcat_1, zcat_2, zcat_3, zbl_0, zbl_1, true_and, and_true, ↓zret_some, ↓zret_none, Nat.reduceAdd, Nat.reduceLeDiff, Nat.reduceMul, eq_self, Int.reduceToNat, Int.reduceLE, Int.reduceLT, Int.reduceNeg, and_self, zrg, zkc_0, zin_1, zin_2, zin_3, zin_4, zin_5, zin_6, zin_7, zin_8, zin_9, zaa_9, zkc_10, zin_11, zin_12, zkc_13, zin_14, zin_15, zkc_16, zin_17, zin_18, zkc_19, zin_20, zin_21, zin_22, zin_23, zin_24, zin_25, zin_26, zin_27, zin_28, zaa_28, zkc_29, zin_30, zin_31, zkc_32, zin_33, zin_34, zkc_35, zin_36, zin_37, zkc_38, zin_39, zin_40, zin_41, zin_42, zin_43, zin_44, zin_45, zin_46, zin_47, zaa_47, zkc_48, zin_49, zin_50, zkc_51, zin_52, zin_53, zkc_54, zin_55, zin_56, zkc_209, zkc_210, zin_211, zaa_211, zkc_212, zin_213, zkc_214, zkc_215, zin_216, zin_217, zkc_218, zin_219, zin_220, zin_221, zkc_222, zin_223, zaa_223, zin_224, zin_225, zkc_226, zin_227, zin_228, zin_229, zin_230, zin_231, zin_232, zkc_233, zin_234, zaa_234, zin_235, zin_236, zin_237, zin_238, zin_239, zin_240, zin_241, zin_242, zin_243, zin_244, zin_245, zin_246, zin_247, zin_248, zin_249, zin_250, zkc_251, zin_252, zin_253, zkc_374, zin_375, zin_376, zin_377, zin_378, zin_379, zin_380, zin_381, zin_382, zin_383, zin_384, zin_385, zin_386, zin_387, a1, hpr, hqr, hq0, eq, a2, hs0, a3, ↓reduceIte, Int.toNat_natCast]
      refine s_from (d + 2) _ N (S 0) pl (by omega) (Hw_of hRN hW) h2 (fun N3 v1 v2 v3 => ?_)
      rw [zret_some]
      simp only [↓e12, ↓e12_0, ↓e12_1, ↓e12_4, ↓e12_5, ↓e12_8, ↓e12_9, ↓e12_12, ↓e12_15, ↓e12_18, ↓e12_19, ↓e12_22, ↓e12_23, ↓e12_24, ↓e12_25, ↓e12_26, ↓e12_28, ↓e12_29, ↓e12_32, ↓e12_35, ↓e12_36, ↓e12_37, ↓e12_40, ↓e12_41, ↓e12_44, ↓e12_45, ↓e12_48, ↓e12_49, ↓e12_50, ↓e12_51, ↓e12_54, ↓e12_60, ↓e12_63, ↓e12_64, ↓e12_67, ↓e12_68, ↓e12_69, ↓e12_70, ↓e12_71, ↓e12_72, ↓e12_73, ↓e12_76, ↓e12_79, ↓e12_80, ↓e12_81, ↓e12_84, ↓e12_85, ↓e12_86, ↓e12_89, ↓e12_90, ↓e12_93, ↓e12_96, ↓e12_97, ↓e12_100, ↓e12_101, znl_i, znl_r, znl_n, zcs_0, zcs_1, zcs_2, zcs_3, zcat_0, zcat_1, zcat_2, zcat_3, zbl_0, zbl_1, true_and, and_true, ↓zret_some, ↓zret_none, Nat.reduceAdd, Nat.reduceLeDiff, Nat.reduceMul, eq_self, Int.reduceToNat, Int.reduceLE, Int.reduceLT, Int.reduceNeg, and_self, zrg, zkc_0, zin_1, zin_2, zin_3, zin_4, zin_5, zin_6, zin_7, zin_8, zin_9, zaa_9, zkc_10, zin_11, zin_12, zkc_13, zin_14, zin_15, zkc_16, zin_17, zin_18, zkc_19, zin_20, zin_21, zin_22, zin_23, zin_24, zin_25, zin_26, zin_27, zin_28, zaa_28, zkc_29, zin_30, zin_31, zkc_32, zin_33, zin_34, zkc_35, zin_36, zin_37, zkc_38, zin_39, zin_40, zin_41, zin_42, zin_43, zin_44, zin_45, zin_46, zin_47, zaa_47, zkc_48, zin_49, zin_50, zkc_51, zin_52, zin_53, zkc_54, zin_55, zin_56, zkc_209, zkc_210, zin_211, zaa_211, zkc_212, zin_213, zkc_214, zkc_215, zin_216, zin_217, zkc_218, zin_219, zin_220, zin_221, zkc_222, zin_223, zaa_223, zin_224, zin_225, zkc_226, zin_227, zin_228, zin_229, zin_230, zin_231, zin_232, zkc_233, zin_234, zaa_234, zin_235, zin_236, zin_237, zin_238, zin_239, zin_240, zin_241, zin_242, zin_243, zin_244, zin_245, zin_246, zin_247, zin_248, zin_249, zin_250, zkc_251, zin_252, zin_253, zkc_374, zin_375, zin_376, zin_377, zin_378, zin_379, zin_380, zin_381, zin_382, zin_383, zin_384, zin_385, zin_386, zin_387]
      refine s_take (d + 3) _ N3 S q pl k (by omega) (RelC_congr (fun b hb => v3 b (by omega) (by omega) (by omega)) hRN) hW hk.symm ⟨?_, fun i hi => ?_⟩ hpl (by omega) v2 (fun e he => ?_) (fun N4 w1 w2 => ?_)
      · rw [v3 226 (by omega) (by omega) (by omega), h1 226 (by omega) (by omega) (by omega) (by omega)]; exact n10
      · rw [v3 230 (by omega) (by omega) (by omega), h1 230 (by omega) (by omega) (by omega) (by omega)]; exact n30 i hi
      · rw [v3 232 (by omega) (by omega) (by omega)]; exact h3 e he
      · have h9 := ih (q + 1) (by omega) N4 (fun b b1 b2 b3 b4 => by rw [w1 b b3, v3 b b1 b2 b4]; exact h1 b b1 b2 b3 b4) (fun x hx => by
          rw [w1 224 (by omega), w1 (254 + x) (by omega)]
          exact v1 x hx) w2
        rw [zret_none]
        simp only [↓e12, ↓e12_0, ↓e12_1, ↓e12_4, ↓e12_5, ↓e12_8, ↓e12_9, ↓e12_12, ↓e12_15, ↓e12_18, ↓e12_19, ↓e12_22, ↓e12_23, ↓e12_24, ↓e12_25, ↓e12_26, ↓e12_28, ↓e12_29, ↓e12_32, ↓e12_35, ↓e12_36, ↓e12_37, ↓e12_40, ↓e12_41, ↓e12_44, ↓e12_45, ↓e12_48, ↓e12_49, ↓e12_50, ↓e12_51, ↓e12_54, ↓e12_57, ↓e12_60, ↓e12_63, ↓e12_64, ↓e12_67, ↓e12_68, ↓e12_69, ↓e12_70, ↓e12_71, ↓e12_72, ↓e12_73, ↓e12_76, ↓e12_79, ↓e12_80, ↓e12_81, ↓e12_84, ↓e12_85, ↓e12_86, ↓e12_89, ↓e12_90, ↓e12_93, ↓e12_96, ↓e12_97, ↓e12_100, ↓e12_101, znl_i, znl_r, znl_n, zcs_0, zcs_1, zcs_2, zcs_3, zcat_0, zcat_1, zcat_2, zcat_3, zbl_0, zbl_1, true_and, and_true, ↓zret_some, ↓zret_none, Nat.reduceAdd, Nat.reduceLeDiff, Nat.reduceMul, eq_self, Int.reduceToNat, Int.reduceLE, Int.reduceLT, Int.reduceNeg, and_self]
        rw [show ((q : Int) + 1) = ((q + 1 : Nat) : Int) by omega]
        exact h9
  have h9 := slots p 0 (by omega) (zup (zfill N2 232 512 12100) 232 0 0) (fun b b1 b2 b3 b4 => by
      unfold zfill
      rw [zup_ne _ _ _ b3, zrow_ne _ _ b3]) (fun x hx => by
      unfold zfill
      rw [zup_ne _ _ _ (by omega), zup_ne _ _ _ (by omega), zrow_ne _ _ (by omega), zrow_ne _ _ (by omega)]
      exact hV2 x hx) (fun e he => by
      unfold lsq
      by_cases z : e = 0
      · subst z; simp [zup]
      · simp only [zup, z, and_false, if_false]
        unfold zfill
        rw [zrow_self, if_pos he])
  rw [zret_none]
  simp only [↓e12, ↓e12_0, ↓e12_1, ↓e12_4, ↓e12_5, ↓e12_8, ↓e12_9, ↓e12_12, ↓e12_15, ↓e12_18, ↓e12_19, ↓e12_22, ↓e12_23, ↓e12_24, ↓e12_25, ↓e12_26, ↓e12_28, ↓e12_29, ↓e12_32, ↓e12_35, ↓e12_36, ↓e12_37, ↓e12_40, ↓e12_41, ↓e12_44, ↓e12_45, ↓e12_48, ↓e12_49, ↓e12_50, ↓e12_51, ↓e12_54, ↓e12_57, ↓e12_60, ↓e12_63, ↓e12_64, ↓e12_67, ↓e12_68, ↓e12_69, ↓e12_70, ↓e12_71, ↓e12_72, ↓e12_73, ↓e12_76, ↓e12_79, ↓e12_80, ↓e12_81, ↓e12_84, ↓e12_85, ↓e12_86, ↓e12_89, ↓e12_90, ↓e12_93, ↓e12_96, ↓e12_97, ↓e12_100, ↓e12_101, znl_i, znl_r, znl_n, zcs_0, zcs_1, zcs_2, zcs_3, zcat_0, zcat_1, zcat_2, zcat_3, zbl_0, zbl_1, true_and, and_true, ↓zret_some, ↓zret_none, Nat.reduceAdd, Nat.reduceLeDiff, Nat.reduceMul, eq_self, Int.reduceToNat, Int.reduceLE, Int.reduceLT, Int.reduceNeg, and_self, zkc_0, zin_1, zin_2, zin_3, zin_4, zin_5, zin_6, zin_7, zin_8, zin_9, zaa_9, zkc_10, zin_11, zin_12, zkc_13, zin_14, zin_15, zkc_16, zin_17, zin_18, zkc_19, zin_20, zin_21, zin_22, zin_23, zin_24, zin_25, zin_26, zin_27, zin_28, zaa_28, zkc_29, zin_30, zin_31, zkc_32, zin_33, zin_34, zkc_35, zin_36, zin_37, zkc_38, zin_39, zin_40, zin_41, zin_42, zin_43, zin_44, zin_45, zin_46, zin_47, zaa_47, zkc_48, zin_49, zin_50, zkc_51, zin_52, zin_53, zkc_54, zin_55, zin_56, zkc_209, zkc_210, zin_211, zaa_211, zkc_212, zin_213, zkc_214, zkc_215, zin_216, zin_217, zkc_218, zin_219, zin_220, zin_221, zkc_222, zin_223, zaa_223, zin_224, zin_225, zkc_226, zin_227, zin_228, zin_229, zin_230, zin_231, zin_232, zkc_233, zin_234, zaa_234, zin_235, zin_236, zin_237, zin_238, zin_239, zin_240, zin_241, zin_242, zin_243, zin_244, zin_245, zin_246, zin_247, zin_248, zin_249, zin_250, zkc_251, zin_252, zin_253, zkc_374, zin_375, zin_376, zin_377, zin_378, zin_379, zin_380, zin_381, zin_382, zin_383, zin_384, zin_385, zin_386, zin_387, ↓s_fill _ _ _ 232 512 [] 12100 zk232 (by omega)]
  exact h9
