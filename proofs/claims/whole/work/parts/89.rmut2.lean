/-! ### the reference: members more and less, walls -/
theorem s_members (d : Nat) (Q : zQ) (M S : zM) (hR : RelR M 0 S) (hW : WfS S) : Sp (d + 3) 119 [.inr (.inr 374)] M Q = Q (some (.inl (cntM S 10))) M := by
  have loop : ∀ n k : Nat, k + n = 10 → RT (Sp (d + 2)) 119 Q 4 [some (.inr (.inr 374)), some (.inl (cntM S k)), some (.inl (k : Int))] [] M = Q (some (.inl (cntM S 10))) M := by
    intro n
    induction n with
    | zero =>
      intro k hk
      obtain rfl : k = 10 := by omega
      rw [e119_4]
      simp only [↓e119, ↓e119_0, ↓e119_1, ↓e119_2, ↓e119_3, ↓e119_5, ↓e119_7, ↓e119_10, ↓e119_11, ↓e119_12, ↓e119_13, ↓e119_16, ↓e119_19, ↓e119_20, ↓e119_23, ↓e119_24, ↓e119_25, ↓e119_26, ↓e119_29, ↓e119_32, ↓e119_33, znl_i, znl_r, znl_n, zcs_0, zcs_1, zcs_2, zcs_3, zcat_0, zcat_1, zcat_2, zcat_3, zbl_0, zbl_1, true_and, and_true, ↓zret_some, ↓zret_none, Nat.reduceAdd, Nat.reduceLeDiff, Nat.reduceMul, eq_self, Int.reduceToNat, Int.reduceLE, Int.reduceLT, Int.reduceNeg, and_self, zrg, Int.cast_ofNat_Int, ge_iff_le, Int.le_refl, ↓reduceIte]
    | succ n ih =>
      intro k hk
      have hk1 : ¬ (k : Int) ≥ 10 := by omega
      have hk2 : -2147483648 ≤ (k : Int) ∧ (k : Int) < 2147483648 := ⟨by omega, by omega⟩
      have hzz : -2147483648 ≤ zb (isM S k) ∧ zb (isM S k) < 2147483648 := by unfold zb; split <;> omega
      have hm : isM S k ↔ 0 ≤ S 1 k := by
        unfold isM
        rw [Int.toNat_natCast]
        exact ⟨fun h => h.2.2, fun h => ⟨by omega, by omega, h⟩⟩
      have h9 := ih (k + 1) (by omega)
      have hs : cntM S (k + 1) = cntM S k + (if 0 ≤ S 1 k then 1 else 0) := rfl
      rw [hs] at h9
      rw [e119_4]
      simp only [↓e119, ↓e119_0, ↓e119_1, ↓e119_2, ↓e119_3, ↓e119_5, ↓e119_7, ↓e119_10, ↓e119_11, ↓e119_12, ↓e119_13, ↓e119_16, ↓e119_19, ↓e119_20, ↓e119_23, ↓e119_24, ↓e119_25, ↓e119_26, ↓e119_29, ↓e119_32, ↓e119_33, znl_i, znl_r, znl_n, zcs_0, zcs_1, zcs_2, zcs_3, zcat_0, zcat_1, zcat_2, zcat_3, zbl_0, zbl_1, true_and, and_true, ↓zret_some, ↓zret_none, Nat.reduceAdd, Nat.reduceLeDiff, Nat.reduceMul, eq_self, Int.reduceToNat, Int.reduceLE, Int.reduceLT, Int.reduceNeg, and_self, zrg, zkc_0, zin_1, zin_2, zin_3, zin_4, zin_5, zin_6, zin_7, zin_8, zin_9, zaa_9, zkc_10, zin_11, zin_12, zkc_13, zin_14, zin_15, zkc_16, zin_17, zin_18, zkc_19, zin_20, zin_21, zin_22, zin_23, zin_24, zin_25, zin_26, zin_27, zin_28, zaa_28, zkc_29, zin_30, zin_31, zkc_32, zin_33, zin_34, zkc_35, zin_36, zin_37, zkc_38, zin_39, zin_40, zin_41, zin_42, zin_43, zin_44, zin_45, zin_46, zin_47, zaa_47, zkc_48, zin_49, zin_50, zkc_51, zin_52, zin_53, zkc_54, zin_55, zin_56, zkc_209, zkc_210, zin_211, zaa_211, zkc_212, zin_213, zkc_214, zkc_215, zin_216, zin_217, zkc_218, zin_219, zin_220, zin_221, zkc_222, zin_223, zaa_223, zin_224, zin_225, zkc_226, zin_227, zin_228, zin_229, zin_230, zin_231, zin_232, zkc_233, zin_234, zaa_234, zin_235, zin_236, zin_237, zin_238, zin_239, zin_240, zin_241, zin_242, zin_243, zin_244, zin_245, zin_246, zin_247, zin_248, zin_249, zin_250, zkc_251, zin_252, zin_253, zkc_374, zin_375, zin_376, zin_377, zin_378, zin_379, zin_380, zin_381, zin_382, zin_383, zin_384, zin_385, zin_386, zin_387, hk1, hk2, ↓reduceIte, ↓s_isMember d _ M S k hR hW hk2, hzz]
      rw [show ((k : Int) + 1) = ((k + 1 : Nat) : Int) by omega]
      by_cases a : 0 ≤ S 1 k
      · rw [show zb (isM S k) = 1 from if_pos (hm.mpr a), if_neg (by omega)]
        rw [if_pos a] at h9
        exact h9
      · rw [show zb (isM S k) = 0 from if_neg (fun z => a (hm.mp z)), if_pos rfl]
        rw [if_neg a] at h9
        exact h9
  have h9 := loop 10 0 rfl
  simp only [↓e119, ↓e119_0, ↓e119_1, ↓e119_2, ↓e119_3, ↓e119_5, ↓e119_7, ↓e119_10, ↓e119_11, ↓e119_12, ↓e119_13, ↓e119_16, ↓e119_19, ↓e119_20, ↓e119_23, ↓e119_24, ↓e119_25, ↓e119_26, ↓e119_29, ↓e119_32, ↓e119_33, znl_i, znl_r, znl_n, zcs_0, zcs_1, zcs_2, zcs_3, zcat_0, zcat_1, zcat_2, zcat_3, zbl_0, zbl_1, true_and, and_true, ↓zret_some, ↓zret_none, Nat.reduceAdd, Nat.reduceLeDiff, Nat.reduceMul, eq_self, Int.reduceToNat, Int.reduceLE, Int.reduceLT, Int.reduceNeg, and_self]
  exact h9
theorem sz10 {S : zM} (hW : WfS S) : ∀ j : Nat, j < 3 → S (9 + j) 0 ≤ 10 := fun j hj => (hW.2.2.2.2.2.2.2.2.2 j hj).2.1
theorem s_opens (d : Nat) (Q : zQ) (M S : zM) (c : Int) (hR : RelR' M 0 S) (hW : WfS S) (h10 : S 7 7 < 10) (hQ : ∀ N, RelR' N 0 (jn S c) → (∀ b, b ≠ 375 → N b = M b) → (∀ j, 258 ≤ j → N 375 j = M 375 j) → Q (some (.inl (S 7 7))) N) : Sp (d + 2) 146 [.inr (.inr 374), .inl c] M Q := by
  have h77 := hW.2.2.2.2.2.1
  obtain ⟨m, hm⟩ : ∃ m : Nat, S 7 7 = m := ⟨(S 7 7).toNat, by omega⟩
  have hm10 : m < 10 := by omega
  have r0 : M 375 0 = m := by rw [hR.1.1.1, hm]
  have loop : ∀ n k : Nat, k + n = 6 → ∀ N : zM, (∀ b, b ≠ 375 → N b = M b) → (∀ q : Nat, q < k → N 375 (12 + 6 * m + q) = 0) → N 375 0 = (m : Int) + 1 → (∀ j, j ≠ 0 → (j < 12 + 6 * m ∨ 12 + 6 * m + 6 ≤ j) → N 375 j = M 375 j) → RT (Sp (d + 1)) 146 Q 19 [some (.inr (.inr 374)), some (.inl c), some (.inl (m : Int)), some (.inl (k : Int))] [] N := by
    intro n
    induction n with
    | zero =>
      intro k hk N f1 f2 f3 f4
      obtain rfl : k = 6 := by omega
      have e7 : ∀ u v, zup (zup N 375 (12 + 6 * m + 0) u) 375 (12 + 6 * m + 5) v 375 (4 + 7) = M 375 11 := fun u v => by rw [zup_off _ _ (by omega), zup_off _ _ (by omega), f4 _ (by omega) (by omega)]
      have hct := fun Q' M' => s_counts d Q' M' 7 1 (by omega)
      have hct : ∀ Q' M', Sp (d + 1) 122 [.inr (.inr 374), .inl 7, .inl 1] M' Q' = Q' none (zup M' 375 (4 + 7) (M' 375 (4 + 7) + 1)) := hct
      have r11 : M 375 11 = m := by have := hR.1.2.1 7 (by omega) (by omega) (by omega); simp only [Nat.zero_add] at this; rw [← hm]; exact this
      have g : ∀ j, zup (zup (zup N 375 (12 + 6 * m + 0) c) 375 (12 + 6 * m + 5) (-5)) 375 (4 + 7) (M 375 11 + 1) 375 j = if j = 11 then M 375 11 + 1 else if j = 12 + 6 * m + 5 then -5 else if j = 12 + 6 * m then c else N 375 j := fun j => by
        unfold zup
        simp
      have h9 := hQ (zup (zup (zup N 375 (12 + 6 * m + 0) c) 375 (12 + 6 * m + 5) (-5)) 375 (4 + 7) (M 375 11 + 1)) (by
        have eb : ∀ b, b ≠ 1 → b ≠ 7 → jn S c b = S b := fun b b1 b7 => by unfold jn; rw [zup_ne _ _ _ b7, zup_ne _ _ _ b1]
        have e1 : ∀ j, jn S c 1 j = if j = m then c else S 1 j := fun j => by unfold jn; rw [zup_ne _ _ _ (by omega), hm, Int.toNat_natCast]; unfold zup; simp
        have e7 : ∀ j, jn S c 7 j = if j = 7 then (m : Int) + 1 else S 7 j := fun j => by
          unfold jn
          by_cases z : j = 7
          · subst z; rw [zup_at, if_pos rfl, hm]
          · rw [zup_off _ _ (Or.inr z), zup_ne _ _ _ (by omega), if_neg z]
        refine ⟨RelR_gen hR.1 (sz10 hW) ?_ (fun k hk => ?_) (fun k hk k5 k6 => ?_) (fun i q hi hl hq => ?_) (fun x hx => ?_) (fun j j1 j2 => ?_) (fun b hb => eb b (by omega) (by omega)), ?_⟩
        · rw [g, if_neg (by omega), if_neg (by omega), if_neg (by omega), f3, e7, if_pos rfl]
        · rw [g, if_neg (by omega), if_neg (by omega), if_neg (by omega), f4 _ (by omega) (by omega), eb 8 (by omega) (by omega)]
          exact RelR_8 hR.1 hk
        · rw [g, e7]
          by_cases z : k = 7
          · rw [if_pos (by omega), if_pos z, r11]
          · rw [if_neg (by omega), if_neg (by omega), if_neg (by omega), if_neg z, f4 _ (by omega) (by omega)]
            have := hR.1.2.1 k hk k5 k6
            simp only [Nat.zero_add] at this
            exact this
        · rw [e7, if_pos rfl] at hl
          have hw3 := hW.2.2.1 m hm10 (by omega)
          rw [g, if_neg (by omega)]
          by_cases z : i = m
          · subst z
            rcases (show q = 0 ∨ q = 1 ∨ q = 2 ∨ q = 3 ∨ q = 4 ∨ q = 5 by omega) with rfl | rfl | rfl | rfl | rfl | rfl
            · rw [if_neg (by omega), if_pos (by omega), e1, if_pos rfl]
            · rw [if_neg (by omega), if_neg (by omega), f2 1 (by omega), eb 2 (by omega) (by omega), hw3.2.1]
            · rw [if_neg (by omega), if_neg (by omega), f2 2 (by omega), eb 3 (by omega) (by omega), hw3.2.2.1]
            · rw [if_neg (by omega), if_neg (by omega), f2 3 (by omega), eb 4 (by omega) (by omega), hw3.2.2.2.1]
            · rw [if_neg (by omega), if_neg (by omega), f2 4 (by omega), eb 5 (by omega) (by omega), hw3.2.2.2.2.1]
            · rw [if_pos rfl, eb 6 (by omega) (by omega), hw3.2.2.2.2.2]
          · rw [if_neg (by omega), if_neg (by omega), f4 _ (by omega) (by omega), RelR_row hR.1 hi (by omega) hq]
            by_cases y : q = 0
            · subst y; rw [e1, if_neg z]
            · rw [eb (q + 1) (by omega) (by omega)]
        · rw [g, if_neg (by omega), if_neg (by omega), if_neg (by omega), f4 _ (by omega) (by omega), eb 0 (by omega) (by omega)]
          have := hR.1.2.2.2.1 x hx
          simp only [Nat.zero_add] at this
          exact this
        · rw [g, if_neg (by omega), if_neg (by omega), if_neg (by omega), f4 _ (by omega) (by omega)]
        · rw [g, if_neg (by omega), if_neg (by omega), if_neg (by omega), f4 _ (by omega) (by omega), e7, if_neg (by omega)]
          exact hR.2) (fun b hb => by rw [zup_ne _ _ _ hb, zup_ne _ _ _ hb, zup_ne _ _ _ hb, f1 b hb]) (fun j hj => by rw [g, if_neg (by omega), if_neg (by omega), if_neg (by omega), f4 _ (by omega) (by omega)])
      rw [e146_19]
      simp only [↓e146, ↓e146_0, ↓e146_1, ↓e146_4, ↓e146_5, ↓e146_6, ↓e146_7, ↓e146_8, ↓e146_11, ↓e146_12, ↓e146_13, ↓e146_14, ↓e146_15, ↓e146_16, ↓e146_17, ↓e146_18, ↓e146_20, ↓e146_22, ↓e146_25, ↓e146_26, ↓e146_27, ↓e146_28, ↓e146_29, ↓e146_32, ↓e146_35, ↓e146_38, ↓e146_39, ↓e146_40, ↓e146_41, ↓e146_42, ↓e146_45, ↓e146_46, ↓e146_47, ↓e146_48, ↓e146_50, ↓e146_53, ↓e146_54, ↓e146_56, ↓e146_57, ↓e146_60, ↓e146_61, znl_i, znl_r, znl_n, zcs_0, zcs_1, zcs_2, zcs_3, zcat_0, zcat_1, zcat_2, zcat_3, zbl_0, zbl_1, true_and, and_true, ↓zret_some, ↓zret_none, Nat.reduceAdd, Nat.reduceLeDiff, Nat.reduceMul, eq_self, Int.reduceToNat, Int.reduceLE, Int.reduceLT, Int.reduceNeg, and_self, zrg, zkc_0, zin_1, zin_2, zin_3, zin_4, zin_5, zin_6, zin_7, zin_8, zin_9, zaa_9, zkc_10, zin_11, zin_12, zkc_13, zin_14, zin_15, zkc_16, zin_17, zin_18, zkc_19, zin_20, zin_21, zin_22, zin_23, zin_24, zin_25, zin_26, zin_27, zin_28, zaa_28, zkc_29, zin_30, zin_31, zkc_32, zin_33, zin_34, zkc_35, zin_36, zin_37, zkc_38, zin_39, zin_40, zin_41, zin_42, zin_43, zin_44, zin_45, zin_46, zin_47, zaa_47, zkc_48, zin_49, zin_50, zkc_51, zin_52, zin_53, zkc_54, zin_55, zin_56, zkc_209, zkc_210, zin_211, zaa_211, zkc_212, zin_213, zkc_214, zkc_215, zin_216, zin_217, zkc_218, zin_219, zin_220, zin_221, zkc_222, zin_223, zaa_223, zin_224, zin_225, zkc_226, zin_227, zin_228, zin_229, zin_230, zin_231, zin_232, zkc_233, zin_234, zaa_234, zin_235, zin_236, zin_237, zin_238, zin_239, zin_240, zin_241, zin_242, zin_243, zin_244, zin_245, zin_246, zin_247, zin_248, zin_249, zin_250, zkc_251, zin_252, zin_253, zkc_374, zin_375, zin_376, zin_377, zin_378, zin_379, zin_380, zin_381, zin_382, zin_383, zin_384, zin_385, zin_386, zin_387, Int.cast_ofNat_Int, ge_iff_le, Int.le_refl, ↓reduceIte, ↓s_lay0 d _ _ m _ hm10, ↓s_lay5 d _ _ m _ hm10, ↓hct, e7]
      rw [← hm]
      exact h9
    | succ n ih =>
      intro k hk N f1 f2 f3 f4
      have hk1 : ¬ (k : Int) ≥ 6 := by omega
      have hk2 : -2147483648 ≤ (k : Int) ∧ (k : Int) < 2147483648 := ⟨by omega, by omega⟩
      have h9 := ih (k + 1) (by omega) (zup N 375 (12 + 6 * m + k) 0) (fun b hb => by rw [zup_ne _ _ _ hb, f1 b hb]) (fun q hq => by
        by_cases z : q = k
        · subst z; exact zup_at _ _ _ _
        · rw [zup_off _ _ (by omega), f2 q (by omega)]) (by rw [zup_off _ _ (by omega), f3]) (fun j j0 hj => by rw [zup_off _ _ (by omega), f4 j j0 hj])
      rw [e146_19]
      simp only [↓e146, ↓e146_0, ↓e146_1, ↓e146_4, ↓e146_5, ↓e146_6, ↓e146_7, ↓e146_8, ↓e146_11, ↓e146_12, ↓e146_13, ↓e146_14, ↓e146_15, ↓e146_16, ↓e146_17, ↓e146_18, ↓e146_20, ↓e146_22, ↓e146_25, ↓e146_26, ↓e146_27, ↓e146_28, ↓e146_29, ↓e146_32, ↓e146_35, ↓e146_38, ↓e146_39, ↓e146_40, ↓e146_41, ↓e146_42, ↓e146_45, ↓e146_46, ↓e146_47, ↓e146_48, ↓e146_50, ↓e146_53, ↓e146_54, ↓e146_56, ↓e146_57, ↓e146_60, ↓e146_61, znl_i, znl_r, znl_n, zcs_0, zcs_1, zcs_2, zcs_3, zcat_0, zcat_1, zcat_2, zcat_3, zbl_0, zbl_1, true_and, and_true, ↓zret_some, ↓zret_none, Nat.reduceAdd, Nat.reduceLeDiff, Nat.reduceMul, eq_self, Int.reduceToNat, Int.reduceLE, Int.reduceLT, Int.reduceNeg, and_self, zrg, zkc_0, zin_1, zin_2, zin_3, zin_4, zin_5, zin_6, zin_7, zin_8, zin_9, zaa_9, zkc_10, zin_11, zin_12, zkc_13, zin_14, zin_15, zkc_16, zin_17, zin_18, zkc_19, zin_20, zin_21, zin_22, zin_23, zin_24, zin_25, zin_26, zin_27, zin_28, zaa_28, zkc_29, zin_30, zin_31, zkc_32, zin_33, zin_34, zkc_35, zin_36, zin_37, zkc_38, zin_39, zin_40, zin_41, zin_42, zin_43, zin_44, zin_45, zin_46, zin_47, zaa_47, zkc_48, zin_49, zin_50, zkc_51, zin_52, zin_53, zkc_54, zin_55, zin_56, zkc_209, zkc_210, zin_211, zaa_211, zkc_212, zin_213, zkc_214, zkc_215, zin_216, zin_217, zkc_218, zin_219, zin_220, zin_221, zkc_222, zin_223, zaa_223, zin_224, zin_225, zkc_226, zin_227, zin_228, zin_229, zin_230, zin_231, zin_232, zkc_233, zin_234, zaa_234, zin_235, zin_236, zin_237, zin_238, zin_239, zin_240, zin_241, zin_242, zin_243, zin_244, zin_245, zin_246, zin_247, zin_248, zin_249, zin_250, zkc_251, zin_252, zin_253, zkc_374, zin_375, zin_376, zin_377, zin_378, zin_379, zin_380, zin_381, zin_382, zin_383, zin_384, zin_385, zin_386, zin_387, hk1, hk2, ↓reduceIte, ↓s_lays d _ _ m k _ hm10 (show k < 6 by omega)]
      rw [show ((k : Int) + 1) = ((k + 1 : Nat) : Int) by omega]
      exact h9
  have h9 := loop 6 0 rfl (zup M 375 0 ((m : Int) + 1)) (fun b hb => zup_ne _ _ _ hb) (fun q hq => absurd hq (Nat.not_lt_zero q)) (zup_at _ _ _ _) (fun j j0 _ => zup_off _ _ (Or.inr j0))
  simp only [↓e146, ↓e146_0, ↓e146_1, ↓e146_4, ↓e146_5, ↓e146_6, ↓e146_7, ↓e146_8, ↓e146_11, ↓e146_12, ↓e146_13, ↓e146_14, ↓e146_15, ↓e146_16, ↓e146_17, ↓e146_18, ↓e146_20, ↓e146_22, ↓e146_25, ↓e146_26, ↓e146_27, ↓e146_28, ↓e146_29, ↓e146_32, ↓e146_35, ↓e146_38, ↓e146_39, ↓e146_40, ↓e146_41, ↓e146_42, ↓e146_45, ↓e146_46, ↓e146_47, ↓e146_48, ↓e146_50, ↓e146_53, ↓e146_54, ↓e146_56, ↓e146_57, ↓e146_60, ↓e146_61, znl_i, znl_r, znl_n, zcs_0, zcs_1, zcs_2, zcs_3, zcat_0, zcat_1, zcat_2, zcat_3, zbl_0, zbl_1, true_and, and_true, ↓zret_some, ↓zret_none, Nat.reduceAdd, Nat.reduceLeDiff, Nat.reduceMul, eq_self, Int.reduceToNat, Int.reduceLE, Int.reduceLT, Int.reduceNeg, and_self, zkc_0, zin_1, zin_2, zin_3, zin_4, zin_5, zin_6, zin_7, zin_8, zin_9, zaa_9, zkc_10, zin_11, zin_12, zkc_13, zin_14, zin_15, zkc_16, zin_17, zin_18, zkc_19, zin_20, zin_21, zin_22, zin_23, zin_24, zin_25, zin_26, zin_27, zin_28, zaa_28, zkc_29, zin_30, zin_31, zkc_32, zin_33, zin_34, zkc_35, zin_36, zin_37, zkc_38, zin_39, zin_40, zin_41, zin_42, zin_43, zin_44, zin_45, zin_46, zin_47, zaa_47, zkc_48, zin_49, zin_50, zkc_51, zin_52, zin_53, zkc_54, zin_55, zin_56, zkc_209, zkc_210, zin_211, zaa_211, zkc_212, zin_213, zkc_214, zkc_215, zin_216, zin_217, zkc_218, zin_219, zin_220, zin_221, zkc_222, zin_223, zaa_223, zin_224, zin_225, zkc_226, zin_227, zin_228, zin_229, zin_230, zin_231, zin_232, zkc_233, zin_234, zaa_234, zin_235, zin_236, zin_237, zin_238, zin_239, zin_240, zin_241, zin_242, zin_243, zin_244, zin_245, zin_246, zin_247, zin_248, zin_249, zin_250, zkc_251, zin_252, zin_253, zkc_374, zin_375, zin_376, zin_377, zin_378, zin_379, zin_380, zin_381, zin_382, zin_383, zin_384, zin_385, zin_386, zin_387, r0]
  exact h9
theorem s_goesLost (d : Nat) (Q : zQ) (M S : zM) (m B : Nat) (hm : m < 10) (h0 : 0 ≤ S 1 m) (hR : RelR' M 0 S) (hW : Wb B S) (hQ : ∀ N, RelR' N 0 (pt S m) → (∀ b, b ≠ 375 → N b = M b) → (∀ j, 258 ≤ j → N 375 j = M 375 j) → Q (some (.inl (cntM (pt S m) 10))) N) : Sp (d + 4) 147 [.inr (.inr 374), .inl (m : Int)] M Q := by
  have hct := fun Q' M' => s_counts (d + 2) Q' M' 5 1 (by omega)
  have hct : ∀ Q' M', Sp (d + 2 + 1) 122 [.inr (.inr 374), .inl 5, .inl 1] M' Q' = Q' none (zup M' 375 (4 + 5) (M' 375 (4 + 5) + 1)) := hct
  have h7 := mem_lt hW.1 hm h0
  have e9 : zup M 375 (12 + 6 * m + 0) (-1) 375 (4 + 5) = S 7 5 := by rw [zup_off _ _ (by omega)]; exact hR.2
  have g : ∀ j, zup (zup M 375 (12 + 6 * m + 0) (-1)) 375 (4 + 5) (S 7 5 + 1) 375 j = if j = 9 then S 7 5 + 1 else if j = 12 + 6 * m then -1 else M 375 j := fun j => by
    unfold zup
    simp
  have eb : ∀ b, b ≠ 1 → b ≠ 7 → pt S m b = S b := fun b b1 b7 => by unfold pt; rw [zup_ne _ _ _ b7, zup_ne _ _ _ b1]
  have e1 : ∀ j, pt S m 1 j = if j = m then -1 else S 1 j := fun j => by unfold pt; rw [zup_ne _ _ _ (by omega)]; unfold zup; simp
  have e7 : ∀ j, j ≠ 5 → pt S m 7 j = S 7 j := fun j hj => by unfold pt; rw [zup_off _ _ (Or.inr hj), zup_ne _ _ _ (by omega)]
  have hRN : RelR' (zup (zup M 375 (12 + 6 * m + 0) (-1)) 375 (4 + 5) (S 7 5 + 1)) 0 (pt S m) := by
    refine ⟨RelR_gen hR.1 (sz10 hW.1) ?_ (fun k hk => ?_) (fun k hk k5 k6 => ?_) (fun i q hi hl hq => ?_) (fun x hx => ?_) (fun j j1 j2 => ?_) (fun b hb => eb b (by omega) (by omega)), ?_⟩
    · rw [g, if_neg (by omega), if_neg (by omega), e7 7 (by omega)]; exact hR.1.1.1
    · rw [g, if_neg (by omega), if_neg (by omega), eb 8 (by omega) (by omega)]; exact RelR_8 hR.1 hk
    · rw [g, if_neg (by omega), if_neg (by omega), e7 k k5]
      have := hR.1.2.1 k hk k5 k6
      simp only [Nat.zero_add] at this
      exact this
    · rw [e7 7 (by omega)] at hl
      rw [g, if_neg (by omega)]
      by_cases z : i = m ∧ q = 0
      · obtain ⟨rfl, rfl⟩ := z
        rw [if_pos (by omega), e1, if_pos rfl]
      · rw [if_neg (by omega), RelR_row hR.1 hi hl hq]
        by_cases y : q = 0
        · subst y; rw [e1, if_neg (by omega)]
        · rw [eb (q + 1) (by omega) (by omega)]
    · rw [g, if_neg (by omega), if_neg (by omega), eb 0 (by omega) (by omega)]
      have := hR.1.2.2.2.1 x hx
      simp only [Nat.zero_add] at this
      exact this
    · rw [g, if_neg (by omega), if_neg (by omega)]
    · rw [g, if_pos (by omega)]
      exact (zup_at _ _ _ _).symm
  simp only [↓e147, ↓e147_0, ↓e147_1, ↓e147_2, ↓e147_3, ↓e147_4, ↓e147_7, ↓e147_8, ↓e147_9, ↓e147_10, ↓e147_13, ↓e147_14, ↓e147_17, znl_i, znl_r, znl_n, zcs_0, zcs_1, zcs_2, zcs_3, zcat_0, zcat_1, zcat_2, zcat_3, zbl_0, zbl_1, true_and, and_true, ↓zret_some, ↓zret_none, Nat.reduceAdd, Nat.reduceLeDiff, Nat.reduceMul, eq_self, Int.reduceToNat, Int.reduceLE, Int.reduceLT, Int.reduceNeg, and_self, zkc_0, zin_1, zin_2, zin_3, zin_4, zin_5, zin_6, zin_7, zin_8, zin_9, zaa_9, zkc_10, zin_11, zin_12, zkc_13, zin_14, zin_15, zkc_16, zin_17, zin_18, zkc_19, zin_20, zin_21, zin_22, zin_23, zin_24, zin_25, zin_26, zin_27, zin_28, zaa_28, zkc_29, zin_30, zin_31, zkc_32, zin_33, zin_34, zkc_35, zin_36, zin_37, zkc_38, zin_39, zin_40, zin_41, zin_42, zin_43, zin_44, zin_45, zin_46, zin_47, zaa_47, zkc_48, zin_49, zin_50, zkc_51, zin_52, zin_53, zkc_54, zin_55, zin_56, zkc_209, zkc_210, zin_211, zaa_211, zkc_212, zin_213, zkc_214, zkc_215, zin_216, zin_217, zkc_218, zin_219, zin_220, zin_221, zkc_222, zin_223, zaa_223, zin_224, zin_225, zkc_226, zin_227, zin_228, zin_229, zin_230, zin_231, zin_232, zkc_233, zin_234, zaa_234, zin_235, zin_236, zin_237, zin_238, zin_239, zin_240, zin_241, zin_242, zin_243, zin_244, zin_245, zin_246, zin_247, zin_248, zin_249, zin_250, zkc_251, zin_252, zin_253, zkc_374, zin_375, zin_376, zin_377, zin_378, zin_379, zin_380, zin_381, zin_382, zin_383, zin_384, zin_385, zin_386, zin_387, ↓s_lay0 (d + 2) _ _ m _ hm, ↓hct, e9, ↓s_members d _ _ _ hRN.1 (pt_ok hW hm h0).1]
  exact hQ _ hRN (fun b hb => by rw [zup_ne _ _ _ hb, zup_ne _ _ _ hb]) (fun j hj => by rw [g, if_neg (by omega), if_neg (by omega)])
theorem s_turnsBlocked (d : Nat) (Q : zQ) (M S : zM) (c : Nat) (hc : c < 120) (hR : RelR' M 0 S) (hW : WfS S) (hQ : ∀ N, RelR' N 0 (wl S c) → (∀ b, b ≠ 375 → N b = M b) → (∀ j, 258 ≤ j → N 375 j = M 375 j) → Q (some (.inl (1 - S 0 c))) N) : Sp (d + 1) 148 [.inr (.inr 374), .inl (c : Int)] M Q := by
  have e1 : (72 + (c : Int)).toNat = 72 + c := by omega
  have e2 : 0 ≤ 72 + (c : Int) ∧ 72 + (c : Int) < 2838 := ⟨by omega, by omega⟩
  have r := hR.1.2.2.2.1 c hc
  simp only [Nat.zero_add] at r
  have g : ∀ j, zup M 375 (72 + c) (1 - S 0 c) 375 j = if j = 72 + c then 1 - S 0 c else M 375 j := fun j => by unfold zup; simp
  have eb : ∀ b, b ≠ 0 → b ≠ 7 → wl S c b = S b := fun b b1 b7 => by unfold wl; rw [zup_ne _ _ _ b7, zup_ne _ _ _ b1]
  have e0 : ∀ j, wl S c 0 j = if j = c then 1 - S 0 c else S 0 j := fun j => by unfold wl; rw [zup_ne _ _ _ (by omega)]; unfold zup; simp
  have e7 : ∀ j, j ≠ 6 → wl S c 7 j = S 7 j := fun j hj => by unfold wl; rw [zup_off _ _ (Or.inr hj), zup_ne _ _ _ (by omega)]
  simp only [↓e148, ↓e148_0, ↓e148_1, ↓e148_4, ↓e148_6, ↓e148_7, ↓e148_8, ↓e148_9, ↓e148_10, ↓e148_13, ↓e148_15, ↓e148_16, ↓e148_17, ↓e148_18, ↓e148_19, ↓e148_20, ↓e148_21, ↓e148_24, ↓e148_26, ↓e148_27, ↓e148_28, ↓e148_29, znl_i, znl_r, znl_n, zcs_0, zcs_1, zcs_2, zcs_3, zcat_0, zcat_1, zcat_2, zcat_3, zbl_0, zbl_1, true_and, and_true, ↓zret_some, ↓zret_none, Nat.reduceAdd, Nat.reduceLeDiff, Nat.reduceMul, eq_self, Int.reduceToNat, Int.reduceLE, Int.reduceLT, Int.reduceNeg, and_self, zkc_0, zin_1, zin_2, zin_3, zin_4, zin_5, zin_6, zin_7, zin_8, zin_9, zaa_9, zkc_10, zin_11, zin_12, zkc_13, zin_14, zin_15, zkc_16, zin_17, zin_18, zkc_19, zin_20, zin_21, zin_22, zin_23, zin_24, zin_25, zin_26, zin_27, zin_28, zaa_28, zkc_29, zin_30, zin_31, zkc_32, zin_33, zin_34, zkc_35, zin_36, zin_37, zkc_38, zin_39, zin_40, zin_41, zin_42, zin_43, zin_44, zin_45, zin_46, zin_47, zaa_47, zkc_48, zin_49, zin_50, zkc_51, zin_52, zin_53, zkc_54, zin_55, zin_56, zkc_209, zkc_210, zin_211, zaa_211, zkc_212, zin_213, zkc_214, zkc_215, zin_216, zin_217, zkc_218, zin_219, zin_220, zin_221, zkc_222, zin_223, zaa_223, zin_224, zin_225, zkc_226, zin_227, zin_228, zin_229, zin_230, zin_231, zin_232, zkc_233, zin_234, zaa_234, zin_235, zin_236, zin_237, zin_238, zin_239, zin_240, zin_241, zin_242, zin_243, zin_244, zin_245, zin_246, zin_247, zin_248, zin_249, zin_250, zkc_251, zin_252, zin_253, zkc_374, zin_375, zin_376, zin_377, zin_378, zin_379, zin_380, zin_381, zin_382, zin_383, zin_384, zin_385, zin_386, zin_387, e1, e2, r, zup_at]
  refine hQ _ ⟨RelR_gen hR.1 (sz10 hW) ?_ (fun k hk => ?_) (fun k hk k5 k6 => ?_) (fun i q hi hl hq => ?_) (fun x hx => ?_) (fun j j1 j2 => ?_) (fun b hb => eb b (by omega) (by omega)), ?_⟩ (fun b hb => zup_ne _ _ _ hb) (fun j hj => zup_off _ _ (by omega))
  · rw [g, if_neg (by omega), e7 7 (by omega)]; exact hR.1.1.1
  · rw [g, if_neg (by omega), eb 8 (by omega) (by omega)]; exact RelR_8 hR.1 hk
  · rw [g, if_neg (by omega), e7 k k6]
    have := hR.1.2.1 k hk k5 k6
    simp only [Nat.zero_add] at this
    exact this
  · rw [e7 7 (by omega)] at hl
    rw [g, if_neg (by omega), eb (q + 1) (by omega) (by omega), RelR_row hR.1 hi hl hq]
  · rw [g, e0]
    by_cases z : x = c
    · rw [if_pos (by omega), if_pos z]
    · rw [if_neg (by omega), if_neg z]
      have := hR.1.2.2.2.1 x hx
      simp only [Nat.zero_add] at this
      exact this
  · rw [g, if_neg (by omega)]
  · rw [g, if_neg (by omega), e7 5 (by omega)]; exact hR.2
theorem RelR_set8 {M S : zM} (hR : RelR' M 0 S) (hW : WfS S) {k : Nat} {v : Int} (hk : k < 3) : RelR' (zup M 375 (1 + k) v) 0 (zup S 8 k v) := by
  have g : ∀ j, zup M 375 (1 + k) v 375 j = if j = 1 + k then v else M 375 j := fun j => by unfold zup; simp
  have eb : ∀ b, b ≠ 8 → zup S 8 k v b = S b := fun b hb => zup_ne _ _ _ hb
  refine ⟨RelR_gen hR.1 (sz10 hW) ?_ (fun i hi => ?_) (fun i hi k5 k6 => ?_) (fun i q hi hl hq => ?_) (fun x hx => ?_) (fun j j1 j2 => ?_) (fun b hb => eb b (by omega)), ?_⟩
  · rw [g, if_neg (by omega), eb 7 (by omega)]; exact hR.1.1.1
  · rw [g]
    by_cases z : i = k
    · subst z; rw [if_pos rfl, zup_at]
    · rw [if_neg (by omega), zup_off _ _ (Or.inr z)]; exact RelR_8 hR.1 hi
  · rw [g, if_neg (by omega), eb 7 (by omega)]
    have := hR.1.2.1 i hi k5 k6
    simp only [Nat.zero_add] at this
    exact this
  · rw [eb 7 (by omega)] at hl
    rw [g, if_neg (by omega), eb (q + 1) (by omega), RelR_row hR.1 hi hl hq]
  · rw [g, if_neg (by omega), eb 0 (by omega)]
    have := hR.1.2.2.2.1 x hx
    simp only [Nat.zero_add] at this
    exact this
  · rw [g, if_neg (by omega)]
  · rw [g, if_neg (by omega), eb 7 (by omega)]; exact hR.2
