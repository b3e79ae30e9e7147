/-! ### again, account, refusal, back, image, undo agree -/
theorem IC_ways {X : zX} {M N : zM} (hC : IC X M) (h : ∀ b, b < 214 → N b = M b) (hV : Wv N (X 0 0)) : IC X N := by
  have h9 := IC_set (N := N) hC (RelC_congr (fun b hb => h b (by omega)) hC.1) hV (fun b b1 b2 => h b (by omega))
  rw [setX_self] at h9
  exact h9
theorem IR_q {B : Int} {X : zX} {M N : zM} (hX : WX B X) (hI : IR X M) (h5 : N 375 = M 375) (h4 : ∀ j, j ≠ 8 → j ≠ 9 → N 374 j = M 374 j) (h3 : N 385 = M 385) : IR X N := by
  have h9 := IR_set (S := X 0) (N := N) hX hI ⟨RelR_congr h5 hI.1.1, by rw [h5]; exact hI.1.2⟩ (fun j _ _ => by rw [h5]) (fun j hj => h4 j (by omega) (by omega)) h3
  rw [setX_self] at h9
  exact h9
theorem j_again (d : Nat) (B : Int) (X : zX) (M : zM) (hC : IC X M) (hI : IR X M) (hX : WX B X) : Jt d B 86 177 [] M := by
  have hW := hX.1.1
  unfold Jt
  simp only [↓e86, ↓e86_0, ↓e86_1, ↓e86_4, ↓e86_7, znl_i, znl_r, znl_n, zcs_0, zcs_1, zcs_2, zcs_3, zcat_0, zcat_1, zcat_2, zcat_3, zbl_0, zbl_1, true_and, and_true, ↓zret_some, ↓zret_none, Nat.reduceAdd, Nat.reduceLeDiff, Nat.reduceMul, eq_self, Int.reduceToNat, Int.reduceLE, Int.reduceLT, Int.reduceNeg, and_self, zrg, zkc_0, zin_1, zin_2, zin_3, zin_4, zin_5, zin_6, zin_7, zin_8, zin_9, zaa_9, zkc_10, zin_11, zin_12, zkc_13, zin_14, zin_15, zkc_16, zin_17, zin_18, zkc_19, zin_20, zin_21, zin_22, zin_23, zin_24, zin_25, zin_26, zin_27, zin_28, zaa_28, zkc_29, zin_30, zin_31, zkc_32, zin_33, zin_34, zkc_35, zin_36, zin_37, zkc_38, zin_39, zin_40, zin_41, zin_42, zin_43, zin_44, zin_45, zin_46, zin_47, zaa_47, zkc_48, zin_49, zin_50, zkc_51, zin_52, zin_53, zkc_54, zin_55, zin_56, zkc_209, zkc_210, zin_211, zaa_211, zkc_212, zin_213, zkc_214, zkc_215, zin_216, zin_217, zkc_218, zin_219, zin_220, zin_221, zkc_222, zin_223, zaa_223, zin_224, zin_225, zkc_226, zin_227, zin_228, zin_229, zin_230, zin_231, zin_232, zkc_233, zin_234, zaa_234, zin_235, zin_236, zin_237, zin_238, zin_239, zin_240, zin_241, zin_242, zin_243, zin_244, zin_245, zin_246, zin_247, zin_248, zin_249, zin_250, zkc_251, zin_252, zin_253, zkc_374, zin_375, zin_376, zin_377, zin_378, zin_379, zin_380, zin_381, zin_382, zin_383, zin_384, zin_385, zin_386, zin_387]
  refine s_sumBySlots (d + 4) _ M (X 0) hC.1 hW hC.2.1 (fun N u1 u2 => ?_)
  rw [zret_some]
  simp only [↓e86, ↓e86_0, ↓e86_1, ↓e86_4, ↓e86_7, znl_i, znl_r, znl_n, zcs_0, zcs_1, zcs_2, zcs_3, zcat_0, zcat_1, zcat_2, zcat_3, zbl_0, zbl_1, true_and, and_true, ↓zret_some, ↓zret_none, Nat.reduceAdd, Nat.reduceLeDiff, Nat.reduceMul, eq_self, Int.reduceToNat, Int.reduceLE, Int.reduceLT, Int.reduceNeg, and_self, zrg, zkc_0, zin_1, zin_2, zin_3, zin_4, zin_5, zin_6, zin_7, zin_8, zin_9, zaa_9, zkc_10, zin_11, zin_12, zkc_13, zin_14, zin_15, zkc_16, zin_17, zin_18, zkc_19, zin_20, zin_21, zin_22, zin_23, zin_24, zin_25, zin_26, zin_27, zin_28, zaa_28, zkc_29, zin_30, zin_31, zkc_32, zin_33, zin_34, zkc_35, zin_36, zin_37, zkc_38, zin_39, zin_40, zin_41, zin_42, zin_43, zin_44, zin_45, zin_46, zin_47, zaa_47, zkc_48, zin_49, zin_50, zkc_51, zin_52, zin_53, zkc_54, zin_55, zin_56, zkc_209, zkc_210, zin_211, zaa_211, zkc_212, zin_213, zkc_214, zkc_215, zin_216, zin_217, zkc_218, zin_219, zin_220, zin_221, zkc_222, zin_223, zaa_223, zin_224, zin_225, zkc_226, zin_227, zin_228, zin_229, zin_230, zin_231, zin_232, zkc_233, zin_234, zaa_234, zin_235, zin_236, zin_237, zin_238, zin_239, zin_240, zin_241, zin_242, zin_243, zin_244, zin_245, zin_246, zin_247, zin_248, zin_249, zin_250, zkc_251, zin_252, zin_253, zkc_374, zin_375, zin_376, zin_377, zin_378, zin_379, zin_380, zin_381, zin_382, zin_383, zin_384, zin_385, zin_386, zin_387]
  have hC2 := IC_ways hC (fun b hb => u1 b (by omega)) u2
  have hIP := IR_cong (fun b hb => u1 b (by omega)) hI
  refine JC_i ?_
  refine s_rAgain (d + 4) _ N (X 0) hIP.1.1 hW (fun P v1 v2 => ?_)
  exact JE_i (IC_cong (fun b hb => v1.1 b (by omega) (by omega)) hC2) (IR_q hX hIP (v1.1 375 (by omega) (by omega)) v1.2 (v1.1 385 (by omega) (by omega))) hX
theorem j_account (d : Nat) (B : Int) (X : zX) (M : zM) (x : Int) (hx : zrg x) (hC : IC X M) (hI : IR X M) (hX : WX B X) : Jt d B 87 178 [.inl x] M := by
  have hW := hX.1.1
  have hx' := hx
  simp only [zrg] at hx'
  have hti := fun Q P => s_in (d + 8) Q P x 0 7 hx ⟨by omega, by omega⟩ ⟨by omega, by omega⟩
  unfold Jt
  by_cases hin : 0 ≤ x ∧ x ≤ 7
  · simp only [show zb (0 ≤ x ∧ x ≤ 7) = 1 from if_pos hin] at hti
    obtain ⟨n, rfl⟩ : ∃ n : Nat, x = n := ⟨x.toNat, by omega⟩
    have h8 := hC.1.2.2.2.2.2.2.2.1 n (by omega)
    simp only [Nat.zero_add] at h8
    simp only [↓e87, ↓e87_0, ↓e87_1, ↓e87_4, ↓e87_5, ↓e87_7, ↓e87_10, ↓e87_11, ↓e87_14, ↓e87_17, ↓e87_18, ↓e87_19, ↓e87_22, ↓e87_23, znl_i, znl_r, znl_n, zcs_0, zcs_1, zcs_2, zcs_3, zcat_0, zcat_1, zcat_2, zcat_3, zbl_0, zbl_1, true_and, and_true, ↓zret_some, ↓zret_none, Nat.reduceAdd, Nat.reduceLeDiff, Nat.reduceMul, eq_self, Int.reduceToNat, Int.reduceLE, Int.reduceLT, Int.reduceNeg, and_self, zrg, zkc_0, zin_1, zin_2, zin_3, zin_4, zin_5, zin_6, zin_7, zin_8, zin_9, zaa_9, zkc_10, zin_11, zin_12, zkc_13, zin_14, zin_15, zkc_16, zin_17, zin_18, zkc_19, zin_20, zin_21, zin_22, zin_23, zin_24, zin_25, zin_26, zin_27, zin_28, zaa_28, zkc_29, zin_30, zin_31, zkc_32, zin_33, zin_34, zkc_35, zin_36, zin_37, zkc_38, zin_39, zin_40, zin_41, zin_42, zin_43, zin_44, zin_45, zin_46, zin_47, zaa_47, zkc_48, zin_49, zin_50, zkc_51, zin_52, zin_53, zkc_54, zin_55, zin_56, zkc_209, zkc_210, zin_211, zaa_211, zkc_212, zin_213, zkc_214, zkc_215, zin_216, zin_217, zkc_218, zin_219, zin_220, zin_221, zkc_222, zin_223, zaa_223, zin_224, zin_225, zkc_226, zin_227, zin_228, zin_229, zin_230, zin_231, zin_232, zkc_233, zin_234, zaa_234, zin_235, zin_236, zin_237, zin_238, zin_239, zin_240, zin_241, zin_242, zin_243, zin_244, zin_245, zin_246, zin_247, zin_248, zin_249, zin_250, zkc_251, zin_252, zin_253, zkc_374, zin_375, zin_376, zin_377, zin_378, zin_379, zin_380, zin_381, zin_382, zin_383, zin_384, zin_385, zin_386, zin_387, hx', show ¬ (n : Int) < 0 by omega, show ¬ (n : Int) ≥ 8 by omega, ↓reduceIte, show 0 ≤ (n : Int) ∧ (n : Int) < 8 by omega, Int.toNat_natCast, h8]
    refine JC_i ?_
    have fin : ∀ w3, RT (Sp (d + 9)) 178 (JE B (X 0 7 n)) 40 [some (.inr (.inr 374)), some (.inl (n : Int)), some (.inl (sumW (X 0) 120)), w3] [] M := by
      intro w3
      have h9 : JE B (X 0 7 n) (some (.inl (X 0 7 n))) M := JE_i hC hI hX
      have e1 : (4 + (n : Int)).toNat = 4 + n := by omega
      have e2 : 0 ≤ 4 + (n : Int) ∧ 4 + (n : Int) < 2838 := ⟨by omega, by omega⟩
      simp only [↓e178, ↓e178_0, ↓e178_1, ↓e178_2, ↓e178_4, ↓e178_7, ↓e178_10, ↓e178_11, ↓e178_12, ↓e178_13, ↓e178_14, ↓e178_15, ↓e178_16, ↓e178_17, ↓e178_19, ↓e178_22, ↓e178_23, ↓e178_24, ↓e178_27, ↓e178_29, ↓e178_30, ↓e178_31, ↓e178_32, ↓e178_33, ↓e178_34, ↓e178_37, ↓e178_40, ↓e178_41, ↓e178_43, ↓e178_46, ↓e178_47, ↓e178_50, ↓e178_51, ↓e178_54, ↓e178_55, ↓e178_56, ↓e178_57, ↓e178_58, znl_i, znl_r, znl_n, zcs_0, zcs_1, zcs_2, zcs_3, zcat_0, zcat_1, zcat_2, zcat_3, zbl_0, zbl_1, true_and, and_true, ↓zret_some, ↓zret_none, Nat.reduceAdd, Nat.reduceLeDiff, Nat.reduceMul, eq_self, Int.reduceToNat, Int.reduceLE, Int.reduceLT, Int.reduceNeg, and_self, zrg, zkc_0, zin_1, zin_2, zin_3, zin_4, zin_5, zin_6, zin_7, zin_8, zin_9, zaa_9, zkc_10, zin_11, zin_12, zkc_13, zin_14, zin_15, zkc_16, zin_17, zin_18, zkc_19, zin_20, zin_21, zin_22, zin_23, zin_24, zin_25, zin_26, zin_27, zin_28, zaa_28, zkc_29, zin_30, zin_31, zkc_32, zin_33, zin_34, zkc_35, zin_36, zin_37, zkc_38, zin_39, zin_40, zin_41, zin_42, zin_43, zin_44, zin_45, zin_46, zin_47, zaa_47, zkc_48, zin_49, zin_50, zkc_51, zin_52, zin_53, zkc_54, zin_55, zin_56, zkc_209, zkc_210, zin_211, zaa_211, zkc_212, zin_213, zkc_214, zkc_215, zin_216, zin_217, zkc_218, zin_219, zin_220, zin_221, zkc_222, zin_223, zaa_223, zin_224, zin_225, zkc_226, zin_227, zin_228, zin_229, zin_230, zin_231, zin_232, zkc_233, zin_234, zaa_234, zin_235, zin_236, zin_237, zin_238, zin_239, zin_240, zin_241, zin_242, zin_243, zin_244, zin_245, zin_246, zin_247, zin_248, zin_249, zin_250, zkc_251, zin_252, zin_253, zkc_374, zin_375, zin_376, zin_377, zin_378, zin_379, zin_380, zin_381, zin_382, zin_383, zin_384, zin_385, zin_386, zin_387, hx', e1, e2, ne_eq, ite_not]
      by_cases h6 : (n : Int) = 6
      · have : n = 6 := by omega
        subst this
        rw [if_pos h6]
        rw [hX.1.2.1] at h9 ⊢
        exact h9
      · rw [if_neg h6]
        have e3 : M 375 (4 + n) = X 0 7 n := by
          by_cases h5 : n = 5
          · subst h5; exact hI.1.2
          · have := hI.1.1.2.1 n (by omega) h5 (by omega)
            simp only [Nat.zero_add] at this
            exact this
        rw [e3]
        exact h9
    have loop : ∀ q k : Nat, k + q = 120 → RT (Sp (d + 9)) 178 (JE B (X 0 7 n)) 16 [some (.inr (.inr 374)), some (.inl (n : Int)), some (.inl (sumW (X 0) k)), some (.inl (k : Int))] [] M := by
      intro q
      induction q with
      | zero =>
        intro k hk
        obtain rfl : k = 120 := by omega
        have h9 := fin (some (.inl ((120 : Nat) : Int)))
        rw [e178_16]
        simp only [↓e178, ↓e178_0, ↓e178_1, ↓e178_2, ↓e178_4, ↓e178_7, ↓e178_10, ↓e178_11, ↓e178_12, ↓e178_13, ↓e178_14, ↓e178_15, ↓e178_17, ↓e178_19, ↓e178_22, ↓e178_23, ↓e178_24, ↓e178_27, ↓e178_29, ↓e178_30, ↓e178_31, ↓e178_32, ↓e178_33, ↓e178_34, ↓e178_37, ↓e178_41, ↓e178_43, ↓e178_46, ↓e178_47, ↓e178_50, ↓e178_51, ↓e178_54, ↓e178_55, ↓e178_56, ↓e178_57, ↓e178_58, znl_i, znl_r, znl_n, zcs_0, zcs_1, zcs_2, zcs_3, zcat_0, zcat_1, zcat_2, zcat_3, zbl_0, zbl_1, true_and, and_true, ↓zret_some, ↓zret_none, Nat.reduceAdd, Nat.reduceLeDiff, Nat.reduceMul, eq_self, Int.reduceToNat, Int.reduceLE, Int.reduceLT, Int.reduceNeg, and_self, zrg, Int.cast_ofNat_Int, ge_iff_le, Int.le_refl, ↓reduceIte]
        exact h9
      | succ q ih =>
        intro k hk
        have hk1 : ¬ (k : Int) ≥ 120 := by omega
        have hk2 : -2147483648 ≤ (k : Int) ∧ (k : Int) < 2147483648 := ⟨by omega, by omega⟩
        have e1 : (72 + (k : Int)).toNat = 72 + k := by omega
        have e2 : 0 ≤ 72 + (k : Int) ∧ 72 + (k : Int) < 2838 := ⟨by omega, by omega⟩
        have e3 := hI.1.1.2.2.2.1 k (by omega)
        simp only [Nat.zero_add] at e3
        have h9 := ih (k + 1) (by omega)
        have hs : sumW (X 0) (k + 1) = sumW (X 0) k + X 0 0 k := rfl
        rw [hs] at h9
        rw [e178_16]
        simp only [↓e178, ↓e178_0, ↓e178_1, ↓e178_2, ↓e178_4, ↓e178_7, ↓e178_10, ↓e178_11, ↓e178_12, ↓e178_13, ↓e178_14, ↓e178_15, ↓e178_17, ↓e178_19, ↓e178_22, ↓e178_23, ↓e178_24, ↓e178_27, ↓e178_29, ↓e178_30, ↓e178_31, ↓e178_32, ↓e178_33, ↓e178_34, ↓e178_37, ↓e178_40, ↓e178_41, ↓e178_43, ↓e178_46, ↓e178_47, ↓e178_50, ↓e178_51, ↓e178_54, ↓e178_55, ↓e178_56, ↓e178_57, ↓e178_58, znl_i, znl_r, znl_n, zcs_0, zcs_1, zcs_2, zcs_3, zcat_0, zcat_1, zcat_2, zcat_3, zbl_0, zbl_1, true_and, and_true, ↓zret_some, ↓zret_none, Nat.reduceAdd, Nat.reduceLeDiff, Nat.reduceMul, eq_self, Int.reduceToNat, Int.reduceLE, Int.reduceLT, Int.reduceNeg, and_self, zrg, zkc_0, zin_1, zin_2, zin_3, zin_4, zin_5, zin_6, zin_7, zin_8, zin_9, zaa_9, zkc_10, zin_11, zin_12, zkc_13, zin_14, zin_15, zkc_16, zin_17, zin_18, zkc_19, zin_20, zin_21, zin_22, zin_23, zin_24, zin_25, zin_26, zin_27, zin_28, zaa_28, zkc_29, zin_30, zin_31, zkc_32, zin_33, zin_34, zkc_35, zin_36, zin_37, zkc_38, zin_39, zin_40, zin_41, zin_42, zin_43, zin_44, zin_45, zin_46, zin_47, zaa_47, zkc_48, zin_49, zin_50, zkc_51, zin_52, zin_53, zkc_54, zin_55, zin_56, zkc_209, zkc_210, zin_211, zaa_211, zkc_212, zin_213, zkc_214, zkc_215, zin_216, zin_217, zkc_218, zin_219, zin_220, zin_221, zkc_222, zin_223, zaa_223, zin_224, zin_225, zkc_226, zin_227, zin_228, zin_229, zin_230, zin_231, zin_232, zkc_233, zin_234, zaa_234, zin_235, zin_236, zin_237, zin_238, zin_239, zin_240, zin_241, zin_242, zin_243, zin_244, zin_245, zin_246, zin_247, zin_248, zin_249, zin_250, zkc_251, zin_252, zin_253, zkc_374, zin_375, zin_376, zin_377, zin_378, zin_379, zin_380, zin_381, zin_382, zin_383, zin_384, zin_385, zin_386, zin_387, hk1, hk2, e1, e2, e3, ↓reduceIte]
        rw [show ((k : Int) + 1) = ((k + 1 : Nat) : Int) by omega]
        exact h9
    have h9 := loop 120 0 rfl
    simp only [↓e178, ↓e178_0, ↓e178_1, ↓e178_2, ↓e178_4, ↓e178_7, ↓e178_10, ↓e178_11, ↓e178_12, ↓e178_13, ↓e178_14, ↓e178_15, ↓e178_17, ↓e178_19, ↓e178_22, ↓e178_23, ↓e178_24, ↓e178_27, ↓e178_29, ↓e178_30, ↓e178_31, ↓e178_32, ↓e178_33, ↓e178_34, ↓e178_37, ↓e178_40, ↓e178_41, ↓e178_43, ↓e178_46, ↓e178_47, ↓e178_50, ↓e178_51, ↓e178_54, ↓e178_55, ↓e178_56, ↓e178_57, ↓e178_58, znl_i, znl_r, znl_n, zcs_0, zcs_1, zcs_2, zcs_3, zcat_0, zcat_1, zcat_2, zcat_3, zbl_0, zbl_1, true_and, and_true, ↓zret_some, ↓zret_none, Nat.reduceAdd, Nat.reduceLeDiff, Nat.reduceMul, eq_self, Int.reduceToNat, Int.reduceLE, Int.reduceLT, Int.reduceNeg, and_self, zrg, zkc_0, zin_1, zin_2, zin_3, zin_4, zin_5, zin_6, zin_7, zin_8, zin_9, zaa_9, zkc_10, zin_11, zin_12, zkc_13, zin_14, zin_15, zkc_16, zin_17, zin_18, zkc_19, zin_20, zin_21, zin_22, zin_23, zin_24, zin_25, zin_26, zin_27, zin_28, zaa_28, zkc_29, zin_30, zin_31, zkc_32, zin_33, zin_34, zkc_35, zin_36, zin_37, zkc_38, zin_39, zin_40, zin_41, zin_42, zin_43, zin_44, zin_45, zin_46, zin_47, zaa_47, zkc_48, zin_49, zin_50, zkc_51, zin_52, zin_53, zkc_54, zin_55, zin_56, zkc_209, zkc_210, zin_211, zaa_211, zkc_212, zin_213, zkc_214, zkc_215, zin_216, zin_217, zkc_218, zin_219, zin_220, zin_221, zkc_222, zin_223, zaa_223, zin_224, zin_225, zkc_226, zin_227, zin_228, zin_229, zin_230, zin_231, zin_232, zkc_233, zin_234, zaa_234, zin_235, zin_236, zin_237, zin_238, zin_239, zin_240, zin_241, zin_242, zin_243, zin_244, zin_245, zin_246, zin_247, zin_248, zin_249, zin_250, zkc_251, zin_252, zin_253, zkc_374, zin_375, zin_376, zin_377, zin_378, zin_379, zin_380, zin_381, zin_382, zin_383, zin_384, zin_385, zin_386, zin_387, ↓hti, show ¬ (1 : Int) = 0 by omega, ne_eq, not_false_eq_true, ↓reduceIte]
    exact h9
  · simp only [show zb (0 ≤ x ∧ x ≤ 7) = 0 from if_neg hin] at hti
    have fin : JC d B 178 [.inl x] (some (.inl (-1))) M := by
      refine JC_i ?_
      simp only [↓e178, ↓e178_0, ↓e178_1, ↓e178_2, ↓e178_4, ↓e178_7, ↓e178_10, ↓e178_11, ↓e178_12, ↓e178_13, ↓e178_14, ↓e178_15, ↓e178_16, ↓e178_17, ↓e178_19, ↓e178_22, ↓e178_23, ↓e178_24, ↓e178_27, ↓e178_29, ↓e178_30, ↓e178_31, ↓e178_32, ↓e178_33, ↓e178_34, ↓e178_37, ↓e178_40, ↓e178_41, ↓e178_43, ↓e178_46, ↓e178_47, ↓e178_50, ↓e178_51, ↓e178_54, ↓e178_55, ↓e178_56, ↓e178_57, ↓e178_58, znl_i, znl_r, znl_n, zcs_0, zcs_1, zcs_2, zcs_3, zcat_0, zcat_1, zcat_2, zcat_3, zbl_0, zbl_1, true_and, and_true, ↓zret_some, ↓zret_none, Nat.reduceAdd, Nat.reduceLeDiff, Nat.reduceMul, eq_self, Int.reduceToNat, Int.reduceLE, Int.reduceLT, Int.reduceNeg, and_self, zrg, zkc_0, zin_1, zin_2, zin_3, zin_4, zin_5, zin_6, zin_7, zin_8, zin_9, zaa_9, zkc_10, zin_11, zin_12, zkc_13, zin_14, zin_15, zkc_16, zin_17, zin_18, zkc_19, zin_20, zin_21, zin_22, zin_23, zin_24, zin_25, zin_26, zin_27, zin_28, zaa_28, zkc_29, zin_30, zin_31, zkc_32, zin_33, zin_34, zkc_35, zin_36, zin_37, zkc_38, zin_39, zin_40, zin_41, zin_42, zin_43, zin_44, zin_45, zin_46, zin_47, zaa_47, zkc_48, zin_49, zin_50, zkc_51, zin_52, zin_53, zkc_54, zin_55, zin_56, zkc_209, zkc_210, zin_211, zaa_211, zkc_212, zin_213, zkc_214, zkc_215, zin_216, zin_217, zkc_218, zin_219, zin_220, zin_221, zkc_222, zin_223, zaa_223, zin_224, zin_225, zkc_226, zin_227, zin_228, zin_229, zin_230, zin_231, zin_232, zkc_233, zin_234, zaa_234, zin_235, zin_236, zin_237, zin_238, zin_239, zin_240, zin_241, zin_242, zin_243, zin_244, zin_245, zin_246, zin_247, zin_248, zin_249, zin_250, zkc_251, zin_252, zin_253, zkc_374, zin_375, zin_376, zin_377, zin_378, zin_379, zin_380, zin_381, zin_382, zin_383, zin_384, zin_385, zin_386, zin_387, ↓hti, ne_eq, not_true_eq_false, ↓reduceIte]
      exact JE_i hC hI hX
    by_cases h1 : x < 0
    · simp only [↓e87, ↓e87_0, ↓e87_1, ↓e87_4, ↓e87_5, ↓e87_7, ↓e87_10, ↓e87_11, ↓e87_14, ↓e87_17, ↓e87_18, ↓e87_19, ↓e87_22, ↓e87_23, znl_i, znl_r, znl_n, zcs_0, zcs_1, zcs_2, zcs_3, zcat_0, zcat_1, zcat_2, zcat_3, zbl_0, zbl_1, true_and, and_true, ↓zret_some, ↓zret_none, Nat.reduceAdd, Nat.reduceLeDiff, Nat.reduceMul, eq_self, Int.reduceToNat, Int.reduceLE, Int.reduceLT, Int.reduceNeg, and_self, zrg, zkc_0, zin_1, zin_2, zin_3, zin_4, zin_5, zin_6, zin_7, zin_8, zin_9, zaa_9, zkc_10, zin_11, zin_12, zkc_13, zin_14, zin_15, zkc_16, zin_17, zin_18, zkc_19, zin_20, zin_21, zin_22, zin_23, zin_24, zin_25, zin_26, zin_27, zin_28, zaa_28, zkc_29, zin_30, zin_31, zkc_32, zin_33, zin_34, zkc_35, zin_36, zin_37, zkc_38, zin_39, zin_40, zin_41, zin_42, zin_43, zin_44, zin_45, zin_46, zin_47, zaa_47, zkc_48, zin_49, zin_50, zkc_51, zin_52, zin_53, zkc_54, zin_55, zin_56, zkc_209, zkc_210, zin_211, zaa_211, zkc_212, zin_213, zkc_214, zkc_215, zin_216, zin_217, zkc_218, zin_219, zin_220, zin_221, zkc_222, zin_223, zaa_223, zin_224, zin_225, zkc_226, zin_227, zin_228, zin_229, zin_230, zin_231, zin_232, zkc_233, zin_234, zaa_234, zin_235, zin_236, zin_237, zin_238, zin_239, zin_240, zin_241, zin_242, zin_243, zin_244, zin_245, zin_246, zin_247, zin_248, zin_249, zin_250, zkc_251, zin_252, zin_253, zkc_374, zin_375, zin_376, zin_377, zin_378, zin_379, zin_380, zin_381, zin_382, zin_383, zin_384, zin_385, zin_386, zin_387, hx', h1, ↓reduceIte]
      exact fin
    · simp only [↓e87, ↓e87_0, ↓e87_1, ↓e87_4, ↓e87_5, ↓e87_7, ↓e87_10, ↓e87_11, ↓e87_14, ↓e87_17, ↓e87_18, ↓e87_19, ↓e87_22, ↓e87_23, znl_i, znl_r, znl_n, zcs_0, zcs_1, zcs_2, zcs_3, zcat_0, zcat_1, zcat_2, zcat_3, zbl_0, zbl_1, true_and, and_true, ↓zret_some, ↓zret_none, Nat.reduceAdd, Nat.reduceLeDiff, Nat.reduceMul, eq_self, Int.reduceToNat, Int.reduceLE, Int.reduceLT, Int.reduceNeg, and_self, zrg, zkc_0, zin_1, zin_2, zin_3, zin_4, zin_5, zin_6, zin_7, zin_8, zin_9, zaa_9, zkc_10, zin_11, zin_12, zkc_13, zin_14, zin_15, zkc_16, zin_17, zin_18, zkc_19, zin_20, zin_21, zin_22, zin_23, zin_24, zin_25, zin_26, zin_27, zin_28, zaa_28, zkc_29, zin_30, zin_31, zkc_32, zin_33, zin_34, zkc_35, zin_36, zin_37, zkc_38, zin_39, zin_40, zin_41, zin_42, zin_43, zin_44, zin_45, zin_46, zin_47, zaa_47, zkc_48, zin_49, zin_50, zkc_51, zin_52, zin_53, zkc_54, zin_55, zin_56, zkc_209, zkc_210, zin_211, zaa_211, zkc_212, zin_213, zkc_214, zkc_215, zin_216, zin_217, zkc_218, zin_219, zin_220, zin_221, zkc_222, zin_223, zaa_223, zin_224, zin_225, zkc_226, zin_227, zin_228, zin_229, zin_230, zin_231, zin_232, zkc_233, zin_234, zaa_234, zin_235, zin_236, zin_237, zin_238, zin_239, zin_240, zin_241, zin_242, zin_243, zin_244, zin_245, zin_246, zin_247, zin_248, zin_249, zin_250, zkc_251, zin_252, zin_253, zkc_374, zin_375, zin_376, zin_377, zin_378, zin_379, zin_380, zin_381, zin_382, zin_383, zin_384, zin_385, zin_386, zin_387, hx', h1, show x ≥ 8 by omega, ↓reduceIte]
      exact fin
theorem j_refusal (d : Nat) (B : Int) (X : zX) (M : zM) (x : Int) (hx : zrg x) (hC : IC X M) (hI : IR X M) (hX : WX B X) : Jt d B 77 164 [.inl x] M := by
  have hx' := hx
  simp only [zrg] at hx'
  have hti := fun Q P => s_in (d + 8) Q P x 0 1 hx ⟨by omega, by omega⟩ ⟨by omega, by omega⟩
  obtain ⟨q1, q2, q3, q4, q5, q6⟩ := hC.2.2.2
  obtain ⟨h1, i2, i3, i4, i5, i6, i7, i8, i9⟩ := id hI
  have w8 := hX.2.2.2.2.2.2.2
  have hr : -2147483648 ≤ X 10 0 3 ∧ X 10 0 3 < 2147483648 := ⟨by omega, by omega⟩
  unfold Jt
  by_cases hin : 0 ≤ x ∧ x ≤ 1
  · simp only [show zb (0 ≤ x ∧ x ≤ 1) = 1 from if_pos hin] at hti
    have refr : ∀ a, a = (if X 10 0 3 = 0 then -5 else if x = 0 then X 10 0 3 else X 10 0 4) → JC d B 164 [.inl x] (some (.inl a)) M := by
      intro a ha
      refine JC_i ?_
      simp only [↓e164, ↓e164_0, ↓e164_1, ↓e164_2, ↓e164_3, ↓e164_6, ↓e164_9, ↓e164_10, ↓e164_13, ↓e164_14, ↓e164_17, ↓e164_20, ↓e164_22, ↓e164_25, ↓e164_26, ↓e164_29, ↓e164_30, ↓e164_33, ↓e164_36, ↓e164_37, ↓e164_40, znl_i, znl_r, znl_n, zcs_0, zcs_1, zcs_2, zcs_3, zcat_0, zcat_1, zcat_2, zcat_3, zbl_0, zbl_1, true_and, and_true, ↓zret_some, ↓zret_none, Nat.reduceAdd, Nat.reduceLeDiff, Nat.reduceMul, eq_self, Int.reduceToNat, Int.reduceLE, Int.reduceLT, Int.reduceNeg, and_self, zrg, zkc_0, zin_1, zin_2, zin_3, zin_4, zin_5, zin_6, zin_7, zin_8, zin_9, zaa_9, zkc_10, zin_11, zin_12, zkc_13, zin_14, zin_15, zkc_16, zin_17, zin_18, zkc_19, zin_20, zin_21, zin_22, zin_23, zin_24, zin_25, zin_26, zin_27, zin_28, zaa_28, zkc_29, zin_30, zin_31, zkc_32, zin_33, zin_34, zkc_35, zin_36, zin_37, zkc_38, zin_39, zin_40, zin_41, zin_42, zin_43, zin_44, zin_45, zin_46, zin_47, zaa_47, zkc_48, zin_49, zin_50, zkc_51, zin_52, zin_53, zkc_54, zin_55, zin_56, zkc_209, zkc_210, zin_211, zaa_211, zkc_212, zin_213, zkc_214, zkc_215, zin_216, zin_217, zkc_218, zin_219, zin_220, zin_221, zkc_222, zin_223, zaa_223, zin_224, zin_225, zkc_226, zin_227, zin_228, zin_229, zin_230, zin_231, zin_232, zkc_233, zin_234, zaa_234, zin_235, zin_236, zin_237, zin_238, zin_239, zin_240, zin_241, zin_242, zin_243, zin_244, zin_245, zin_246, zin_247, zin_248, zin_249, zin_250, zkc_251, zin_252, zin_253, zkc_374, zin_375, zin_376, zin_377, zin_378, zin_379, zin_380, zin_381, zin_382, zin_383, zin_384, zin_385, zin_386, zin_387, ↓hti, show ¬ (1 : Int) = 0 by omega, ne_eq, not_false_eq_true, ↓reduceIte, i8, hr, hx', ite_not]
      by_cases c1 : X 10 0 3 = 0
      · rw [if_pos c1] at ha ⊢
        subst ha
        exact JE_i hC hI hX
      · rw [if_neg c1] at ha ⊢
        by_cases c2 : x = 0
        · rw [if_pos c2] at ha ⊢
          subst ha
          exact JE_i hC hI hX
        · rw [if_neg c2] at ha ⊢
          rw [i9 c1]
          subst ha
          exact JE_i hC hI hX
    by_cases c2 : x = 0
    · simp only [↓e77, ↓e77_0, ↓e77_1, ↓e77_28, ↓e77_29, ↓e77_32, ↓e77_33, ↓e77_34, ↓e77_37, ↓e77_38, ↓e77_39, znl_i, znl_r, znl_n, zcs_0, zcs_1, zcs_2, zcs_3, zcat_0, zcat_1, zcat_2, zcat_3, zbl_0, zbl_1, true_and, and_true, ↓zret_some, ↓zret_none, Nat.reduceAdd, Nat.reduceLeDiff, Nat.reduceMul, eq_self, Int.reduceToNat, Int.reduceLE, Int.reduceLT, Int.reduceNeg, and_self, zrg, zkc_0, zin_1, zin_2, zin_3, zin_4, zin_5, zin_6, zin_7, zin_8, zin_9, zaa_9, zkc_10, zin_11, zin_12, zkc_13, zin_14, zin_15, zkc_16, zin_17, zin_18, zkc_19, zin_20, zin_21, zin_22, zin_23, zin_24, zin_25, zin_26, zin_27, zin_28, zaa_28, zkc_29, zin_30, zin_31, zkc_32, zin_33, zin_34, zkc_35, zin_36, zin_37, zkc_38, zin_39, zin_40, zin_41, zin_42, zin_43, zin_44, zin_45, zin_46, zin_47, zaa_47, zkc_48, zin_49, zin_50, zkc_51, zin_52, zin_53, zkc_54, zin_55, zin_56, zkc_209, zkc_210, zin_211, zaa_211, zkc_212, zin_213, zkc_214, zkc_215, zin_216, zin_217, zkc_218, zin_219, zin_220, zin_221, zkc_222, zin_223, zaa_223, zin_224, zin_225, zkc_226, zin_227, zin_228, zin_229, zin_230, zin_231, zin_232, zkc_233, zin_234, zaa_234, zin_235, zin_236, zin_237, zin_238, zin_239, zin_240, zin_241, zin_242, zin_243, zin_244, zin_245, zin_246, zin_247, zin_248, zin_249, zin_250, zkc_251, zin_252, zin_253, zkc_374, zin_375, zin_376, zin_377, zin_378, zin_379, zin_380, zin_381, zin_382, zin_383, zin_384, zin_385, zin_386, zin_387, hx', c2, ↓reduceIte, q5]
      rw [c2] at refr
      exact refr _ (by simp)
    · have : x = 1 := by omega
      simp only [↓e77, ↓e77_0, ↓e77_1, ↓e77_28, ↓e77_29, ↓e77_32, ↓e77_33, ↓e77_34, ↓e77_37, ↓e77_38, ↓e77_39, znl_i, znl_r, znl_n, zcs_0, zcs_1, zcs_2, zcs_3, zcat_0, zcat_1, zcat_2, zcat_3, zbl_0, zbl_1, true_and, and_true, ↓zret_some, ↓zret_none, Nat.reduceAdd, Nat.reduceLeDiff, Nat.reduceMul, eq_self, Int.reduceToNat, Int.reduceLE, Int.reduceLT, Int.reduceNeg, and_self, zrg, zkc_0, zin_1, zin_2, zin_3, zin_4, zin_5, zin_6, zin_7, zin_8, zin_9, zaa_9, zkc_10, zin_11, zin_12, zkc_13, zin_14, zin_15, zkc_16, zin_17, zin_18, zkc_19, zin_20, zin_21, zin_22, zin_23, zin_24, zin_25, zin_26, zin_27, zin_28, zaa_28, zkc_29, zin_30, zin_31, zkc_32, zin_33, zin_34, zkc_35, zin_36, zin_37, zkc_38, zin_39, zin_40, zin_41, zin_42, zin_43, zin_44, zin_45, zin_46, zin_47, zaa_47, zkc_48, zin_49, zin_50, zkc_51, zin_52, zin_53, zkc_54, zin_55, zin_56, zkc_209, zkc_210, zin_211, zaa_211, zkc_212, zin_213, zkc_214, zkc_215, zin_216, zin_217, zkc_218, zin_219, zin_220, zin_221, zkc_222, zin_223, zaa_223, zin_224, zin_225, zkc_226, zin_227, zin_228, zin_229, zin_230, zin_231, zin_232, zkc_233, zin_234, zaa_234, zin_235, zin_236, zin_237, zin_238, zin_239, zin_240, zin_241, zin_242, zin_243, zin_244, zin_245, zin_246, zin_247, zin_248, zin_249, zin_250, zkc_251, zin_252, zin_253, zkc_374, zin_375, zin_376, zin_377, zin_378, zin_379, zin_380, zin_381, zin_382, zin_383, zin_384, zin_385, zin_386, zin_387, hx', c2, this, show ¬ (1 : Int) = 0 by omega, ↓reduceIte, q6]
      rw [this] at refr
      exact refr _ (by simp)
  · simp only [show zb (0 ≤ x ∧ x ≤ 1) = 0 from if_neg hin] at hti
    simp only [↓e77, ↓e77_0, ↓e77_1, ↓e77_28, ↓e77_29, ↓e77_32, ↓e77_33, ↓e77_34, ↓e77_37, ↓e77_38, ↓e77_39, znl_i, znl_r, znl_n, zcs_0, zcs_1, zcs_2, zcs_3, zcat_0, zcat_1, zcat_2, zcat_3, zbl_0, zbl_1, true_and, and_true, ↓zret_some, ↓zret_none, Nat.reduceAdd, Nat.reduceLeDiff, Nat.reduceMul, eq_self, Int.reduceToNat, Int.reduceLE, Int.reduceLT, Int.reduceNeg, and_self, zrg, zkc_0, zin_1, zin_2, zin_3, zin_4, zin_5, zin_6, zin_7, zin_8, zin_9, zaa_9, zkc_10, zin_11, zin_12, zkc_13, zin_14, zin_15, zkc_16, zin_17, zin_18, zkc_19, zin_20, zin_21, zin_22, zin_23, zin_24, zin_25, zin_26, zin_27, zin_28, zaa_28, zkc_29, zin_30, zin_31, zkc_32, zin_33, zin_34, zkc_35, zin_36, zin_37, zkc_38, zin_39, zin_40, zin_41, zin_42, zin_43, zin_44, zin_45, zin_46, zin_47, zaa_47, zkc_48, zin_49, zin_50, zkc_51, zin_52, zin_53, zkc_54, zin_55, zin_56, zkc_209, zkc_210, zin_211, zaa_211, zkc_212, zin_213, zkc_214, zkc_215, zin_216, zin_217, zkc_218, zin_219, zin_220, zin_221, zkc_222, zin_223, zaa_223, zin_224, zin_225, zkc_226, zin_227, zin_228, zin_229, zin_230, zin_231, zin_232, zkc_233, zin_234, zaa_234, zin_235, zin_236, zin_237, zin_238, zin_239, zin_240, zin_241, zin_242, zin_243, zin_244, zin_245, zin_246, zin_247, zin_248, zin_249, zin_250, zkc_251, zin_252, zin_253, zkc_374, zin_375, zin_376, zin_377, zin_378, zin_379, zin_380, zin_381, zin_382, zin_383, zin_384, zin_385, zin_386, zin_387, hx', show ¬ x = 0 by omega, show ¬ x = 1 by omega, ↓reduceIte]
    refine JC_i ?_
    simp only [↓e164, ↓e164_0, ↓e164_1, ↓e164_2, ↓e164_3, ↓e164_6, ↓e164_9, ↓e164_10, ↓e164_13, ↓e164_14, ↓e164_17, ↓e164_20, ↓e164_22, ↓e164_25, ↓e164_26, ↓e164_29, ↓e164_30, ↓e164_33, ↓e164_36, ↓e164_37, ↓e164_40, znl_i, znl_r, znl_n, zcs_0, zcs_1, zcs_2, zcs_3, zcat_0, zcat_1, zcat_2, zcat_3, zbl_0, zbl_1, true_and, and_true, ↓zret_some, ↓zret_none, Nat.reduceAdd, Nat.reduceLeDiff, Nat.reduceMul, eq_self, Int.reduceToNat, Int.reduceLE, Int.reduceLT, Int.reduceNeg, and_self, zrg, zkc_0, zin_1, zin_2, zin_3, zin_4, zin_5, zin_6, zin_7, zin_8, zin_9, zaa_9, zkc_10, zin_11, zin_12, zkc_13, zin_14, zin_15, zkc_16, zin_17, zin_18, zkc_19, zin_20, zin_21, zin_22, zin_23, zin_24, zin_25, zin_26, zin_27, zin_28, zaa_28, zkc_29, zin_30, zin_31, zkc_32, zin_33, zin_34, zkc_35, zin_36, zin_37, zkc_38, zin_39, zin_40, zin_41, zin_42, zin_43, zin_44, zin_45, zin_46, zin_47, zaa_47, zkc_48, zin_49, zin_50, zkc_51, zin_52, zin_53, zkc_54, zin_55, zin_56, zkc_209, zkc_210, zin_211, zaa_211, zkc_212, zin_213, zkc_214, zkc_215, zin_216, zin_217, zkc_218, zin_219, zin_220, zin_221, zkc_222, zin_223, zaa_223, zin_224, zin_225, zkc_226, zin_227, zin_228, zin_229, zin_230, zin_231, zin_232, zkc_233, zin_234, zaa_234, zin_235, zin_236, zin_237, zin_238, zin_239, zin_240, zin_241, zin_242, zin_243, zin_244, zin_245, zin_246, zin_247, zin_248, zin_249, zin_250, zkc_251, zin_252, zin_253, zkc_374, zin_375, zin_376, zin_377, zin_378, zin_379, zin_380, zin_381, zin_382, zin_383, zin_384, zin_385, zin_386, zin_387, ↓hti, ne_eq, not_true_eq_false, ↓reduceIte]
    exact JE_i hC hI hX
/-- the latest change is undone -/
def pop (X : zX) : zX := fun k => if k = 0 then X (X 10 0 0).toNat else if k = 10 then zup (X 10) 0 0 (X 10 0 0 - 1) else X k
theorem j_back (d : Nat) (B : Int) (X : zX) (M : zM) (hC : IC X M) (hI : IR X M) (hX : WX B X) : Jt d B 88 179 [] M := by
  have hW := hX.1.1
  obtain ⟨w1, w2, w3, w4, w5, w6, w7, w8⟩ := id hX
  obtain ⟨c1, c2, ⟨nx, p1, p2, p3, p4⟩, q1, q2, q3, q4, q5, q6⟩ := id hC
  obtain ⟨h1, i2, i3, i4, i5, i6, i7, i8, i9⟩ := id hI
  have hr : -2147483648 ≤ X 10 0 0 ∧ X 10 0 0 < 2147483648 := ⟨by omega, by omega⟩
  unfold Jt
  by_cases h0 : X 10 0 0 = 0
  · simp only [↓e88, ↓e88_0, ↓e88_1, ↓e88_4, ↓e88_7, ↓e88_10, ↓e88_12, ↓e88_13, ↓e88_14, ↓e88_15, ↓e88_18, ↓e88_21, ↓e88_24, ↓e88_25, ↓e88_28, ↓e88_31, znl_i, znl_r, znl_n, zcs_0, zcs_1, zcs_2, zcs_3, zcat_0, zcat_1, zcat_2, zcat_3, zbl_0, zbl_1, true_and, and_true, ↓zret_some, ↓zret_none, Nat.reduceAdd, Nat.reduceLeDiff, Nat.reduceMul, eq_self, Int.reduceToNat, Int.reduceLE, Int.reduceLT, Int.reduceNeg, and_self, zrg, zkc_0, zin_1, zin_2, zin_3, zin_4, zin_5, zin_6, zin_7, zin_8, zin_9, zaa_9, zkc_10, zin_11, zin_12, zkc_13, zin_14, zin_15, zkc_16, zin_17, zin_18, zkc_19, zin_20, zin_21, zin_22, zin_23, zin_24, zin_25, zin_26, zin_27, zin_28, zaa_28, zkc_29, zin_30, zin_31, zkc_32, zin_33, zin_34, zkc_35, zin_36, zin_37, zkc_38, zin_39, zin_40, zin_41, zin_42, zin_43, zin_44, zin_45, zin_46, zin_47, zaa_47, zkc_48, zin_49, zin_50, zkc_51, zin_52, zin_53, zkc_54, zin_55, zin_56, zkc_209, zkc_210, zin_211, zaa_211, zkc_212, zin_213, zkc_214, zkc_215, zin_216, zin_217, zkc_218, zin_219, zin_220, zin_221, zkc_222, zin_223, zaa_223, zin_224, zin_225, zkc_226, zin_227, zin_228, zin_229, zin_230, zin_231, zin_232, zkc_233, zin_234, zaa_234, zin_235, zin_236, zin_237, zin_238, zin_239, zin_240, zin_241, zin_242, zin_243, zin_244, zin_245, zin_246, zin_247, zin_248, zin_249, zin_250, zkc_251, zin_252, zin_253, zkc_374, zin_375, zin_376, zin_377, zin_378, zin_379, zin_380, zin_381, zin_382, zin_383, zin_384, zin_385, zin_386, zin_387, p3, h0, ne_eq, not_true_eq_false, ↓reduceIte]
    refine JC_i ?_
    simp only [↓e179, ↓e179_0, ↓e179_1, ↓e179_4, ↓e179_7, ↓e179_9, ↓e179_10, ↓e179_11, ↓e179_12, ↓e179_15, ↓e179_16, ↓e179_19, ↓e179_20, ↓e179_20i, ↓e179_21, ↓e179_24, ↓e179_25, ↓e179_26, ↓e179_29, ↓e179_30, ↓e179_33, znl_i, znl_r, znl_n, zcs_0, zcs_1, zcs_2, zcs_3, zcat_0, zcat_1, zcat_2, zcat_3, zbl_0, zbl_1, true_and, and_true, ↓zret_some, ↓zret_none, Nat.reduceAdd, Nat.reduceLeDiff, Nat.reduceMul, eq_self, Int.reduceToNat, Int.reduceLE, Int.reduceLT, Int.reduceNeg, and_self, zrg, zkc_0, zin_1, zin_2, zin_3, zin_4, zin_5, zin_6, zin_7, zin_8, zin_9, zaa_9, zkc_10, zin_11, zin_12, zkc_13, zin_14, zin_15, zkc_16, zin_17, zin_18, zkc_19, zin_20, zin_21, zin_22, zin_23, zin_24, zin_25, zin_26, zin_27, zin_28, zaa_28, zkc_29, zin_30, zin_31, zkc_32, zin_33, zin_34, zkc_35, zin_36, zin_37, zkc_38, zin_39, zin_40, zin_41, zin_42, zin_43, zin_44, zin_45, zin_46, zin_47, zaa_47, zkc_48, zin_49, zin_50, zkc_51, zin_52, zin_53, zkc_54, zin_55, zin_56, zkc_209, zkc_210, zin_211, zaa_211, zkc_212, zin_213, zkc_214, zkc_215, zin_216, zin_217, zkc_218, zin_219, zin_220, zin_221, zkc_222, zin_223, zaa_223, zin_224, zin_225, zkc_226, zin_227, zin_228, zin_229, zin_230, zin_231, zin_232, zkc_233, zin_234, zaa_234, zin_235, zin_236, zin_237, zin_238, zin_239, zin_240, zin_241, zin_242, zin_243, zin_244, zin_245, zin_246, zin_247, zin_248, zin_249, zin_250, zkc_251, zin_252, zin_253, zkc_374, zin_375, zin_376, zin_377, zin_378, zin_379, zin_380, zin_381, zin_382, zin_383, zin_384, zin_385, zin_386, zin_387, i2, h0, ne_eq, not_true_eq_false, ↓reduceIte]
    exact JE_i hC hI hX
  · obtain ⟨n, hn⟩ : ∃ n : Nat, X 10 0 0 = n := ⟨(X 10 0 0).toNat, by omega⟩
    have e1 : ((nx : Int) + 8 - 1) % 8 = (((nx + 7) % 8 : Nat) : Int) := by omega
    have e2 : 0 ≤ (nx : Int) + 8 - 1 := by omega
    have e3 : -2147483648 ≤ (nx : Int) + 8 - 1 ∧ (nx : Int) + 8 - 1 < 2147483648 := ⟨by omega, by omega⟩
    have e4 : zup M 210 2 (((nx + 7) % 8 : Nat) : Int) 210 0 = (n : Int) := by rw [zup_off _ _ (by omega), p3, hn]
    have e5 : ∀ v, zup (zup M 210 2 (((nx + 7) % 8 : Nat) : Int)) 210 0 v 210 2 = (((nx + 7) % 8 : Nat) : Int) := fun v => by rw [zup_off _ _ (by omega), zup_at]
    have e6 : 0 ≤ (((nx + 7) % 8 : Nat) : Int) ∧ (((nx + 7) % 8 : Nat) : Int) < 8 := ⟨by omega, by omega⟩
    simp only [↓e88, ↓e88_0, ↓e88_1, ↓e88_4, ↓e88_7, ↓e88_10, ↓e88_12, ↓e88_13, ↓e88_14, ↓e88_15, ↓e88_18, ↓e88_21, ↓e88_24, ↓e88_25, ↓e88_28, ↓e88_31, znl_i, znl_r, znl_n, zcs_0, zcs_1, zcs_2, zcs_3, zcat_0, zcat_1, zcat_2, zcat_3, zbl_0, zbl_1, true_and, and_true, ↓zret_some, ↓zret_none, Nat.reduceAdd, Nat.reduceLeDiff, Nat.reduceMul, eq_self, Int.reduceToNat, Int.reduceLE, Int.reduceLT, Int.reduceNeg, and_self, zrg, zkc_0, zin_1, zin_2, zin_3, zin_4, zin_5, zin_6, zin_7, zin_8, zin_9, zaa_9, zkc_10, zin_11, zin_12, zkc_13, zin_14, zin_15, zkc_16, zin_17, zin_18, zkc_19, zin_20, zin_21, zin_22, zin_23, zin_24, zin_25, zin_26, zin_27, zin_28, zaa_28, zkc_29, zin_30, zin_31, zkc_32, zin_33, zin_34, zkc_35, zin_36, zin_37, zkc_38, zin_39, zin_40, zin_41, zin_42, zin_43, zin_44, zin_45, zin_46, zin_47, zaa_47, zkc_48, zin_49, zin_50, zkc_51, zin_52, zin_53, zkc_54, zin_55, zin_56, zkc_209, zkc_210, zin_211, zaa_211, zkc_212, zin_213, zkc_214, zkc_215, zin_216, zin_217, zkc_218, zin_219, zin_220, zin_221, zkc_222, zin_223, zaa_223, zin_224, zin_225, zkc_226, zin_227, zin_228, zin_229, zin_230, zin_231, zin_232, zkc_233, zin_234, zaa_234, zin_235, zin_236, zin_237, zin_238, zin_239, zin_240, zin_241, zin_242, zin_243, zin_244, zin_245, zin_246, zin_247, zin_248, zin_249, zin_250, zkc_251, zin_252, zin_253, zkc_374, zin_375, zin_376, zin_377, zin_378, zin_379, zin_380, zin_381, zin_382, zin_383, zin_384, zin_385, zin_386, zin_387, p3, hr, h0, ne_eq, not_false_eq_true, ↓reduceIte, ↓e18, ↓e18_0, ↓e18_1, ↓e18_2, ↓e18_5, ↓e18_7, ↓e18_8, ↓e18_9, ↓e18_10, ↓e18_12, ↓e18_13, ↓e18_16, ↓e18_17, ↓e18_17i, ↓e18_18, ↓e18_21, ↓e18_22, ↓e18_23, ↓e18_26, ↓e18_27, ↓e18_30, ↓e18_31, ↓e18_34, ↓e18_35, p2, e1, e2, e3, e4, e5, e6, Int.toNat_natCast]
    have hz : ∀ b, b ≠ 210 → zup (zup M 210 2 (((nx + 7) % 8 : Nat) : Int)) 210 0 ((n : Int) - 1) b = M b := fun b hb => by rw [zup_ne _ _ _ hb, zup_ne _ _ _ hb]
    have hlast := p4 n (by omega) (by omega)
    rw [hn, Int.toNat_natCast, show nx + 7 + n - n = nx + 7 by omega] at hlast
    refine s_restore (d + 6) _ _ (X n) (57 + 19 * ((nx + 7) % 8)) (by omega) (by omega) (by omega) (RelC_cong (fun b b1 b2 => hz b (by omega)) hlast) (fun N u1 u2 u3 => ?_)
    rw [zret_none]
    have e7 : N 210 0 = (n : Int) - 1 := by rw [u3 210 (by omega) (by omega), zup_at]
    have e8 : N 210 2 = (((nx + 7) % 8 : Nat) : Int) := by rw [u3 210 (by omega) (by omega), zup_off _ _ (by omega), zup_at]
    have hf : ∀ b, 19 ≤ b → b ≠ 210 → b ≠ 224 → N b = M b := fun b b1 b2 b3 => by rw [u3 b b1 b3, hz b b2]
    simp only [↓e88, ↓e88_0, ↓e88_1, ↓e88_4, ↓e88_7, ↓e88_10, ↓e88_12, ↓e88_13, ↓e88_14, ↓e88_15, ↓e88_18, ↓e88_21, ↓e88_24, ↓e88_25, ↓e88_28, ↓e88_31, znl_i, znl_r, znl_n, zcs_0, zcs_1, zcs_2, zcs_3, zcat_0, zcat_1, zcat_2, zcat_3, zbl_0, zbl_1, true_and, and_true, ↓zret_some, ↓zret_none, Nat.reduceAdd, Nat.reduceLeDiff, Nat.reduceMul, eq_self, Int.reduceToNat, Int.reduceLE, Int.reduceLT, Int.reduceNeg, and_self, zrg, zkc_0, zin_1, zin_2, zin_3, zin_4, zin_5, zin_6, zin_7, zin_8, zin_9, zaa_9, zkc_10, zin_11, zin_12, zkc_13, zin_14, zin_15, zkc_16, zin_17, zin_18, zkc_19, zin_20, zin_21, zin_22, zin_23, zin_24, zin_25, zin_26, zin_27, zin_28, zaa_28, zkc_29, zin_30, zin_31, zkc_32, zin_33, zin_34, zkc_35, zin_36, zin_37, zkc_38, zin_39, zin_40, zin_41, zin_42, zin_43, zin_44, zin_45, zin_46, zin_47, zaa_47, zkc_48, zin_49, zin_50, zkc_51, zin_52, zin_53, zkc_54, zin_55, zin_56, zkc_209, zkc_210, zin_211, zaa_211, zkc_212, zin_213, zkc_214, zkc_215, zin_216, zin_217, zkc_218, zin_219, zin_220, zin_221, zkc_222, zin_223, zaa_223, zin_224, zin_225, zkc_226, zin_227, zin_228, zin_229, zin_230, zin_231, zin_232, zkc_233, zin_234, zaa_234, zin_235, zin_236, zin_237, zin_238, zin_239, zin_240, zin_241, zin_242, zin_243, zin_244, zin_245, zin_246, zin_247, zin_248, zin_249, zin_250, zkc_251, zin_252, zin_253, zkc_374, zin_375, zin_376, zin_377, zin_378, zin_379, zin_380, zin_381, zin_382, zin_383, zin_384, zin_385, zin_386, zin_387, e7]
    have po : ∀ k : Nat, k ≠ 0 → k ≠ 10 → pop X k = X k := fun k k0 k10 => by unfold pop; rw [if_neg k0, if_neg k10]
    have p0 : pop X 0 = X n := by unfold pop; rw [if_pos rfl, hn, Int.toNat_natCast]
    have p10 : pop X 10 0 0 = (n : Int) - 1 := by unfold pop; rw [if_neg (by omega), if_pos rfl, zup_at, hn]
    have p10o : ∀ b j : Nat, b ≠ 0 ∨ j ≠ 0 → pop X 10 b j = X 10 b j := fun b j h => by unfold pop; rw [if_neg (by omega), if_pos rfl, zup_off _ _ h]
    have hC2 : IC (pop X) N := by
      refine ⟨by rw [p0]; exact u1, by rw [p0]; exact u2, ⟨(nx + 7) % 8, by omega, e8, by rw [p10]; exact e7, fun k k1 k2 => ?_⟩, ?_, fun z => ?_, ?_, fun j hj => ?_, ?_, ?_⟩
      · rw [p10] at k2
        have h9 := p4 k k1 (by omega)
        rw [hn, Int.toNat_natCast] at h9
        rw [po k (by omega) (by omega), p10, show ((nx + 7) % 8 + 7 + k - ((n : Int) - 1).toNat) % 8 = (nx + 7 + k - n) % 8 by omega]
        have e : (nx + 7 + k - n) % 8 < 8 := by omega
        generalize (nx + 7 + k - n) % 8 = i at *
        exact RelC_cong (fun b b1 b2 => hf b (by omega) (by omega) (by omega)) h9
      · rw [p10o 0 1 (by omega), hf 209 (by omega) (by omega) (by omega)]; exact q1
      · rw [p10o 0 1 (by omega)] at z
        rw [po 9 (by omega) (by omega)]
        exact RelC_cong (fun b b1 b2 => hf b (by omega) (by omega) (by omega)) (q2 z)
      · rw [p10o 0 2 (by omega), hf 212 (by omega) (by omega) (by omega)]; exact q3
      · rw [p10o 0 2 (by omega)] at hj
        rw [p10o 1 j (by omega), hf 213 (by omega) (by omega) (by omega)]; exact q4 j hj
      · rw [p10o 0 3 (by omega), hf 209 (by omega) (by omega) (by omega)]; exact q5
      · rw [p10o 0 3 (by omega), p10o 0 4 (by omega), hf 209 (by omega) (by omega) (by omega)]; exact q6
    have hIP := IR_cong (fun b hb => hf b (by omega) (by omega) (by omega)) hI
    obtain ⟨h1, i2, i3, i4, i5, i6, i7, i8, i9⟩ := id hIP
    refine JC_i ?_
    have hcp : ∀ Q' M', Sp (d + 8 + 1) 112 [.inr (.inr 374), .inl (n : Int), .inl 0] M' Q' = Q' none (cpR M' n 0 258) := fun Q' M' => s_copies (d + 8) Q' M' n 0 (by omega) (by omega) (by omega)
    have e9 : cpR N n 0 258 374 1 = (n : Int) := by rw [cpR_ne _ _ _ _ (by omega), i2, hn]
    have e10 : ∀ v, zup (cpR N n 0 258) 374 1 v 374 1 = v := fun v => zup_at _ _ _ _
    have hnr : -2147483648 ≤ (n : Int) ∧ (n : Int) < 2147483648 := ⟨by omega, by omega⟩
    rw [hn] at i2
    simp only [↓e179, ↓e179_0, ↓e179_1, ↓e179_4, ↓e179_7, ↓e179_9, ↓e179_10, ↓e179_11, ↓e179_12, ↓e179_15, ↓e179_16, ↓e179_19, ↓e179_20, ↓e179_20i, ↓e179_21, ↓e179_24, ↓e179_25, ↓e179_26, ↓e179_29, ↓e179_30, ↓e179_33, znl_i, znl_r, znl_n, zcs_0, zcs_1, zcs_2, zcs_3, zcat_0, zcat_1, zcat_2, zcat_3, zbl_0, zbl_1, true_and, and_true, ↓zret_some, ↓zret_none, Nat.reduceAdd, Nat.reduceLeDiff, Nat.reduceMul, eq_self, Int.reduceToNat, Int.reduceLE, Int.reduceLT, Int.reduceNeg, and_self, zrg, zkc_0, zin_1, zin_2, zin_3, zin_4, zin_5, zin_6, zin_7, zin_8, zin_9, zaa_9, zkc_10, zin_11, zin_12, zkc_13, zin_14, zin_15, zkc_16, zin_17, zin_18, zkc_19, zin_20, zin_21, zin_22, zin_23, zin_24, zin_25, zin_26, zin_27, zin_28, zaa_28, zkc_29, zin_30, zin_31, zkc_32, zin_33, zin_34, zkc_35, zin_36, zin_37, zkc_38, zin_39, zin_40, zin_41, zin_42, zin_43, zin_44, zin_45, zin_46, zin_47, zaa_47, zkc_48, zin_49, zin_50, zkc_51, zin_52, zin_53, zkc_54, zin_55, zin_56, zkc_209, zkc_210, zin_211, zaa_211, zkc_212, zin_213, zkc_214, zkc_215, zin_216, zin_217, zkc_218, zin_219, zin_220, zin_221, zkc_222, zin_223, zaa_223, zin_224, zin_225, zkc_226, zin_227, zin_228, zin_229, zin_230, zin_231, zin_232, zkc_233, zin_234, zaa_234, zin_235, zin_236, zin_237, zin_238, zin_239, zin_240, zin_241, zin_242, zin_243, zin_244, zin_245, zin_246, zin_247, zin_248, zin_249, zin_250, zkc_251, zin_252, zin_253, zkc_374, zin_375, zin_376, zin_377, zin_378, zin_379, zin_380, zin_381, zin_382, zin_383, zin_384, zin_385, zin_386, zin_387, i2, hnr, show ¬ (n : Int) = 0 by omega, ne_eq, not_false_eq_true, ↓reduceIte, ↓hcp, e9, e10]
    have g5 : ∀ j, 258 ≤ j → zup (cpR N n 0 258) 374 1 ((n : Int) - 1) 375 j = N 375 j := fun j hj => by rw [zup_ne _ _ _ (by omega), cpR_off _ _ _ (by omega)]
    have g4 : ∀ j, j ≠ 1 → zup (cpR N n 0 258) 374 1 ((n : Int) - 1) 374 j = N 374 j := fun j hj => by rw [zup_off _ _ (Or.inr hj), cpR_ne _ _ _ _ (by omega)]
    have gb : ∀ b, b ≠ 374 → b ≠ 375 → zup (cpR N n 0 258) 374 1 ((n : Int) - 1) b = N b := fun b b1 b2 => by rw [zup_ne _ _ _ b1, cpR_ne _ _ _ _ b2]
    refine JE_i (X := pop X) (IC_cong (fun b hb => gb b (by omega) (by omega)) hC2) ?_ ?_
    · have hn3 := i3 n (by omega) (by omega)
      refine ⟨?_, ?_, fun k k1 k2 => ?_, ?_, fun z => ?_, ?_, fun j hj => ?_, ?_, fun z => ?_⟩
      · rw [p0]
        refine RelR'_shift (o := 258 * n) (w3 n (by omega) (by omega)).1 (fun j hj => ?_) hn3
        rw [zup_ne _ _ _ (by omega)]
        have := cpR_to N n 0 j hj
        simpa using this
      · rw [p10, zup_at]
      · rw [p10] at k2
        rw [po k (by omega) (by omega)]
        exact RelR'_shift (w3 k k1 (by omega)).1 (fun j hj => g5 _ (by omega)) (i3 k k1 (by omega))
      · rw [p10o 0 1 (by omega), g4 2 (by omega)]; exact i4
      · rw [p10o 0 1 (by omega)] at z
        rw [po 9 (by omega) (by omega)]
        exact RelR'_shift (w5 z).1 (fun j hj => g5 _ (by omega)) (i5 z)
      · rw [p10o 0 2 (by omega), g4 15 (by omega)]; exact i6
      · rw [p10o 0 2 (by omega)] at hj
        rw [p10o 1 j (by omega), gb 385 (by omega) (by omega)]; exact i7 j hj
      · rw [p10o 0 3 (by omega), g4 21 (by omega)]; exact i8
      · rw [p10o 0 3 (by omega)] at z
        rw [p10o 0 4 (by omega), g4 22 (by omega)]; exact i9 z
    · unfold WX
      rw [p0, p10, po 9 (by omega) (by omega), p10o 0 1 (by omega), p10o 0 2 (by omega), p10o 0 3 (by omega)]
      exact ⟨w3 n (by omega) (by omega), by omega, fun k k1 k2 => by rw [po k (by omega) (by omega)]; exact w3 k k1 (by omega), w4, w5, w6, fun j hj => by rw [p10o 1 j (by omega)]; exact w7 j hj, w8⟩
