/-! ### image, undo, count, distance agree -/
def img (X : zX) : zX := fun k => if k = 9 then X 0 else if k = 10 then zup (X 10) 0 1 1 else X k
theorem j_image (d : Nat) (B : Int) (X : zX) (M : zM) (hC : IC X M) (hI : IR X M) (hX : WX B X) : Jt d B 89 180 [] M := by
  have hW := hX.1.1
  obtain ⟨w1, w2, w3, w4, w5, w6, w7, w8⟩ := id hX
  obtain ⟨c1, c2, ⟨nx, p1, p2, p3, p4⟩, q1, q2, q3, q4, q5, q6⟩ := id hC
  have po : ∀ k : Nat, k ≠ 9 → k ≠ 10 → img X k = X k := fun k k0 k10 => by unfold img; rw [if_neg k0, if_neg k10]
  have p9 : img X 9 = X 0 := if_pos rfl
  have p101 : img X 10 0 1 = 1 := by unfold img; rw [if_neg (by omega), if_pos rfl, zup_at]
  have p10o : ∀ b j : Nat, b ≠ 0 ∨ j ≠ 1 → img X 10 b j = X 10 b j := fun b j h => by unfold img; rw [if_neg (by omega), if_pos rfl, zup_off _ _ h]
  unfold Jt
  simp only [↓e89, ↓e89_0, ↓e89_1, ↓e89_4, ↓e89_5, ↓e89_8, ↓e89_11, ↓e89_12, ↓e89_13, ↓e89_16, ↓e89_17, ↓e89_20, ↓e89_23, znl_i, znl_r, znl_n, zcs_0, zcs_1, zcs_2, zcs_3, zcat_0, zcat_1, zcat_2, zcat_3, zbl_0, zbl_1, true_and, and_true, ↓zret_some, ↓zret_none, Nat.reduceAdd, Nat.reduceLeDiff, Nat.reduceMul, eq_self, Int.reduceToNat, Int.reduceLE, Int.reduceLT, Int.reduceNeg, and_self, zrg, zkc_0, zin_1, zin_2, zin_3, zin_4, zin_5, zin_6, zin_7, zin_8, zin_9, zaa_9, zkc_10, zin_11, zin_12, zkc_13, zin_14, zin_15, zkc_16, zin_17, zin_18, zkc_19, zin_20, zin_21, zin_22, zin_23, zin_24, zin_25, zin_26, zin_27, zin_28, zaa_28, zkc_29, zin_30, zin_31, zkc_32, zin_33, zin_34, zkc_35, zin_36, zin_37, zkc_38, zin_39, zin_40, zin_41, zin_42, zin_43, zin_44, zin_45, zin_46, zin_47, zaa_47, zkc_48, zin_49, zin_50, zkc_51, zin_52, zin_53, zkc_54, zin_55, zin_56, zkc_209, zkc_210, zin_211, zaa_211, zkc_212, zin_213, zkc_214, zkc_215, zin_216, zin_217, zkc_218, zin_219, zin_220, zin_221, zkc_222, zin_223, zaa_223, zin_224, zin_225, zkc_226, zin_227, zin_228, zin_229, zin_230, zin_231, zin_232, zkc_233, zin_234, zaa_234, zin_235, zin_236, zin_237, zin_238, zin_239, zin_240, zin_241, zin_242, zin_243, zin_244, zin_245, zin_246, zin_247, zin_248, zin_249, zin_250, zkc_251, zin_252, zin_253, zkc_374, zin_375, zin_376, zin_377, zin_378, zin_379, zin_380, zin_381, zin_382, zin_383, zin_384, zin_385, zin_386, zin_387]
  refine s_copyW (d + 7) _ M (X 0) 38 0 zkc_38 zkc_0 (by omega) c1 (fun N u1 u2 => ?_)
  rw [zret_none]
  have hz : ∀ b, b ≠ 209 → zup N 209 3 1 b = N b := fun b hb => zup_ne _ _ _ hb
  have hlv : zup N 209 3 1 8 7 - zup N 209 3 1 8 5 = cntM (X 0) 10 := by
    rw [hz 8 (by omega), u2 8 (by omega)]
    exact live_C c1 hW
  simp only [↓e89, ↓e89_0, ↓e89_1, ↓e89_4, ↓e89_5, ↓e89_8, ↓e89_11, ↓e89_12, ↓e89_13, ↓e89_16, ↓e89_17, ↓e89_20, ↓e89_23, znl_i, znl_r, znl_n, zcs_0, zcs_1, zcs_2, zcs_3, zcat_0, zcat_1, zcat_2, zcat_3, zbl_0, zbl_1, true_and, and_true, ↓zret_some, ↓zret_none, Nat.reduceAdd, Nat.reduceLeDiff, Nat.reduceMul, eq_self, Int.reduceToNat, Int.reduceLE, Int.reduceLT, Int.reduceNeg, and_self, zrg, zkc_0, zin_1, zin_2, zin_3, zin_4, zin_5, zin_6, zin_7, zin_8, zin_9, zaa_9, zkc_10, zin_11, zin_12, zkc_13, zin_14, zin_15, zkc_16, zin_17, zin_18, zkc_19, zin_20, zin_21, zin_22, zin_23, zin_24, zin_25, zin_26, zin_27, zin_28, zaa_28, zkc_29, zin_30, zin_31, zkc_32, zin_33, zin_34, zkc_35, zin_36, zin_37, zkc_38, zin_39, zin_40, zin_41, zin_42, zin_43, zin_44, zin_45, zin_46, zin_47, zaa_47, zkc_48, zin_49, zin_50, zkc_51, zin_52, zin_53, zkc_54, zin_55, zin_56, zkc_209, zkc_210, zin_211, zaa_211, zkc_212, zin_213, zkc_214, zkc_215, zin_216, zin_217, zkc_218, zin_219, zin_220, zin_221, zkc_222, zin_223, zaa_223, zin_224, zin_225, zkc_226, zin_227, zin_228, zin_229, zin_230, zin_231, zin_232, zkc_233, zin_234, zaa_234, zin_235, zin_236, zin_237, zin_238, zin_239, zin_240, zin_241, zin_242, zin_243, zin_244, zin_245, zin_246, zin_247, zin_248, zin_249, zin_250, zkc_251, zin_252, zin_253, zkc_374, zin_375, zin_376, zin_377, zin_378, zin_379, zin_380, zin_381, zin_382, zin_383, zin_384, zin_385, zin_386, zin_387, ↓s_living (d + 8) _ _ 0 zkc_0, Nat.zero_add, hlv]
  have hf : ∀ b, b ≠ 209 → (b < 38 ∨ 57 ≤ b) → zup N 209 3 1 b = M b := fun b hb hb2 => by rw [hz b hb, u2 b (by omega)]
  have h209 : ∀ j, j ≠ 3 → zup N 209 3 1 209 j = M 209 j := fun j hj => by rw [zup_off _ _ (Or.inr hj), u2 209 (by omega)]
  have hC2 : IC (img X) (zup N 209 3 1) := by
    refine ⟨by rw [po 0 (by omega) (by omega)]; exact RelC_cong (fun b b1 b2 => hf b (by omega) (by omega)) c1, fun x hx => ?_, ⟨nx, p1, ?_, ?_, fun k k1 k2 => ?_⟩, ?_, fun z => ?_, ?_, fun j hj => ?_, ?_, ?_⟩
    · rw [po 0 (by omega) (by omega), hf 224 (by omega) (by omega), hf (254 + x) (by omega) (by omega)]; exact c2 x hx
    · rw [hf 210 (by omega) (by omega)]; exact p2
    · rw [hf 210 (by omega) (by omega), p10o 0 0 (by omega)]; exact p3
    · rw [p10o 0 0 (by omega)] at k2 ⊢
      have h9 := p4 k k1 k2
      rw [po k (by omega) (by omega)]
      exact RelC_cong (fun b b1 b2 => hf b (by omega) (by omega)) h9
    · rw [p101, zup_at]
    · rw [p9]; exact RelC_cong (fun b b1 b2 => hz b (by omega)) u1
    · rw [p10o 0 2 (by omega), hf 212 (by omega) (by omega)]; exact q3
    · rw [p10o 0 2 (by omega)] at hj
      rw [p10o 1 j (by omega), hf 213 (by omega) (by omega)]; exact q4 j hj
    · rw [p10o 0 3 (by omega), h209 11 (by omega)]; exact q5
    · rw [p10o 0 3 (by omega), p10o 0 4 (by omega), h209 12 (by omega)]; exact q6
  have hP : ∀ b, 374 ≤ b → zup N 209 3 1 b = M b := fun b hb => hf b (by omega) (by omega)
  generalize zup N 209 3 1 = P at hC2 hP ⊢
  have hIP := IR_cong hP hI
  obtain ⟨h1, i2, i3, i4, i5, i6, i7, i8, i9⟩ := id hIP
  refine JC_i ?_
  have hcp : ∀ Q' M', Sp (d + 8 + 1) 112 [.inr (.inr 374), .inl 0, .inl 9] M' Q' = Q' none (cpR M' 0 9 258) := fun Q' M' => s_copies (d + 8) Q' M' 0 9 (by omega) (by omega) (by omega)
  have g5 : ∀ j, j < 2322 → cpR (zup P 374 2 1) 0 9 258 375 j = P 375 j := fun j hj => by rw [cpR_off _ _ _ (by omega), zup_ne _ _ _ (by omega)]
  have gb : ∀ b, b ≠ 374 → b ≠ 375 → cpR (zup P 374 2 1) 0 9 258 b = P b := fun b b1 b2 => by rw [cpR_ne _ _ _ _ b2, zup_ne _ _ _ b1]
  have g4 : ∀ j, j ≠ 2 → cpR (zup P 374 2 1) 0 9 258 374 j = P 374 j := fun j hj => by rw [cpR_ne _ _ _ _ (by omega), zup_off _ _ (Or.inr hj)]
  have hR0 : RelR' (cpR (zup P 374 2 1) 0 9 258) 0 (X 0) := RelR'_shift (o := 0) hW (fun j hj => g5 _ (by omega)) h1
  simp only [↓e180, ↓e180_0, ↓e180_1, ↓e180_2, ↓e180_5, ↓e180_6, ↓e180_7, ↓e180_9, ↓e180_12, ↓e180_13, ↓e180_16, znl_i, znl_r, znl_n, zcs_0, zcs_1, zcs_2, zcs_3, zcat_0, zcat_1, zcat_2, zcat_3, zbl_0, zbl_1, true_and, and_true, ↓zret_some, ↓zret_none, Nat.reduceAdd, Nat.reduceLeDiff, Nat.reduceMul, eq_self, Int.reduceToNat, Int.reduceLE, Int.reduceLT, Int.reduceNeg, and_self, zrg, zkc_0, zin_1, zin_2, zin_3, zin_4, zin_5, zin_6, zin_7, zin_8, zin_9, zaa_9, zkc_10, zin_11, zin_12, zkc_13, zin_14, zin_15, zkc_16, zin_17, zin_18, zkc_19, zin_20, zin_21, zin_22, zin_23, zin_24, zin_25, zin_26, zin_27, zin_28, zaa_28, zkc_29, zin_30, zin_31, zkc_32, zin_33, zin_34, zkc_35, zin_36, zin_37, zkc_38, zin_39, zin_40, zin_41, zin_42, zin_43, zin_44, zin_45, zin_46, zin_47, zaa_47, zkc_48, zin_49, zin_50, zkc_51, zin_52, zin_53, zkc_54, zin_55, zin_56, zkc_209, zkc_210, zin_211, zaa_211, zkc_212, zin_213, zkc_214, zkc_215, zin_216, zin_217, zkc_218, zin_219, zin_220, zin_221, zkc_222, zin_223, zaa_223, zin_224, zin_225, zkc_226, zin_227, zin_228, zin_229, zin_230, zin_231, zin_232, zkc_233, zin_234, zaa_234, zin_235, zin_236, zin_237, zin_238, zin_239, zin_240, zin_241, zin_242, zin_243, zin_244, zin_245, zin_246, zin_247, zin_248, zin_249, zin_250, zkc_251, zin_252, zin_253, zkc_374, zin_375, zin_376, zin_377, zin_378, zin_379, zin_380, zin_381, zin_382, zin_383, zin_384, zin_385, zin_386, zin_387, ↓hcp, ↓s_members (d + 6) _ _ (X 0) hR0.1 hW]
  refine JE_i (X := img X) (IC_cong (fun b hb => gb b (by omega) (by omega)) hC2) ⟨?_, ?_, fun k k1 k2 => ?_, ?_, fun z => ?_, ?_, fun j hj => ?_, ?_, fun z => ?_⟩ ?_
  · rw [po 0 (by omega) (by omega)]; exact hR0
  · rw [p10o 0 0 (by omega), g4 1 (by omega)]; exact i2
  · rw [p10o 0 0 (by omega)] at k2
    rw [po k (by omega) (by omega)]
    exact RelR'_shift (w3 k k1 k2).1 (fun j hj => g5 _ (by omega)) (i3 k k1 k2)
  · rw [p101, cpR_ne _ _ _ _ (by omega), zup_at]
  · rw [p9]
    refine RelR'_shift (o := 0) hW (fun j hj => ?_) h1
    have := cpR_to (zup P 374 2 1) 0 9 j hj
    rw [show 2322 + j = 258 * 9 + j by omega, this, zup_ne _ _ _ (by omega)]
  · rw [p10o 0 2 (by omega), g4 15 (by omega)]; exact i6
  · rw [p10o 0 2 (by omega)] at hj
    rw [p10o 1 j (by omega), gb 385 (by omega) (by omega)]; exact i7 j hj
  · rw [p10o 0 3 (by omega), g4 21 (by omega)]; exact i8
  · rw [p10o 0 3 (by omega)] at z
    rw [p10o 0 4 (by omega), g4 22 (by omega)]; exact i9 z
  · unfold WX
    rw [po 0 (by omega) (by omega), p9, p101, p10o 0 0 (by omega), p10o 0 2 (by omega), p10o 0 3 (by omega)]
    exact ⟨w1, w2, fun k k1 k2 => by rw [po k (by omega) (by omega)]; exact w3 k k1 k2, Or.inr rfl, fun _ => w1, w6, fun j hj => by rw [p10o 1 j (by omega)]; exact w7 j hj, w8⟩
def und (X : zX) : zX := fun k => if k = 0 then X 9 else if k = 10 then zup (X 10) 0 0 0 else X k
theorem j_undo (d : Nat) (B : Int) (X : zX) (M : zM) (hC : IC X M) (hI : IR X M) (hX : WX B X) : Jt d B 90 181 [] M := by
  have hW := hX.1.1
  obtain ⟨w1, w2, w3, w4, w5, w6, w7, w8⟩ := id hX
  obtain ⟨c1, c2, ⟨nx, p1, p2, p3, p4⟩, q1, q2, q3, q4, q5, q6⟩ := id hC
  unfold Jt
  rcases w4 with hs | hs
  · obtain ⟨h1, i2, i3, i4, i5, i6, i7, i8, i9⟩ := id hI
    simp only [↓e90, ↓e90_0, ↓e90_1, ↓e90_4, ↓e90_7, ↓e90_9, ↓e90_10, ↓e90_11, ↓e90_12, ↓e90_15, ↓e90_18, ↓e90_19, ↓e90_22, ↓e90_25, ↓e90_26, ↓e90_29, ↓e90_32, znl_i, znl_r, znl_n, zcs_0, zcs_1, zcs_2, zcs_3, zcat_0, zcat_1, zcat_2, zcat_3, zbl_0, zbl_1, true_and, and_true, ↓zret_some, ↓zret_none, Nat.reduceAdd, Nat.reduceLeDiff, Nat.reduceMul, eq_self, Int.reduceToNat, Int.reduceLE, Int.reduceLT, Int.reduceNeg, and_self, zrg, zkc_0, zin_1, zin_2, zin_3, zin_4, zin_5, zin_6, zin_7, zin_8, zin_9, zaa_9, zkc_10, zin_11, zin_12, zkc_13, zin_14, zin_15, zkc_16, zin_17, zin_18, zkc_19, zin_20, zin_21, zin_22, zin_23, zin_24, zin_25, zin_26, zin_27, zin_28, zaa_28, zkc_29, zin_30, zin_31, zkc_32, zin_33, zin_34, zkc_35, zin_36, zin_37, zkc_38, zin_39, zin_40, zin_41, zin_42, zin_43, zin_44, zin_45, zin_46, zin_47, zaa_47, zkc_48, zin_49, zin_50, zkc_51, zin_52, zin_53, zkc_54, zin_55, zin_56, zkc_209, zkc_210, zin_211, zaa_211, zkc_212, zin_213, zkc_214, zkc_215, zin_216, zin_217, zkc_218, zin_219, zin_220, zin_221, zkc_222, zin_223, zaa_223, zin_224, zin_225, zkc_226, zin_227, zin_228, zin_229, zin_230, zin_231, zin_232, zkc_233, zin_234, zaa_234, zin_235, zin_236, zin_237, zin_238, zin_239, zin_240, zin_241, zin_242, zin_243, zin_244, zin_245, zin_246, zin_247, zin_248, zin_249, zin_250, zkc_251, zin_252, zin_253, zkc_374, zin_375, zin_376, zin_377, zin_378, zin_379, zin_380, zin_381, zin_382, zin_383, zin_384, zin_385, zin_386, zin_387, q1, hs, ne_eq, not_true_eq_false, ↓reduceIte]
    refine JC_i ?_
    simp only [↓e181, ↓e181_0, ↓e181_1, ↓e181_4, ↓e181_7, ↓e181_9, ↓e181_10, ↓e181_11, ↓e181_13, ↓e181_14, ↓e181_17, ↓e181_18, ↓e181_19, ↓e181_22, ↓e181_23, ↓e181_26, znl_i, znl_r, znl_n, zcs_0, zcs_1, zcs_2, zcs_3, zcat_0, zcat_1, zcat_2, zcat_3, zbl_0, zbl_1, true_and, and_true, ↓zret_some, ↓zret_none, Nat.reduceAdd, Nat.reduceLeDiff, Nat.reduceMul, eq_self, Int.reduceToNat, Int.reduceLE, Int.reduceLT, Int.reduceNeg, and_self, zrg, zkc_0, zin_1, zin_2, zin_3, zin_4, zin_5, zin_6, zin_7, zin_8, zin_9, zaa_9, zkc_10, zin_11, zin_12, zkc_13, zin_14, zin_15, zkc_16, zin_17, zin_18, zkc_19, zin_20, zin_21, zin_22, zin_23, zin_24, zin_25, zin_26, zin_27, zin_28, zaa_28, zkc_29, zin_30, zin_31, zkc_32, zin_33, zin_34, zkc_35, zin_36, zin_37, zkc_38, zin_39, zin_40, zin_41, zin_42, zin_43, zin_44, zin_45, zin_46, zin_47, zaa_47, zkc_48, zin_49, zin_50, zkc_51, zin_52, zin_53, zkc_54, zin_55, zin_56, zkc_209, zkc_210, zin_211, zaa_211, zkc_212, zin_213, zkc_214, zkc_215, zin_216, zin_217, zkc_218, zin_219, zin_220, zin_221, zkc_222, zin_223, zaa_223, zin_224, zin_225, zkc_226, zin_227, zin_228, zin_229, zin_230, zin_231, zin_232, zkc_233, zin_234, zaa_234, zin_235, zin_236, zin_237, zin_238, zin_239, zin_240, zin_241, zin_242, zin_243, zin_244, zin_245, zin_246, zin_247, zin_248, zin_249, zin_250, zkc_251, zin_252, zin_253, zkc_374, zin_375, zin_376, zin_377, zin_378, zin_379, zin_380, zin_381, zin_382, zin_383, zin_384, zin_385, zin_386, zin_387, i4, hs, ne_eq, not_true_eq_false, ↓reduceIte]
    exact JE_i hC hI hX
  · have po : ∀ k : Nat, k ≠ 0 → k ≠ 10 → und X k = X k := fun k k0 k10 => by unfold und; rw [if_neg k0, if_neg k10]
    have p0 : und X 0 = X 9 := if_pos rfl
    have p100 : und X 10 0 0 = 0 := by unfold und; rw [if_neg (by omega), if_pos rfl, zup_at]
    have p10o : ∀ b j : Nat, b ≠ 0 ∨ j ≠ 0 → und X 10 b j = X 10 b j := fun b j h => by unfold und; rw [if_neg (by omega), if_pos rfl, zup_off _ _ h]
    have hW9 := w5 hs
    simp only [↓e90, ↓e90_0, ↓e90_1, ↓e90_4, ↓e90_7, ↓e90_9, ↓e90_10, ↓e90_11, ↓e90_12, ↓e90_15, ↓e90_18, ↓e90_19, ↓e90_22, ↓e90_25, ↓e90_26, ↓e90_29, ↓e90_32, znl_i, znl_r, znl_n, zcs_0, zcs_1, zcs_2, zcs_3, zcat_0, zcat_1, zcat_2, zcat_3, zbl_0, zbl_1, true_and, and_true, ↓zret_some, ↓zret_none, Nat.reduceAdd, Nat.reduceLeDiff, Nat.reduceMul, eq_self, Int.reduceToNat, Int.reduceLE, Int.reduceLT, Int.reduceNeg, and_self, zrg, zkc_0, zin_1, zin_2, zin_3, zin_4, zin_5, zin_6, zin_7, zin_8, zin_9, zaa_9, zkc_10, zin_11, zin_12, zkc_13, zin_14, zin_15, zkc_16, zin_17, zin_18, zkc_19, zin_20, zin_21, zin_22, zin_23, zin_24, zin_25, zin_26, zin_27, zin_28, zaa_28, zkc_29, zin_30, zin_31, zkc_32, zin_33, zin_34, zkc_35, zin_36, zin_37, zkc_38, zin_39, zin_40, zin_41, zin_42, zin_43, zin_44, zin_45, zin_46, zin_47, zaa_47, zkc_48, zin_49, zin_50, zkc_51, zin_52, zin_53, zkc_54, zin_55, zin_56, zkc_209, zkc_210, zin_211, zaa_211, zkc_212, zin_213, zkc_214, zkc_215, zin_216, zin_217, zkc_218, zin_219, zin_220, zin_221, zkc_222, zin_223, zaa_223, zin_224, zin_225, zkc_226, zin_227, zin_228, zin_229, zin_230, zin_231, zin_232, zkc_233, zin_234, zaa_234, zin_235, zin_236, zin_237, zin_238, zin_239, zin_240, zin_241, zin_242, zin_243, zin_244, zin_245, zin_246, zin_247, zin_248, zin_249, zin_250, zkc_251, zin_252, zin_253, zkc_374, zin_375, zin_376, zin_377, zin_378, zin_379, zin_380, zin_381, zin_382, zin_383, zin_384, zin_385, zin_386, zin_387, q1, hs, show ¬ (1 : Int) = 0 by omega, ne_eq, not_false_eq_true, ↓reduceIte]
    refine s_restore (d + 6) _ M (X 9) 38 (by omega) (by omega) (by omega) (q2 hs) (fun N u1 u2 u3 => ?_)
    rw [zret_none]
    have hz : ∀ b, b ≠ 210 → zup N 210 0 0 b = N b := fun b hb => zup_ne _ _ _ hb
    have hlv : zup N 210 0 0 8 7 - zup N 210 0 0 8 5 = cntM (X 9) 10 := by
      rw [hz 8 (by omega)]
      exact live_C u1 hW9.1
    simp only [↓e90, ↓e90_0, ↓e90_1, ↓e90_4, ↓e90_7, ↓e90_9, ↓e90_10, ↓e90_11, ↓e90_12, ↓e90_15, ↓e90_18, ↓e90_19, ↓e90_22, ↓e90_25, ↓e90_26, ↓e90_29, ↓e90_32, znl_i, znl_r, znl_n, zcs_0, zcs_1, zcs_2, zcs_3, zcat_0, zcat_1, zcat_2, zcat_3, zbl_0, zbl_1, true_and, and_true, ↓zret_some, ↓zret_none, Nat.reduceAdd, Nat.reduceLeDiff, Nat.reduceMul, eq_self, Int.reduceToNat, Int.reduceLE, Int.reduceLT, Int.reduceNeg, and_self, zrg, zkc_0, zin_1, zin_2, zin_3, zin_4, zin_5, zin_6, zin_7, zin_8, zin_9, zaa_9, zkc_10, zin_11, zin_12, zkc_13, zin_14, zin_15, zkc_16, zin_17, zin_18, zkc_19, zin_20, zin_21, zin_22, zin_23, zin_24, zin_25, zin_26, zin_27, zin_28, zaa_28, zkc_29, zin_30, zin_31, zkc_32, zin_33, zin_34, zkc_35, zin_36, zin_37, zkc_38, zin_39, zin_40, zin_41, zin_42, zin_43, zin_44, zin_45, zin_46, zin_47, zaa_47, zkc_48, zin_49, zin_50, zkc_51, zin_52, zin_53, zkc_54, zin_55, zin_56, zkc_209, zkc_210, zin_211, zaa_211, zkc_212, zin_213, zkc_214, zkc_215, zin_216, zin_217, zkc_218, zin_219, zin_220, zin_221, zkc_222, zin_223, zaa_223, zin_224, zin_225, zkc_226, zin_227, zin_228, zin_229, zin_230, zin_231, zin_232, zkc_233, zin_234, zaa_234, zin_235, zin_236, zin_237, zin_238, zin_239, zin_240, zin_241, zin_242, zin_243, zin_244, zin_245, zin_246, zin_247, zin_248, zin_249, zin_250, zkc_251, zin_252, zin_253, zkc_374, zin_375, zin_376, zin_377, zin_378, zin_379, zin_380, zin_381, zin_382, zin_383, zin_384, zin_385, zin_386, zin_387, ↓e19, ↓e19_0, ↓e19_1, ↓e19_2, ↓e19_5, ↓s_living (d + 8) _ _ 0 zkc_0, Nat.zero_add, hlv]
    have hf : ∀ b, 19 ≤ b → b ≠ 210 → b ≠ 224 → zup N 210 0 0 b = M b := fun b b1 b2 b3 => by rw [hz b b2, u3 b b1 b3]
    have hC2 : IC (und X) (zup N 210 0 0) := by
      refine ⟨by rw [p0]; exact RelC_cong (fun b b1 b2 => hz b (by omega)) u1, fun x hx => ?_, ⟨nx, p1, ?_, ?_, fun k k1 k2 => ?_⟩, ?_, fun z => ?_, ?_, fun j hj => ?_, ?_, ?_⟩
      · rw [p0, hz 224 (by omega), hz (254 + x) (by omega)]; exact u2 x hx
      · rw [zup_off _ _ (by omega), u3 210 (by omega) (by omega)]; exact p2
      · rw [p100, zup_at]
      · rw [p100] at k2; omega
      · rw [p10o 0 1 (by omega), hf 209 (by omega) (by omega) (by omega)]; exact q1
      · rw [po 9 (by omega) (by omega)]
        exact RelC_cong (fun b b1 b2 => hf b (by omega) (by omega) (by omega)) (q2 hs)
      · rw [p10o 0 2 (by omega), hf 212 (by omega) (by omega) (by omega)]; exact q3
      · rw [p10o 0 2 (by omega)] at hj
        rw [p10o 1 j (by omega), hf 213 (by omega) (by omega) (by omega)]; exact q4 j hj
      · rw [p10o 0 3 (by omega), hf 209 (by omega) (by omega) (by omega)]; exact q5
      · rw [p10o 0 3 (by omega), p10o 0 4 (by omega), hf 209 (by omega) (by omega) (by omega)]; exact q6
    have hP : ∀ b, 374 ≤ b → zup N 210 0 0 b = M b := fun b hb => hf b (by omega) (by omega) (by omega)
    generalize zup N 210 0 0 = P at hC2 hP ⊢
    have hIP := IR_cong hP hI
    obtain ⟨h1, i2, i3, i4, i5, i6, i7, i8, i9⟩ := id hIP
    refine JC_i ?_
    have hcp : ∀ Q' M', Sp (d + 8 + 1) 112 [.inr (.inr 374), .inl 9, .inl 0] M' Q' = Q' none (cpR M' 9 0 258) := fun Q' M' => s_copies (d + 8) Q' M' 9 0 (by omega) (by omega) (by omega)
    have g5 : ∀ j, 258 ≤ j → zup (cpR P 9 0 258) 374 1 0 375 j = P 375 j := fun j hj => by rw [zup_ne _ _ _ (by omega), cpR_off _ _ _ (by omega)]
    have gb : ∀ b, b ≠ 374 → b ≠ 375 → zup (cpR P 9 0 258) 374 1 0 b = P b := fun b b1 b2 => by rw [zup_ne _ _ _ b1, cpR_ne _ _ _ _ b2]
    have g4 : ∀ j, j ≠ 1 → zup (cpR P 9 0 258) 374 1 0 374 j = P 374 j := fun j hj => by rw [zup_off _ _ (Or.inr hj), cpR_ne _ _ _ _ (by omega)]
    have hR0 : RelR' (zup (cpR P 9 0 258) 374 1 0) 0 (X 9) := by
      refine RelR'_shift (o := 2322) hW9.1 (fun j hj => ?_) (i5 hs)
      have := cpR_to P 9 0 j hj
      rw [zup_ne _ _ _ (by omega), show 0 + j = 258 * 0 + j by omega, this]
    simp only [↓e181, ↓e181_0, ↓e181_1, ↓e181_4, ↓e181_7, ↓e181_9, ↓e181_10, ↓e181_11, ↓e181_13, ↓e181_14, ↓e181_17, ↓e181_18, ↓e181_19, ↓e181_22, ↓e181_23, ↓e181_26, znl_i, znl_r, znl_n, zcs_0, zcs_1, zcs_2, zcs_3, zcat_0, zcat_1, zcat_2, zcat_3, zbl_0, zbl_1, true_and, and_true, ↓zret_some, ↓zret_none, Nat.reduceAdd, Nat.reduceLeDiff, Nat.reduceMul, eq_self, Int.reduceToNat, Int.reduceLE, Int.reduceLT, Int.reduceNeg, and_self, zrg, zkc_0, zin_1, zin_2, zin_3, zin_4, zin_5, zin_6, zin_7, zin_8, zin_9, zaa_9, zkc_10, zin_11, zin_12, zkc_13, zin_14, zin_15, zkc_16, zin_17, zin_18, zkc_19, zin_20, zin_21, zin_22, zin_23, zin_24, zin_25, zin_26, zin_27, zin_28, zaa_28, zkc_29, zin_30, zin_31, zkc_32, zin_33, zin_34, zkc_35, zin_36, zin_37, zkc_38, zin_39, zin_40, zin_41, zin_42, zin_43, zin_44, zin_45, zin_46, zin_47, zaa_47, zkc_48, zin_49, zin_50, zkc_51, zin_52, zin_53, zkc_54, zin_55, zin_56, zkc_209, zkc_210, zin_211, zaa_211, zkc_212, zin_213, zkc_214, zkc_215, zin_216, zin_217, zkc_218, zin_219, zin_220, zin_221, zkc_222, zin_223, zaa_223, zin_224, zin_225, zkc_226, zin_227, zin_228, zin_229, zin_230, zin_231, zin_232, zkc_233, zin_234, zaa_234, zin_235, zin_236, zin_237, zin_238, zin_239, zin_240, zin_241, zin_242, zin_243, zin_244, zin_245, zin_246, zin_247, zin_248, zin_249, zin_250, zkc_251, zin_252, zin_253, zkc_374, zin_375, zin_376, zin_377, zin_378, zin_379, zin_380, zin_381, zin_382, zin_383, zin_384, zin_385, zin_386, zin_387, i4, hs, show ¬ (1 : Int) = 0 by omega, ne_eq, not_false_eq_true, ↓reduceIte, ↓hcp, ↓s_members (d + 6) _ _ (X 9) hR0.1 hW9.1]
    refine JE_i (X := und X) (IC_cong (fun b hb => gb b (by omega) (by omega)) hC2) ⟨?_, ?_, fun k k1 k2 => ?_, ?_, fun z => ?_, ?_, fun j hj => ?_, ?_, fun z => ?_⟩ ?_
    · rw [p0]; exact hR0
    · rw [p100, zup_at]
    · rw [p100] at k2; omega
    · rw [p10o 0 1 (by omega), g4 2 (by omega)]; exact i4
    · rw [po 9 (by omega) (by omega)]
      exact RelR'_shift hW9.1 (fun j hj => g5 _ (by omega)) (i5 hs)
    · rw [p10o 0 2 (by omega), g4 15 (by omega)]; exact i6
    · rw [p10o 0 2 (by omega)] at hj
      rw [p10o 1 j (by omega), gb 385 (by omega) (by omega)]; exact i7 j hj
    · rw [p10o 0 3 (by omega), g4 21 (by omega)]; exact i8
    · rw [p10o 0 3 (by omega)] at z
      rw [p10o 0 4 (by omega), g4 22 (by omega)]; exact i9 z
    · unfold WX
      rw [p0, po 9 (by omega) (by omega), p100, p10o 0 1 (by omega), p10o 0 2 (by omega), p10o 0 3 (by omega)]
      exact ⟨hW9, by omega, fun k k1 k2 => by omega, Or.inr hs, fun _ => hW9, w6, fun j hj => by rw [p10o 1 j (by omega)]; exact w7 j hj, w8⟩
def shs (S : zM) : Nat → Int
  | 0 => 0
  | k + 1 => zor (shs S k) (if 0 < S (9 + k) 0 then zshl 1 (k : Int) else 0)
theorem zor8 : ∀ x : Nat, x < 8 → zor (x : Int) 0 = (x : Int) := by decide +kernel
theorem zor8b : ∀ x : Nat, x < 8 → ∀ k : Nat, k < 3 → (0 ≤ zor (x : Int) (zshl 1 (k : Int)) ∧ zor (x : Int) (zshl 1 (k : Int)) < 8) := by decide +kernel
theorem shs_rng (S : zM) : ∀ k : Nat, k ≤ 3 → 0 ≤ shs S k ∧ shs S k < 8
  | 0, _ => ⟨Int.le_refl 0, by show (0 : Int) < 8; omega⟩
  | k + 1, h => by
    obtain ⟨h1, h2⟩ := shs_rng S k (by omega)
    obtain ⟨x, hx⟩ : ∃ x : Nat, shs S k = x := ⟨(shs S k).toNat, by omega⟩
    unfold shs
    rw [hx]
    split
    · exact zor8b x (by omega) k (by omega)
    · rw [zor8 x (by omega)]; omega
theorem zor_0 {S : zM} {k : Nat} (h : k ≤ 3) : zor (shs S k) 0 = shs S k := by
  obtain ⟨h1, h2⟩ := shs_rng S k h
  obtain ⟨x, hx⟩ : ∃ x : Nat, shs S k = x := ⟨(shs S k).toNat, by omega⟩
  rw [hx]
  exact zor8 x (by omega)
theorem s_shapeSet (d : Nat) (Q : zQ) (M S : zM) (hR : RelC M 0 S) (hW : WfS S) : Sp (d + 1) 58 [.inr (.inr 0)] M Q = Q (some (.inl (shs S 3))) M := by
  have loop : ∀ q k : Nat, k + q = 3 → RT (Sp d) 58 Q 4 [some (.inr (.inr 0)), some (.inl (shs S k)), some (.inl (k : Int))] [] M = Q (some (.inl (shs S 3))) M := by
    intro q
    induction q with
    | zero =>
      intro k hk
      obtain rfl : k = 3 := by omega
      rw [e58_4]
      simp only [↓e58, ↓e58_0, ↓e58_1, ↓e58_2, ↓e58_3, ↓e58_5, ↓e58_6, ↓e58_9, ↓e58_10, ↓e58_13, ↓e58_14, ↓e58_15, ↓e58_18, ↓e58_21, ↓e58_22, ↓e58_23, ↓e58_24, ↓e58_25, ↓e58_26, ↓e58_27, ↓e58_30, ↓e58_33, ↓e58_34, znl_i, znl_r, znl_n, zcs_0, zcs_1, zcs_2, zcs_3, zcat_0, zcat_1, zcat_2, zcat_3, zbl_0, zbl_1, true_and, and_true, ↓zret_some, ↓zret_none, Nat.reduceAdd, Nat.reduceLeDiff, Nat.reduceMul, eq_self, Int.reduceToNat, Int.reduceLE, Int.reduceLT, Int.reduceNeg, and_self, zrg, Int.cast_ofNat_Int, ge_iff_le, Int.le_refl, ↓reduceIte]
    | succ q ih =>
      intro k hk
      have hk0 : 0 ≤ (k : Int) ∧ (k : Int) < 3 := ⟨by omega, by omega⟩
      have hk1 : ¬ (k : Int) ≥ 3 := by omega
      have hk2 : -2147483648 ≤ (k : Int) ∧ (k : Int) < 2147483648 := ⟨by omega, by omega⟩
      have hs := (hR.2.2.2.2.2.2.2.2.2.2.2 k (by omega)).1
      simp only [Nat.zero_add] at hs
      have hw := hW.2.2.2.2.2.2.2.2.2 k (by omega)
      have hsr : -2147483648 ≤ S (9 + k) 0 ∧ S (9 + k) 0 < 2147483648 := by omega
      have hzk : zkc (10 + 3 * k) = 5 := by have := zkcWS (a := 0) (j := k) zkc_0 (by omega); simpa using this
      have h9 := ih (k + 1) (by omega)
      have hd : shs S (k + 1) = zor (shs S k) (if 0 < S (9 + k) 0 then zshl 1 (k : Int) else 0) := rfl
      rw [hd] at h9
      rw [e58_4]
      simp only [↓e58, ↓e58_0, ↓e58_1, ↓e58_2, ↓e58_3, ↓e58_5, ↓e58_6, ↓e58_9, ↓e58_10, ↓e58_13, ↓e58_14, ↓e58_15, ↓e58_18, ↓e58_21, ↓e58_22, ↓e58_23, ↓e58_24, ↓e58_25, ↓e58_26, ↓e58_27, ↓e58_30, ↓e58_33, ↓e58_34, znl_i, znl_r, znl_n, zcs_0, zcs_1, zcs_2, zcs_3, zcat_0, zcat_1, zcat_2, zcat_3, zbl_0, zbl_1, true_and, and_true, ↓zret_some, ↓zret_none, Nat.reduceAdd, Nat.reduceLeDiff, Nat.reduceMul, eq_self, Int.reduceToNat, Int.reduceLE, Int.reduceLT, Int.reduceNeg, and_self, zrg, zkc_0, zin_1, zin_2, zin_3, zin_4, zin_5, zin_6, zin_7, zin_8, zin_9, zaa_9, zkc_10, zin_11, zin_12, zkc_13, zin_14, zin_15, zkc_16, zin_17, zin_18, zkc_19, zin_20, zin_21, zin_22, zin_23, zin_24, zin_25, zin_26, zin_27, zin_28, zaa_28, zkc_29, zin_30, zin_31, zkc_32, zin_33, zin_34, zkc_35, zin_36, zin_37, zkc_38, zin_39, zin_40, zin_41, zin_42, zin_43, zin_44, zin_45, zin_46, zin_47, zaa_47, zkc_48, zin_49, zin_50, zkc_51, zin_52, zin_53, zkc_54, zin_55, zin_56, zkc_209, zkc_210, zin_211, zaa_211, zkc_212, zin_213, zkc_214, zkc_215, zin_216, zin_217, zkc_218, zin_219, zin_220, zin_221, zkc_222, zin_223, zaa_223, zin_224, zin_225, zkc_226, zin_227, zin_228, zin_229, zin_230, zin_231, zin_232, zkc_233, zin_234, zaa_234, zin_235, zin_236, zin_237, zin_238, zin_239, zin_240, zin_241, zin_242, zin_243, zin_244, zin_245, zin_246, zin_247, zin_248, zin_249, zin_250, zkc_251, zin_252, zin_253, zkc_374, zin_375, zin_376, zin_377, zin_378, zin_379, zin_380, zin_381, zin_382, zin_383, zin_384, zin_385, zin_386, zin_387, hk0, hk1, hk2, ↓reduceIte, Int.toNat_natCast, hzk, hs, hsr]
      rw [show ((k : Int) + 1) = ((k + 1 : Nat) : Int) by omega]
      by_cases c : S (9 + k) 0 ≤ 0
      · rw [if_neg (show ¬ 0 < S (9 + k) 0 by omega), zor_0 (by omega)] at h9
        rw [if_pos c]
        exact h9
      · rw [if_pos (show 0 < S (9 + k) 0 by omega)] at h9
        rw [if_neg c]
        exact h9
  have h9 := loop 3 0 rfl
  simp only [↓e58, ↓e58_0, ↓e58_1, ↓e58_2, ↓e58_3, ↓e58_5, ↓e58_6, ↓e58_9, ↓e58_10, ↓e58_13, ↓e58_14, ↓e58_15, ↓e58_18, ↓e58_21, ↓e58_22, ↓e58_23, ↓e58_24, ↓e58_25, ↓e58_26, ↓e58_27, ↓e58_30, ↓e58_33, ↓e58_34, znl_i, znl_r, znl_n, zcs_0, zcs_1, zcs_2, zcs_3, zcat_0, zcat_1, zcat_2, zcat_3, zbl_0, zbl_1, true_and, and_true, ↓zret_some, ↓zret_none, Nat.reduceAdd, Nat.reduceLeDiff, Nat.reduceMul, eq_self, Int.reduceToNat, Int.reduceLE, Int.reduceLT, Int.reduceNeg, and_self]
  exact h9
theorem j_count (d : Nat) (B : Int) (X : zX) (M : zM) (x : Int) (hx : zrg x) (hC : IC X M) (hI : IR X M) (hX : WX B X) : Jt d B 91 182 [.inl x] M := by
  have hW := hX.1.1
  have hx' := hx
  simp only [zrg] at hx'
  have hti := fun Q P => s_in (d + 8) Q P x 0 2 hx ⟨by omega, by omega⟩ ⟨by omega, by omega⟩
  obtain ⟨c1, c2, ⟨nx, p1, p2, p3, p4⟩, q1, q2, q3, q4, q5, q6⟩ := id hC
  obtain ⟨h1, i2, i3, i4, i5, i6, i7, i8, i9⟩ := id hI
  unfold Jt
  by_cases hin : 0 ≤ x ∧ x ≤ 2
  · simp only [show zb (0 ≤ x ∧ x ≤ 2) = 1 from if_pos hin] at hti
    have refr : ∀ a, a = (if x = 0 then X 10 0 2 else if x = 1 then X 10 0 0 else shs (X 0) 3) → JC d B 182 [.inl x] (some (.inl a)) M := by
      intro a ha
      refine JC_i ?_
      have loop : ∀ q k : Nat, k + q = 3 → RT (Sp (d + 9)) 182 (JE B a) 15 [some (.inr (.inr 374)), some (.inl x), some (.inl (shs (X 0) k)), some (.inl (k : Int))] [] M := by
        intro q
        induction q with
        | zero =>
          intro k hk
          obtain rfl : k = 3 := by omega
          rw [e182_15]
          simp only [↓e182, ↓e182_0, ↓e182_1, ↓e182_2, ↓e182_3, ↓e182_6, ↓e182_9, ↓e182_10, ↓e182_11, ↓e182_12, ↓e182_13, ↓e182_14, ↓e182_16, ↓e182_17, ↓e182_20, ↓e182_21, ↓e182_22, ↓e182_23, ↓e182_26, ↓e182_29, ↓e182_30, ↓e182_31, ↓e182_32, ↓e182_35, ↓e182_36, ↓e182_37, ↓e182_38, ↓e182_41, ↓e182_44, ↓e182_45, ↓e182_48, ↓e182_49, ↓e182_52, ↓e182_55, ↓e182_56, ↓e182_57, ↓e182_60, ↓e182_61, ↓e182_64, ↓e182_67, ↓e182_68, znl_i, znl_r, znl_n, zcs_0, zcs_1, zcs_2, zcs_3, zcat_0, zcat_1, zcat_2, zcat_3, zbl_0, zbl_1, true_and, and_true, ↓zret_some, ↓zret_none, Nat.reduceAdd, Nat.reduceLeDiff, Nat.reduceMul, eq_self, Int.reduceToNat, Int.reduceLE, Int.reduceLT, Int.reduceNeg, and_self, zrg, zkc_0, zin_1, zin_2, zin_3, zin_4, zin_5, zin_6, zin_7, zin_8, zin_9, zaa_9, zkc_10, zin_11, zin_12, zkc_13, zin_14, zin_15, zkc_16, zin_17, zin_18, zkc_19, zin_20, zin_21, zin_22, zin_23, zin_24, zin_25, zin_26, zin_27, zin_28, zaa_28, zkc_29, zin_30, zin_31, zkc_32, zin_33, zin_34, zkc_35, zin_36, zin_37, zkc_38, zin_39, zin_40, zin_41, zin_42, zin_43, zin_44, zin_45, zin_46, zin_47, zaa_47, zkc_48, zin_49, zin_50, zkc_51, zin_52, zin_53, zkc_54, zin_55, zin_56, zkc_209, zkc_210, zin_211, zaa_211, zkc_212, zin_213, zkc_214, zkc_215, zin_216, zin_217, zkc_218, zin_219, zin_220, zin_221, zkc_222, zin_223, zaa_223, zin_224, zin_225, zkc_226, zin_227, zin_228, zin_229, zin_230, zin_231, zin_232, zkc_233, zin_234, zaa_234, zin_235, zin_236, zin_237, zin_238, zin_239, zin_240, zin_241, zin_242, zin_243, zin_244, zin_245, zin_246, zin_247, zin_248, zin_249, zin_250, zkc_251, zin_252, zin_253, zkc_374, zin_375, zin_376, zin_377, zin_378, zin_379, zin_380, zin_381, zin_382, zin_383, zin_384, zin_385, zin_386, zin_387, Int.cast_ofNat_Int, ge_iff_le, Int.le_refl, ↓reduceIte, hx', i6, i2, ne_eq, ite_not]
          by_cases c1 : x = 0
          · rw [if_pos c1] at ha ⊢
            subst ha
            exact JE_i hC hI hX
          · rw [if_neg c1] at ha ⊢
            by_cases c2 : x = 1
            · rw [if_pos c2] at ha ⊢
              subst ha
              exact JE_i hC hI hX
            · rw [if_neg c2] at ha ⊢
              subst ha
              exact JE_i hC hI hX
        | succ q ih =>
          intro k hk
          have hk1 : ¬ (k : Int) ≥ 3 := by omega
          have hk2 : -2147483648 ≤ (k : Int) ∧ (k : Int) < 2147483648 := ⟨by omega, by omega⟩
          have hs := (h1.1.2.2.2.2 k (by omega)).1
          simp only [Nat.zero_add] at hs
          have hw := hW.2.2.2.2.2.2.2.2.2 k (by omega)
          have hsr : -2147483648 ≤ X 0 (9 + k) 0 ∧ X 0 (9 + k) 0 < 2147483648 := by omega
          have h9 := ih (k + 1) (by omega)
          have hd : shs (X 0) (k + 1) = zor (shs (X 0) k) (if 0 < X 0 (9 + k) 0 then zshl 1 (k : Int) else 0) := rfl
          rw [hd] at h9
          rw [e182_15]
          simp only [↓e182, ↓e182_0, ↓e182_1, ↓e182_2, ↓e182_3, ↓e182_6, ↓e182_9, ↓e182_10, ↓e182_11, ↓e182_12, ↓e182_13, ↓e182_14, ↓e182_16, ↓e182_17, ↓e182_20, ↓e182_21, ↓e182_22, ↓e182_23, ↓e182_26, ↓e182_29, ↓e182_30, ↓e182_31, ↓e182_32, ↓e182_35, ↓e182_36, ↓e182_37, ↓e182_38, ↓e182_41, ↓e182_44, ↓e182_45, ↓e182_48, ↓e182_49, ↓e182_52, ↓e182_55, ↓e182_56, ↓e182_57, ↓e182_60, ↓e182_61, ↓e182_64, ↓e182_67, ↓e182_68, znl_i, znl_r, znl_n, zcs_0, zcs_1, zcs_2, zcs_3, zcat_0, zcat_1, zcat_2, zcat_3, zbl_0, zbl_1, true_and, and_true, ↓zret_some, ↓zret_none, Nat.reduceAdd, Nat.reduceLeDiff, Nat.reduceMul, eq_self, Int.reduceToNat, Int.reduceLE, Int.reduceLT, Int.reduceNeg, and_self, zrg, zkc_0, zin_1, zin_2, zin_3, zin_4, zin_5, zin_6, zin_7, zin_8, zin_9, zaa_9, zkc_10, zin_11, zin_12, zkc_13, zin_14, zin_15, zkc_16, zin_17, zin_18, zkc_19, zin_20, zin_21, zin_22, zin_23, zin_24, zin_25, zin_26, zin_27, zin_28, zaa_28, zkc_29, zin_30, zin_31, zkc_32, zin_33, zin_34, zkc_35, zin_36, zin_37, zkc_38, zin_39, zin_40, zin_41, zin_42, zin_43, zin_44, zin_45, zin_46, zin_47, zaa_47, zkc_48, zin_49, zin_50, zkc_51, zin_52, zin_53, zkc_54, zin_55, zin_56, zkc_209, zkc_210, zin_211, zaa_211, zkc_212, zin_213, zkc_214, zkc_215, zin_216, zin_217, zkc_218, zin_219, zin_220, zin_221, zkc_222, zin_223, zaa_223, zin_224, zin_225, zkc_226, zin_227, zin_228, zin_229, zin_230, zin_231, zin_232, zkc_233, zin_234, zaa_234, zin_235, zin_236, zin_237, zin_238, zin_239, zin_240, zin_241, zin_242, zin_243, zin_244, zin_245, zin_246, zin_247, zin_248, zin_249, zin_250, zkc_251, zin_252, zin_253, zkc_374, zin_375, zin_376, zin_377, zin_378, zin_379, zin_380, zin_381, zin_382, zin_383, zin_384, zin_385, zin_386, zin_387, hk1, hk2, ↓reduceIte, ↓s_slots (d + 7) _ M k (show k < 3 by omega), hs, hsr]
          rw [show ((k : Int) + 1) = ((k + 1 : Nat) : Int) by omega]
          by_cases c : X 0 (9 + k) 0 ≤ 0
          · rw [if_neg (show ¬ 0 < X 0 (9 + k) 0 by omega)] at h9
            rw [if_pos c]
            exact h9
          · rw [if_pos (show 0 < X 0 (9 + k) 0 by omega)] at h9
            rw [if_neg c]
            exact h9
      have h9 := loop 3 0 rfl
      simp only [↓e182, ↓e182_0, ↓e182_1, ↓e182_2, ↓e182_3, ↓e182_6, ↓e182_9, ↓e182_10, ↓e182_11, ↓e182_12, ↓e182_13, ↓e182_14, ↓e182_16, ↓e182_17, ↓e182_20, ↓e182_21, ↓e182_22, ↓e182_23, ↓e182_26, ↓e182_29, ↓e182_30, ↓e182_31, ↓e182_32, ↓e182_35, ↓e182_36, ↓e182_37, ↓e182_38, ↓e182_41, ↓e182_44, ↓e182_45, ↓e182_48, ↓e182_49, ↓e182_52, ↓e182_55, ↓e182_56, ↓e182_57, ↓e182_60, ↓e182_61, ↓e182_64, ↓e182_67, ↓e182_68, znl_i, znl_r, znl_n, zcs_0, zcs_1, zcs_2, zcs_3, zcat_0, zcat_1, zcat_2, zcat_3, zbl_0, zbl_1, true_and, and_true, ↓zret_some, ↓zret_none, Nat.reduceAdd, Nat.reduceLeDiff, Nat.reduceMul, eq_self, Int.reduceToNat, Int.reduceLE, Int.reduceLT, Int.reduceNeg, and_self, zrg, zkc_0, zin_1, zin_2, zin_3, zin_4, zin_5, zin_6, zin_7, zin_8, zin_9, zaa_9, zkc_10, zin_11, zin_12, zkc_13, zin_14, zin_15, zkc_16, zin_17, zin_18, zkc_19, zin_20, zin_21, zin_22, zin_23, zin_24, zin_25, zin_26, zin_27, zin_28, zaa_28, zkc_29, zin_30, zin_31, zkc_32, zin_33, zin_34, zkc_35, zin_36, zin_37, zkc_38, zin_39, zin_40, zin_41, zin_42, zin_43, zin_44, zin_45, zin_46, zin_47, zaa_47, zkc_48, zin_49, zin_50, zkc_51, zin_52, zin_53, zkc_54, zin_55, zin_56, zkc_209, zkc_210, zin_211, zaa_211, zkc_212, zin_213, zkc_214, zkc_215, zin_216, zin_217, zkc_218, zin_219, zin_220, zin_221, zkc_222, zin_223, zaa_223, zin_224, zin_225, zkc_226, zin_227, zin_228, zin_229, zin_230, zin_231, zin_232, zkc_233, zin_234, zaa_234, zin_235, zin_236, zin_237, zin_238, zin_239, zin_240, zin_241, zin_242, zin_243, zin_244, zin_245, zin_246, zin_247, zin_248, zin_249, zin_250, zkc_251, zin_252, zin_253, zkc_374, zin_375, zin_376, zin_377, zin_378, zin_379, zin_380, zin_381, zin_382, zin_383, zin_384, zin_385, zin_386, zin_387, ↓hti, show ¬ (1 : Int) = 0 by omega, ne_eq, not_false_eq_true, ↓reduceIte]
      exact h9
    by_cases e0 : x = 0
    · simp only [↓e91, ↓e91_0, ↓e91_1, ↓e91_28, ↓e91_29, ↓e91_32, ↓e91_35, ↓e91_36, ↓e91_37, ↓e91_40, ↓e91_43, ↓e91_44, ↓e91_45, ↓e91_48, ↓e91_51, ↓e91_52, ↓e91_53, znl_i, znl_r, znl_n, zcs_0, zcs_1, zcs_2, zcs_3, zcat_0, zcat_1, zcat_2, zcat_3, zbl_0, zbl_1, true_and, and_true, ↓zret_some, ↓zret_none, Nat.reduceAdd, Nat.reduceLeDiff, Nat.reduceMul, eq_self, Int.reduceToNat, Int.reduceLE, Int.reduceLT, Int.reduceNeg, and_self, zrg, zkc_0, zin_1, zin_2, zin_3, zin_4, zin_5, zin_6, zin_7, zin_8, zin_9, zaa_9, zkc_10, zin_11, zin_12, zkc_13, zin_14, zin_15, zkc_16, zin_17, zin_18, zkc_19, zin_20, zin_21, zin_22, zin_23, zin_24, zin_25, zin_26, zin_27, zin_28, zaa_28, zkc_29, zin_30, zin_31, zkc_32, zin_33, zin_34, zkc_35, zin_36, zin_37, zkc_38, zin_39, zin_40, zin_41, zin_42, zin_43, zin_44, zin_45, zin_46, zin_47, zaa_47, zkc_48, zin_49, zin_50, zkc_51, zin_52, zin_53, zkc_54, zin_55, zin_56, zkc_209, zkc_210, zin_211, zaa_211, zkc_212, zin_213, zkc_214, zkc_215, zin_216, zin_217, zkc_218, zin_219, zin_220, zin_221, zkc_222, zin_223, zaa_223, zin_224, zin_225, zkc_226, zin_227, zin_228, zin_229, zin_230, zin_231, zin_232, zkc_233, zin_234, zaa_234, zin_235, zin_236, zin_237, zin_238, zin_239, zin_240, zin_241, zin_242, zin_243, zin_244, zin_245, zin_246, zin_247, zin_248, zin_249, zin_250, zkc_251, zin_252, zin_253, zkc_374, zin_375, zin_376, zin_377, zin_378, zin_379, zin_380, zin_381, zin_382, zin_383, zin_384, zin_385, zin_386, zin_387, hx', e0, ↓reduceIte, q3]
      rw [e0] at refr
      exact refr _ rfl
    · by_cases e1 : x = 1
      · simp only [↓e91, ↓e91_0, ↓e91_1, ↓e91_28, ↓e91_29, ↓e91_32, ↓e91_35, ↓e91_36, ↓e91_37, ↓e91_40, ↓e91_43, ↓e91_44, ↓e91_45, ↓e91_48, ↓e91_51, ↓e91_52, ↓e91_53, znl_i, znl_r, znl_n, zcs_0, zcs_1, zcs_2, zcs_3, zcat_0, zcat_1, zcat_2, zcat_3, zbl_0, zbl_1, true_and, and_true, ↓zret_some, ↓zret_none, Nat.reduceAdd, Nat.reduceLeDiff, Nat.reduceMul, eq_self, Int.reduceToNat, Int.reduceLE, Int.reduceLT, Int.reduceNeg, and_self, zrg, zkc_0, zin_1, zin_2, zin_3, zin_4, zin_5, zin_6, zin_7, zin_8, zin_9, zaa_9, zkc_10, zin_11, zin_12, zkc_13, zin_14, zin_15, zkc_16, zin_17, zin_18, zkc_19, zin_20, zin_21, zin_22, zin_23, zin_24, zin_25, zin_26, zin_27, zin_28, zaa_28, zkc_29, zin_30, zin_31, zkc_32, zin_33, zin_34, zkc_35, zin_36, zin_37, zkc_38, zin_39, zin_40, zin_41, zin_42, zin_43, zin_44, zin_45, zin_46, zin_47, zaa_47, zkc_48, zin_49, zin_50, zkc_51, zin_52, zin_53, zkc_54, zin_55, zin_56, zkc_209, zkc_210, zin_211, zaa_211, zkc_212, zin_213, zkc_214, zkc_215, zin_216, zin_217, zkc_218, zin_219, zin_220, zin_221, zkc_222, zin_223, zaa_223, zin_224, zin_225, zkc_226, zin_227, zin_228, zin_229, zin_230, zin_231, zin_232, zkc_233, zin_234, zaa_234, zin_235, zin_236, zin_237, zin_238, zin_239, zin_240, zin_241, zin_242, zin_243, zin_244, zin_245, zin_246, zin_247, zin_248, zin_249, zin_250, zkc_251, zin_252, zin_253, zkc_374, zin_375, zin_376, zin_377, zin_378, zin_379, zin_380, zin_381, zin_382, zin_383, zin_384, zin_385, zin_386, zin_387, hx', e0, e1, show ¬ (1 : Int) = 0 by omega, ↓reduceIte, p3]
        rw [e1] at refr
        exact refr _ rfl
      · have e2 : x = 2 := by omega
        simp only [↓e91, ↓e91_0, ↓e91_1, ↓e91_28, ↓e91_29, ↓e91_32, ↓e91_35, ↓e91_36, ↓e91_37, ↓e91_40, ↓e91_43, ↓e91_44, ↓e91_45, ↓e91_48, ↓e91_51, ↓e91_52, ↓e91_53, znl_i, znl_r, znl_n, zcs_0, zcs_1, zcs_2, zcs_3, zcat_0, zcat_1, zcat_2, zcat_3, zbl_0, zbl_1, true_and, and_true, ↓zret_some, ↓zret_none, Nat.reduceAdd, Nat.reduceLeDiff, Nat.reduceMul, eq_self, Int.reduceToNat, Int.reduceLE, Int.reduceLT, Int.reduceNeg, and_self, zrg, zkc_0, zin_1, zin_2, zin_3, zin_4, zin_5, zin_6, zin_7, zin_8, zin_9, zaa_9, zkc_10, zin_11, zin_12, zkc_13, zin_14, zin_15, zkc_16, zin_17, zin_18, zkc_19, zin_20, zin_21, zin_22, zin_23, zin_24, zin_25, zin_26, zin_27, zin_28, zaa_28, zkc_29, zin_30, zin_31, zkc_32, zin_33, zin_34, zkc_35, zin_36, zin_37, zkc_38, zin_39, zin_40, zin_41, zin_42, zin_43, zin_44, zin_45, zin_46, zin_47, zaa_47, zkc_48, zin_49, zin_50, zkc_51, zin_52, zin_53, zkc_54, zin_55, zin_56, zkc_209, zkc_210, zin_211, zaa_211, zkc_212, zin_213, zkc_214, zkc_215, zin_216, zin_217, zkc_218, zin_219, zin_220, zin_221, zkc_222, zin_223, zaa_223, zin_224, zin_225, zkc_226, zin_227, zin_228, zin_229, zin_230, zin_231, zin_232, zkc_233, zin_234, zaa_234, zin_235, zin_236, zin_237, zin_238, zin_239, zin_240, zin_241, zin_242, zin_243, zin_244, zin_245, zin_246, zin_247, zin_248, zin_249, zin_250, zkc_251, zin_252, zin_253, zkc_374, zin_375, zin_376, zin_377, zin_378, zin_379, zin_380, zin_381, zin_382, zin_383, zin_384, zin_385, zin_386, zin_387, hx', e2, show ¬ (2 : Int) = 0 by omega, show ¬ (2 : Int) = 1 by omega, ↓reduceIte, ↓s_shapeSet (d + 8) _ M (X 0) c1 hW]
        rw [e2] at refr
        exact refr _ rfl
  · simp only [show zb (0 ≤ x ∧ x ≤ 2) = 0 from if_neg hin] at hti
    simp only [↓e91, ↓e91_0, ↓e91_1, ↓e91_28, ↓e91_29, ↓e91_32, ↓e91_35, ↓e91_36, ↓e91_37, ↓e91_40, ↓e91_43, ↓e91_44, ↓e91_45, ↓e91_48, ↓e91_51, ↓e91_52, ↓e91_53, znl_i, znl_r, znl_n, zcs_0, zcs_1, zcs_2, zcs_3, zcat_0, zcat_1, zcat_2, zcat_3, zbl_0, zbl_1, true_and, and_true, ↓zret_some, ↓zret_none, Nat.reduceAdd, Nat.reduceLeDiff, Nat.reduceMul, eq_self, Int.reduceToNat, Int.reduceLE, Int.reduceLT, Int.reduceNeg, and_self, zrg, zkc_0, zin_1, zin_2, zin_3, zin_4, zin_5, zin_6, zin_7, zin_8, zin_9, zaa_9, zkc_10, zin_11, zin_12, zkc_13, zin_14, zin_15, zkc_16, zin_17, zin_18, zkc_19, zin_20, zin_21, zin_22, zin_23, zin_24, zin_25, zin_26, zin_27, zin_28, zaa_28, zkc_29, zin_30, zin_31, zkc_32, zin_33, zin_34, zkc_35, zin_36, zin_37, zkc_38, zin_39, zin_40, zin_41, zin_42, zin_43, zin_44, zin_45, zin_46, zin_47, zaa_47, zkc_48, zin_49, zin_50, zkc_51, zin_52, zin_53, zkc_54, zin_55, zin_56, zkc_209, zkc_210, zin_211, zaa_211, zkc_212, zin_213, zkc_214, zkc_215, zin_216, zin_217, zkc_218, zin_219, zin_220, zin_221, zkc_222, zin_223, zaa_223, zin_224, zin_225, zkc_226, zin_227, zin_228, zin_229, zin_230, zin_231, zin_232, zkc_233, zin_234, zaa_234, zin_235, zin_236, zin_237, zin_238, zin_239, zin_240, zin_241, zin_242, zin_243, zin_244, zin_245, zin_246, zin_247, zin_248, zin_249, zin_250, zkc_251, zin_252, zin_253, zkc_374, zin_375, zin_376, zin_377, zin_378, zin_379, zin_380, zin_381, zin_382, zin_383, zin_384, zin_385, zin_386, zin_387, hx', show ¬ x = 0 by omega, show ¬ x = 1 by omega, show ¬ x = 2 by omega, ↓reduceIte]
    refine JC_i ?_
    simp only [↓e182, ↓e182_0, ↓e182_1, ↓e182_2, ↓e182_3, ↓e182_6, ↓e182_9, ↓e182_10, ↓e182_11, ↓e182_12, ↓e182_13, ↓e182_14, ↓e182_15, ↓e182_16, ↓e182_17, ↓e182_20, ↓e182_21, ↓e182_22, ↓e182_23, ↓e182_26, ↓e182_29, ↓e182_30, ↓e182_31, ↓e182_32, ↓e182_35, ↓e182_36, ↓e182_37, ↓e182_38, ↓e182_41, ↓e182_44, ↓e182_45, ↓e182_48, ↓e182_49, ↓e182_52, ↓e182_55, ↓e182_56, ↓e182_57, ↓e182_60, ↓e182_61, ↓e182_64, ↓e182_67, ↓e182_68, znl_i, znl_r, znl_n, zcs_0, zcs_1, zcs_2, zcs_3, zcat_0, zcat_1, zcat_2, zcat_3, zbl_0, zbl_1, true_and, and_true, ↓zret_some, ↓zret_none, Nat.reduceAdd, Nat.reduceLeDiff, Nat.reduceMul, eq_self, Int.reduceToNat, Int.reduceLE, Int.reduceLT, Int.reduceNeg, and_self, zrg, zkc_0, zin_1, zin_2, zin_3, zin_4, zin_5, zin_6, zin_7, zin_8, zin_9, zaa_9, zkc_10, zin_11, zin_12, zkc_13, zin_14, zin_15, zkc_16, zin_17, zin_18, zkc_19, zin_20, zin_21, zin_22, zin_23, zin_24, zin_25, zin_26, zin_27, zin_28, zaa_28, zkc_29, zin_30, zin_31, zkc_32, zin_33, zin_34, zkc_35, zin_36, zin_37, zkc_38, zin_39, zin_40, zin_41, zin_42, zin_43, zin_44, zin_45, zin_46, zin_47, zaa_47, zkc_48, zin_49, zin_50, zkc_51, zin_52, zin_53, zkc_54, zin_55, zin_56, zkc_209, zkc_210, zin_211, zaa_211, zkc_212, zin_213, zkc_214, zkc_215, zin_216, zin_217, zkc_218, zin_219, zin_220, zin_221, zkc_222, zin_223, zaa_223, zin_224, zin_225, zkc_226, zin_227, zin_228, zin_229, zin_230, zin_231, zin_232, zkc_233, zin_234, zaa_234, zin_235, zin_236, zin_237, zin_238, zin_239, zin_240, zin_241, zin_242, zin_243, zin_244, zin_245, zin_246, zin_247, zin_248, zin_249, zin_250, zkc_251, zin_252, zin_253, zkc_374, zin_375, zin_376, zin_377, zin_378, zin_379, zin_380, zin_381, zin_382, zin_383, zin_384, zin_385, zin_386, zin_387, ↓hti, ne_eq, not_true_eq_false, ↓reduceIte]
    exact JE_i hC hI hX
/-- the reference's distance: from the other cell, which is the same -/
theorem s_distanceOf (d : Nat) (Q : zQ) (M S : zM) (p c : Nat) (hp : p < 120) (hc : c < 120) (hR : RelR M 0 S) (hW : WfS S) (hQ : ∀ N, (∀ b, b ≠ 376 → b ≠ 377 → N b = M b) → Q (some (.inl (dst (S 0) p c))) N) : Sp (d + 4) 125 [.inr (.inr 374), .inl (p : Int), .inl (c : Int)] M Q := by
  simp only [↓e125, ↓e125_0, ↓e125_1, ↓e125_3, ↓e125_4, ↓e125_7, ↓e125_8, ↓e125_11, ↓e125_14, ↓e125_15, ↓e125_16, ↓e125_17, znl_i, znl_r, znl_n, zcs_0, zcs_1, zcs_2, zcs_3, zcat_0, zcat_1, zcat_2, zcat_3, zbl_0, zbl_1, true_and, and_true, ↓zret_some, ↓zret_none, Nat.reduceAdd, Nat.reduceLeDiff, Nat.reduceMul, eq_self, Int.reduceToNat, Int.reduceLE, Int.reduceLT, Int.reduceNeg, and_self, zkc_0, zin_1, zin_2, zin_3, zin_4, zin_5, zin_6, zin_7, zin_8, zin_9, zaa_9, zkc_10, zin_11, zin_12, zkc_13, zin_14, zin_15, zkc_16, zin_17, zin_18, zkc_19, zin_20, zin_21, zin_22, zin_23, zin_24, zin_25, zin_26, zin_27, zin_28, zaa_28, zkc_29, zin_30, zin_31, zkc_32, zin_33, zin_34, zkc_35, zin_36, zin_37, zkc_38, zin_39, zin_40, zin_41, zin_42, zin_43, zin_44, zin_45, zin_46, zin_47, zaa_47, zkc_48, zin_49, zin_50, zkc_51, zin_52, zin_53, zkc_54, zin_55, zin_56, zkc_209, zkc_210, zin_211, zaa_211, zkc_212, zin_213, zkc_214, zkc_215, zin_216, zin_217, zkc_218, zin_219, zin_220, zin_221, zkc_222, zin_223, zaa_223, zin_224, zin_225, zkc_226, zin_227, zin_228, zin_229, zin_230, zin_231, zin_232, zkc_233, zin_234, zaa_234, zin_235, zin_236, zin_237, zin_238, zin_239, zin_240, zin_241, zin_242, zin_243, zin_244, zin_245, zin_246, zin_247, zin_248, zin_249, zin_250, zkc_251, zin_252, zin_253, zkc_374, zin_375, zin_376, zin_377, zin_378, zin_379, zin_380, zin_381, zin_382, zin_383, zin_384, zin_385, zin_386, zin_387]
  refine s_floods d _ M S 10 c (by omega) hc hR hW (fun N v1 v2 v3 => ?_)
  have hF : ∀ x : Nat, x < 120 → N 376 (1200 + x) = dst (S 0) c x := fun x hx => v1 x hx
  have ex : (1200 + (p : Int)).toNat = 1200 + p := by omega
  have ey : 0 ≤ 1200 + (p : Int) ∧ 1200 + (p : Int) < 1440 := ⟨by omega, by omega⟩
  rw [zret_none]
  simp only [↓e125, ↓e125_0, ↓e125_1, ↓e125_3, ↓e125_4, ↓e125_7, ↓e125_8, ↓e125_11, ↓e125_14, ↓e125_15, ↓e125_16, ↓e125_17, znl_i, znl_r, znl_n, zcs_0, zcs_1, zcs_2, zcs_3, zcat_0, zcat_1, zcat_2, zcat_3, zbl_0, zbl_1, true_and, and_true, ↓zret_some, ↓zret_none, Nat.reduceAdd, Nat.reduceLeDiff, Nat.reduceMul, eq_self, Int.reduceToNat, Int.reduceLE, Int.reduceLT, Int.reduceNeg, and_self, zrg, zkc_0, zin_1, zin_2, zin_3, zin_4, zin_5, zin_6, zin_7, zin_8, zin_9, zaa_9, zkc_10, zin_11, zin_12, zkc_13, zin_14, zin_15, zkc_16, zin_17, zin_18, zkc_19, zin_20, zin_21, zin_22, zin_23, zin_24, zin_25, zin_26, zin_27, zin_28, zaa_28, zkc_29, zin_30, zin_31, zkc_32, zin_33, zin_34, zkc_35, zin_36, zin_37, zkc_38, zin_39, zin_40, zin_41, zin_42, zin_43, zin_44, zin_45, zin_46, zin_47, zaa_47, zkc_48, zin_49, zin_50, zkc_51, zin_52, zin_53, zkc_54, zin_55, zin_56, zkc_209, zkc_210, zin_211, zaa_211, zkc_212, zin_213, zkc_214, zkc_215, zin_216, zin_217, zkc_218, zin_219, zin_220, zin_221, zkc_222, zin_223, zaa_223, zin_224, zin_225, zkc_226, zin_227, zin_228, zin_229, zin_230, zin_231, zin_232, zkc_233, zin_234, zaa_234, zin_235, zin_236, zin_237, zin_238, zin_239, zin_240, zin_241, zin_242, zin_243, zin_244, zin_245, zin_246, zin_247, zin_248, zin_249, zin_250, zkc_251, zin_252, zin_253, zkc_374, zin_375, zin_376, zin_377, zin_378, zin_379, zin_380, zin_381, zin_382, zin_383, zin_384, zin_385, zin_386, zin_387, ex, ey, hF p hp]
  rw [dst_sym hc hp]
  exact hQ N v2
theorem j_distance (d : Nat) (B : Int) (X : zX) (M : zM) (x y : Int) (hx : zrg x) (hy : zrg y) (hC : IC X M) (hI : IR X M) (hX : WX B X) : Jt d B 81 169 [.inl x, .inl y] M := by
  have hW := hX.1.1
  have hx' := hx
  have hy' := hy
  simp only [zrg] at hx' hy'
  have ca := fun Q P => s_isCell (d + 8) Q P x hx
  have cb := fun Q P => s_isCell (d + 8) Q P y hy
  have ra := fun Q P => s_rIsCell (d + 7) Q P x hx
  have rb := fun Q P => s_rIsCell (d + 7) Q P y hy
  unfold Jt
  by_cases h1 : 0 ≤ x ∧ x < 120
  · simp only [show zb (0 ≤ x ∧ x < 120) = 1 from if_pos h1] at ca ra
    by_cases h2 : 0 ≤ y ∧ y < 120
    · simp only [show zb (0 ≤ y ∧ y < 120) = 1 from if_pos h2] at cb rb
      obtain ⟨p, rfl⟩ : ∃ p : Nat, x = p := ⟨x.toNat, by omega⟩
      obtain ⟨c, rfl⟩ : ∃ c : Nat, y = c := ⟨y.toNat, by omega⟩
      have hp : p < 120 := by omega
      have hc : c < 120 := by omega
      have hzp : ∀ i : Int, zin 0 (254 + p) i = (0 ≤ i ∧ i < 120) := fun i => zin_of (n := 120) (zkD hp)
      simp only [↓e81, ↓e81_0, ↓e81_1, ↓e81_4, ↓e81_7, ↓e81_8, ↓e81_11, ↓e81_14, ↓e81_15, ↓e81_16, ↓e81_17, ↓e81_20, ↓e81_21, ↓e81_24, ↓e81_25, ↓e81_26, znl_i, znl_r, znl_n, zcs_0, zcs_1, zcs_2, zcs_3, zcat_0, zcat_1, zcat_2, zcat_3, zbl_0, zbl_1, true_and, and_true, ↓zret_some, ↓zret_none, Nat.reduceAdd, Nat.reduceLeDiff, Nat.reduceMul, eq_self, Int.reduceToNat, Int.reduceLE, Int.reduceLT, Int.reduceNeg, and_self, zrg, zkc_0, zin_1, zin_2, zin_3, zin_4, zin_5, zin_6, zin_7, zin_8, zin_9, zaa_9, zkc_10, zin_11, zin_12, zkc_13, zin_14, zin_15, zkc_16, zin_17, zin_18, zkc_19, zin_20, zin_21, zin_22, zin_23, zin_24, zin_25, zin_26, zin_27, zin_28, zaa_28, zkc_29, zin_30, zin_31, zkc_32, zin_33, zin_34, zkc_35, zin_36, zin_37, zkc_38, zin_39, zin_40, zin_41, zin_42, zin_43, zin_44, zin_45, zin_46, zin_47, zaa_47, zkc_48, zin_49, zin_50, zkc_51, zin_52, zin_53, zkc_54, zin_55, zin_56, zkc_209, zkc_210, zin_211, zaa_211, zkc_212, zin_213, zkc_214, zkc_215, zin_216, zin_217, zkc_218, zin_219, zin_220, zin_221, zkc_222, zin_223, zaa_223, zin_224, zin_225, zkc_226, zin_227, zin_228, zin_229, zin_230, zin_231, zin_232, zkc_233, zin_234, zaa_234, zin_235, zin_236, zin_237, zin_238, zin_239, zin_240, zin_241, zin_242, zin_243, zin_244, zin_245, zin_246, zin_247, zin_248, zin_249, zin_250, zkc_251, zin_252, zin_253, zkc_374, zin_375, zin_376, zin_377, zin_378, zin_379, zin_380, zin_381, zin_382, zin_383, zin_384, zin_385, zin_386, zin_387, ↓ca, ↓cb, show ¬ (1 : Int) = 0 by omega, ne_eq, not_false_eq_true, ↓reduceIte]
      refine s_from (d + 7) _ M (X 0 0) p hp (Hw_of hC.1 hW) hC.2.1 (fun N v1 v2 v3 => ?_)
      rw [zret_some]
      have hC2 := IC_ways hC (fun b hb => v3 b (by omega) (by omega) (by omega)) v1
      have hIP := IR_cong (fun b hb => v3 b (by omega) (by omega) (by omega)) hI
      have t1 := dst_rng (X 0 0) p c
      have t2 := dst_lt (w := X 0 0) (a := p) (c := c) hp
      have t3 : -2147483648 ≤ dst (X 0 0) p c ∧ dst (X 0 0) p c < 2147483648 := by omega
      simp only [↓e81, ↓e81_0, ↓e81_1, ↓e81_4, ↓e81_7, ↓e81_8, ↓e81_11, ↓e81_14, ↓e81_15, ↓e81_16, ↓e81_17, ↓e81_20, ↓e81_21, ↓e81_24, ↓e81_25, ↓e81_26, znl_i, znl_r, znl_n, zcs_0, zcs_1, zcs_2, zcs_3, zcat_0, zcat_1, zcat_2, zcat_3, zbl_0, zbl_1, true_and, and_true, ↓zret_some, ↓zret_none, Nat.reduceAdd, Nat.reduceLeDiff, Nat.reduceMul, eq_self, Int.reduceToNat, Int.reduceLE, Int.reduceLT, Int.reduceNeg, and_self, zrg, zkc_0, zin_1, zin_2, zin_3, zin_4, zin_5, zin_6, zin_7, zin_8, zin_9, zaa_9, zkc_10, zin_11, zin_12, zkc_13, zin_14, zin_15, zkc_16, zin_17, zin_18, zkc_19, zin_20, zin_21, zin_22, zin_23, zin_24, zin_25, zin_26, zin_27, zin_28, zaa_28, zkc_29, zin_30, zin_31, zkc_32, zin_33, zin_34, zkc_35, zin_36, zin_37, zkc_38, zin_39, zin_40, zin_41, zin_42, zin_43, zin_44, zin_45, zin_46, zin_47, zaa_47, zkc_48, zin_49, zin_50, zkc_51, zin_52, zin_53, zkc_54, zin_55, zin_56, zkc_209, zkc_210, zin_211, zaa_211, zkc_212, zin_213, zkc_214, zkc_215, zin_216, zin_217, zkc_218, zin_219, zin_220, zin_221, zkc_222, zin_223, zaa_223, zin_224, zin_225, zkc_226, zin_227, zin_228, zin_229, zin_230, zin_231, zin_232, zkc_233, zin_234, zaa_234, zin_235, zin_236, zin_237, zin_238, zin_239, zin_240, zin_241, zin_242, zin_243, zin_244, zin_245, zin_246, zin_247, zin_248, zin_249, zin_250, zkc_251, zin_252, zin_253, zkc_374, zin_375, zin_376, zin_377, zin_378, zin_379, zin_380, zin_381, zin_382, zin_383, zin_384, zin_385, zin_386, zin_387, hzp, h2, Int.toNat_natCast, v2 c hc]
      refine JC_i ?_
      simp only [↓e169, ↓e169_0, ↓e169_1, ↓e169_4, ↓e169_7, ↓e169_8, ↓e169_11, ↓e169_14, ↓e169_15, ↓e169_16, ↓e169_17, ↓e169_18, ↓e169_19, ↓e169_22, ↓e169_23, ↓e169_24, ↓e169_27, ↓e169_29, ↓e169_32, ↓e169_33, znl_i, znl_r, znl_n, zcs_0, zcs_1, zcs_2, zcs_3, zcat_0, zcat_1, zcat_2, zcat_3, zbl_0, zbl_1, true_and, and_true, ↓zret_some, ↓zret_none, Nat.reduceAdd, Nat.reduceLeDiff, Nat.reduceMul, eq_self, Int.reduceToNat, Int.reduceLE, Int.reduceLT, Int.reduceNeg, and_self, zrg, zkc_0, zin_1, zin_2, zin_3, zin_4, zin_5, zin_6, zin_7, zin_8, zin_9, zaa_9, zkc_10, zin_11, zin_12, zkc_13, zin_14, zin_15, zkc_16, zin_17, zin_18, zkc_19, zin_20, zin_21, zin_22, zin_23, zin_24, zin_25, zin_26, zin_27, zin_28, zaa_28, zkc_29, zin_30, zin_31, zkc_32, zin_33, zin_34, zkc_35, zin_36, zin_37, zkc_38, zin_39, zin_40, zin_41, zin_42, zin_43, zin_44, zin_45, zin_46, zin_47, zaa_47, zkc_48, zin_49, zin_50, zkc_51, zin_52, zin_53, zkc_54, zin_55, zin_56, zkc_209, zkc_210, zin_211, zaa_211, zkc_212, zin_213, zkc_214, zkc_215, zin_216, zin_217, zkc_218, zin_219, zin_220, zin_221, zkc_222, zin_223, zaa_223, zin_224, zin_225, zkc_226, zin_227, zin_228, zin_229, zin_230, zin_231, zin_232, zkc_233, zin_234, zaa_234, zin_235, zin_236, zin_237, zin_238, zin_239, zin_240, zin_241, zin_242, zin_243, zin_244, zin_245, zin_246, zin_247, zin_248, zin_249, zin_250, zkc_251, zin_252, zin_253, zkc_374, zin_375, zin_376, zin_377, zin_378, zin_379, zin_380, zin_381, zin_382, zin_383, zin_384, zin_385, zin_386, zin_387, ↓ra, ↓rb, show ¬ (1 : Int) = 0 by omega, ne_eq, not_false_eq_true, ↓reduceIte]
      refine s_distanceOf (d + 5) _ N (X 0) p c hp hc hIP.1.1 hW (fun P u1 => ?_)
      rw [zret_some]
      have fin : JE B (dd (X 0 0) p c) (some (.inl (dd (X 0 0) p c))) P := JE_i (IC_cong (fun b hb => u1 b (by omega) (by omega)) hC2) (IR_q hX hIP (u1 375 (by omega) (by omega)) (fun j _ _ => by rw [u1 374 (by omega) (by omega)]) (u1 385 (by omega) (by omega))) hX
      simp only [↓e169, ↓e169_0, ↓e169_1, ↓e169_4, ↓e169_7, ↓e169_8, ↓e169_11, ↓e169_14, ↓e169_15, ↓e169_16, ↓e169_17, ↓e169_18, ↓e169_19, ↓e169_22, ↓e169_23, ↓e169_24, ↓e169_27, ↓e169_29, ↓e169_32, ↓e169_33, znl_i, znl_r, znl_n, zcs_0, zcs_1, zcs_2, zcs_3, zcat_0, zcat_1, zcat_2, zcat_3, zbl_0, zbl_1, true_and, and_true, ↓zret_some, ↓zret_none, Nat.reduceAdd, Nat.reduceLeDiff, Nat.reduceMul, eq_self, Int.reduceToNat, Int.reduceLE, Int.reduceLT, Int.reduceNeg, and_self, zrg, zkc_0, zin_1, zin_2, zin_3, zin_4, zin_5, zin_6, zin_7, zin_8, zin_9, zaa_9, zkc_10, zin_11, zin_12, zkc_13, zin_14, zin_15, zkc_16, zin_17, zin_18, zkc_19, zin_20, zin_21, zin_22, zin_23, zin_24, zin_25, zin_26, zin_27, zin_28, zaa_28, zkc_29, zin_30, zin_31, zkc_32, zin_33, zin_34, zkc_35, zin_36, zin_37, zkc_38, zin_39, zin_40, zin_41, zin_42, zin_43, zin_44, zin_45, zin_46, zin_47, zaa_47, zkc_48, zin_49, zin_50, zkc_51, zin_52, zin_53, zkc_54, zin_55, zin_56, zkc_209, zkc_210, zin_211, zaa_211, zkc_212, zin_213, zkc_214, zkc_215, zin_216, zin_217, zkc_218, zin_219, zin_220, zin_221, zkc_222, zin_223, zaa_223, zin_224, zin_225, zkc_226, zin_227, zin_228, zin_229, zin_230, zin_231, zin_232, zkc_233, zin_234, zaa_234, zin_235, zin_236, zin_237, zin_238, zin_239, zin_240, zin_241, zin_242, zin_243, zin_244, zin_245, zin_246, zin_247, zin_248, zin_249, zin_250, zkc_251, zin_252, zin_253, zkc_374, zin_375, zin_376, zin_377, zin_378, zin_379, zin_380, zin_381, zin_382, zin_383, zin_384, zin_385, zin_386, zin_387, t3]
      by_cases z : dst (X 0 0) p c = -1
      · rw [show dd (X 0 0) p c = -5 from if_pos z] at fin ⊢
        rw [if_neg (by omega)]
        exact fin
      · rw [show dd (X 0 0) p c = dst (X 0 0) p c from if_neg z] at fin ⊢
        rw [if_pos (by omega)]
        exact fin
    · simp only [show zb (0 ≤ y ∧ y < 120) = 0 from if_neg h2] at cb rb
      simp only [↓e81, ↓e81_0, ↓e81_1, ↓e81_4, ↓e81_7, ↓e81_8, ↓e81_11, ↓e81_14, ↓e81_15, ↓e81_16, ↓e81_17, ↓e81_20, ↓e81_21, ↓e81_24, ↓e81_25, ↓e81_26, znl_i, znl_r, znl_n, zcs_0, zcs_1, zcs_2, zcs_3, zcat_0, zcat_1, zcat_2, zcat_3, zbl_0, zbl_1, true_and, and_true, ↓zret_some, ↓zret_none, Nat.reduceAdd, Nat.reduceLeDiff, Nat.reduceMul, eq_self, Int.reduceToNat, Int.reduceLE, Int.reduceLT, Int.reduceNeg, and_self, zrg, zkc_0, zin_1, zin_2, zin_3, zin_4, zin_5, zin_6, zin_7, zin_8, zin_9, zaa_9, zkc_10, zin_11, zin_12, zkc_13, zin_14, zin_15, zkc_16, zin_17, zin_18, zkc_19, zin_20, zin_21, zin_22, zin_23, zin_24, zin_25, zin_26, zin_27, zin_28, zaa_28, zkc_29, zin_30, zin_31, zkc_32, zin_33, zin_34, zkc_35, zin_36, zin_37, zkc_38, zin_39, zin_40, zin_41, zin_42, zin_43, zin_44, zin_45, zin_46, zin_47, zaa_47, zkc_48, zin_49, zin_50, zkc_51, zin_52, zin_53, zkc_54, zin_55, zin_56, zkc_209, zkc_210, zin_211, zaa_211, zkc_212, zin_213, zkc_214, zkc_215, zin_216, zin_217, zkc_218, zin_219, zin_220, zin_221, zkc_222, zin_223, zaa_223, zin_224, zin_225, zkc_226, zin_227, zin_228, zin_229, zin_230, zin_231, zin_232, zkc_233, zin_234, zaa_234, zin_235, zin_236, zin_237, zin_238, zin_239, zin_240, zin_241, zin_242, zin_243, zin_244, zin_245, zin_246, zin_247, zin_248, zin_249, zin_250, zkc_251, zin_252, zin_253, zkc_374, zin_375, zin_376, zin_377, zin_378, zin_379, zin_380, zin_381, zin_382, zin_383, zin_384, zin_385, zin_386, zin_387, ↓ca, ↓cb, show ¬ (1 : Int) = 0 by omega, ne_eq, not_true_eq_false, ↓reduceIte]
      refine JC_i ?_
      simp only [↓e169, ↓e169_0, ↓e169_1, ↓e169_4, ↓e169_7, ↓e169_8, ↓e169_11, ↓e169_14, ↓e169_15, ↓e169_16, ↓e169_17, ↓e169_18, ↓e169_19, ↓e169_22, ↓e169_23, ↓e169_24, ↓e169_27, ↓e169_29, ↓e169_32, ↓e169_33, znl_i, znl_r, znl_n, zcs_0, zcs_1, zcs_2, zcs_3, zcat_0, zcat_1, zcat_2, zcat_3, zbl_0, zbl_1, true_and, and_true, ↓zret_some, ↓zret_none, Nat.reduceAdd, Nat.reduceLeDiff, Nat.reduceMul, eq_self, Int.reduceToNat, Int.reduceLE, Int.reduceLT, Int.reduceNeg, and_self, zrg, zkc_0, zin_1, zin_2, zin_3, zin_4, zin_5, zin_6, zin_7, zin_8, zin_9, zaa_9, zkc_10, zin_11, zin_12, zkc_13, zin_14, zin_15, zkc_16, zin_17, zin_18, zkc_19, zin_20, zin_21, zin_22, zin_23, zin_24, zin_25, zin_26, zin_27, zin_28, zaa_28, zkc_29, zin_30, zin_31, zkc_32, zin_33, zin_34, zkc_35, zin_36, zin_37, zkc_38, zin_39, zin_40, zin_41, zin_42, zin_43, zin_44, zin_45, zin_46, zin_47, zaa_47, zkc_48, zin_49, zin_50, zkc_51, zin_52, zin_53, zkc_54, zin_55, zin_56, zkc_209, zkc_210, zin_211, zaa_211, zkc_212, zin_213, zkc_214, zkc_215, zin_216, zin_217, zkc_218, zin_219, zin_220, zin_221, zkc_222, zin_223, zaa_223, zin_224, zin_225, zkc_226, zin_227, zin_228, zin_229, zin_230, zin_231, zin_232, zkc_233, zin_234, zaa_234, zin_235, zin_236, zin_237, zin_238, zin_239, zin_240, zin_241, zin_242, zin_243, zin_244, zin_245, zin_246, zin_247, zin_248, zin_249, zin_250, zkc_251, zin_252, zin_253, zkc_374, zin_375, zin_376, zin_377, zin_378, zin_379, zin_380, zin_381, zin_382, zin_383, zin_384, zin_385, zin_386, zin_387, ↓ra, ↓rb, show ¬ (1 : Int) = 0 by omega, ne_eq, not_true_eq_false, ↓reduceIte]
      exact JE_i hC hI hX
  · simp only [show zb (0 ≤ x ∧ x < 120) = 0 from if_neg h1] at ca ra
    simp only [↓e81, ↓e81_0, ↓e81_1, ↓e81_4, ↓e81_7, ↓e81_8, ↓e81_11, ↓e81_14, ↓e81_15, ↓e81_16, ↓e81_17, ↓e81_20, ↓e81_21, ↓e81_24, ↓e81_25, ↓e81_26, znl_i, znl_r, znl_n, zcs_0, zcs_1, zcs_2, zcs_3, zcat_0, zcat_1, zcat_2, zcat_3, zbl_0, zbl_1, true_and, and_true, ↓zret_some, ↓zret_none, Nat.reduceAdd, Nat.reduceLeDiff, Nat.reduceMul, eq_self, Int.reduceToNat, Int.reduceLE, Int.reduceLT, Int.reduceNeg, and_self, zrg, zkc_0, zin_1, zin_2, zin_3, zin_4, zin_5, zin_6, zin_7, zin_8, zin_9, zaa_9, zkc_10, zin_11, zin_12, zkc_13, zin_14, zin_15, zkc_16, zin_17, zin_18, zkc_19, zin_20, zin_21, zin_22, zin_23, zin_24, zin_25, zin_26, zin_27, zin_28, zaa_28, zkc_29, zin_30, zin_31, zkc_32, zin_33, zin_34, zkc_35, zin_36, zin_37, zkc_38, zin_39, zin_40, zin_41, zin_42, zin_43, zin_44, zin_45, zin_46, zin_47, zaa_47, zkc_48, zin_49, zin_50, zkc_51, zin_52, zin_53, zkc_54, zin_55, zin_56, zkc_209, zkc_210, zin_211, zaa_211, zkc_212, zin_213, zkc_214, zkc_215, zin_216, zin_217, zkc_218, zin_219, zin_220, zin_221, zkc_222, zin_223, zaa_223, zin_224, zin_225, zkc_226, zin_227, zin_228, zin_229, zin_230, zin_231, zin_232, zkc_233, zin_234, zaa_234, zin_235, zin_236, zin_237, zin_238, zin_239, zin_240, zin_241, zin_242, zin_243, zin_244, zin_245, zin_246, zin_247, zin_248, zin_249, zin_250, zkc_251, zin_252, zin_253, zkc_374, zin_375, zin_376, zin_377, zin_378, zin_379, zin_380, zin_381, zin_382, zin_383, zin_384, zin_385, zin_386, zin_387, ↓ca, ↓reduceIte]
    refine JC_i ?_
    simp only [↓e169, ↓e169_0, ↓e169_1, ↓e169_4, ↓e169_7, ↓e169_8, ↓e169_11, ↓e169_14, ↓e169_15, ↓e169_16, ↓e169_17, ↓e169_18, ↓e169_19, ↓e169_22, ↓e169_23, ↓e169_24, ↓e169_27, ↓e169_29, ↓e169_32, ↓e169_33, znl_i, znl_r, znl_n, zcs_0, zcs_1, zcs_2, zcs_3, zcat_0, zcat_1, zcat_2, zcat_3, zbl_0, zbl_1, true_and, and_true, ↓zret_some, ↓zret_none, Nat.reduceAdd, Nat.reduceLeDiff, Nat.reduceMul, eq_self, Int.reduceToNat, Int.reduceLE, Int.reduceLT, Int.reduceNeg, and_self, zrg, zkc_0, zin_1, zin_2, zin_3, zin_4, zin_5, zin_6, zin_7, zin_8, zin_9, zaa_9, zkc_10, zin_11, zin_12, zkc_13, zin_14, zin_15, zkc_16, zin_17, zin_18, zkc_19, zin_20, zin_21, zin_22, zin_23, zin_24, zin_25, zin_26, zin_27, zin_28, zaa_28, zkc_29, zin_30, zin_31, zkc_32, zin_33, zin_34, zkc_35, zin_36, zin_37, zkc_38, zin_39, zin_40, zin_41, zin_42, zin_43, zin_44, zin_45, zin_46, zin_47, zaa_47, zkc_48, zin_49, zin_50, zkc_51, zin_52, zin_53, zkc_54, zin_55, zin_56, zkc_209, zkc_210, zin_211, zaa_211, zkc_212, zin_213, zkc_214, zkc_215, zin_216, zin_217, zkc_218, zin_219, zin_220, zin_221, zkc_222, zin_223, zaa_223, zin_224, zin_225, zkc_226, zin_227, zin_228, zin_229, zin_230, zin_231, zin_232, zkc_233, zin_234, zaa_234, zin_235, zin_236, zin_237, zin_238, zin_239, zin_240, zin_241, zin_242, zin_243, zin_244, zin_245, zin_246, zin_247, zin_248, zin_249, zin_250, zkc_251, zin_252, zin_253, zkc_374, zin_375, zin_376, zin_377, zin_378, zin_379, zin_380, zin_381, zin_382, zin_383, zin_384, zin_385, zin_386, zin_387, ↓ra, ↓reduceIte]
    exact JE_i hC hI hX
