/-! ### Turns.act, Turns.moveLeader -/
theorem Wv_cong {M N : zM} {w : Nat → Int} (h : ∀ b, 19 ≤ b → N b = M b) (hV : Wv M w) : Wv N w := fun x hx => by
  rw [h 224 (by omega), h (254 + x) (by omega)]
  exact hV x hx
theorem s_act (d : Nat) (Q : zQ) (M S : zM) (pl : Nat → Int) (m : Nat) (hm : m < 10) (h0 : 0 ≤ S 1 m) (hB : 0 ≤ S 2 m ∧ S 2 m < 2000000000) (hp : 0 ≤ pl m) (hR : RelC M 0 S) (hW : WfS S) (hV : Wv M (S 0)) (hP : PlR M pl)
    (hQ : ∀ N, RelC N 0 (actS pl S m) → Fw M N → Wv N (S 0) → Q none N) : Sp (d + 4) 46 [.inr (.inr 251), .inl (m : Int)] M Q := by
  have hm0 : 0 ≤ (m : Int) ∧ (m : Int) < 10 := ⟨by omega, by omega⟩
  have hc := hW.2.1 m hm
  have hcc : 0 ≤ S 1 m ∧ S 1 m < 120 := ⟨h0, hc.2⟩
  have h2 := hR.2.1 m hm
  simp only [Nat.zero_add] at h2
  rw [if_neg (by omega)] at h2
  obtain ⟨q1, q2, q3⟩ := hP m hm
  have q4 : M 228 m = pl m := by rw [q1]; unfold m5; rw [if_neg (by omega)]
  obtain ⟨p, hpN⟩ : ∃ p : Nat, pl m = p := ⟨(pl m).toNat, by omega⟩
  obtain ⟨c, hcN⟩ : ∃ c : Nat, S 1 m = c := ⟨(S 1 m).toNat, by omega⟩
  have r1 : -2147483648 ≤ S 1 m ∧ S 1 m < 2147483648 := ⟨by omega, by omega⟩
  have r2 : -2147483648 ≤ pl m ∧ pl m < 2147483648 := ⟨by omega, by omega⟩
  unfold actS at hQ
  simp only [↓e46, ↓e46_0, ↓e46_1, ↓e46_4, ↓e46_7, ↓e46_8, ↓e46_9, ↓e46_10, ↓e46_11, ↓e46_14, ↓e46_17, ↓e46_18, ↓e46_19, ↓e46_20, ↓e46_21, ↓e46_22, ↓e46_25, ↓e46_26, ↓e46_27, ↓e46_30, ↓e46_34, ↓e46_36, ↓e46_37, ↓e46_39, ↓e46_40, ↓e46_43, ↓e46_45, ↓e46_47, ↓e46_50, ↓e46_51, ↓e46_54, ↓e46_55, ↓e46_57, ↓e46_58, ↓e46_61, ↓e46_62, ↓e46_65, ↓e46_68, ↓e46_69, ↓e46_70, ↓e46_71, ↓e46_72, ↓e46_73, ↓e46_74, ↓e46_75, ↓e46_76, ↓e46_78, ↓e46_79, ↓e46_82, ↓e46_84, ↓e46_86, ↓e46_89, ↓e46_90, ↓e46_93, ↓e46_94, ↓e46_96, ↓e46_99, ↓e46_100, ↓e46_103, ↓e46_106, ↓e46_107, ↓e46_108, ↓e46_109, ↓e46_110, ↓e46_111, ↓e46_112, ↓e46_113, ↓e46_114, ↓e46_115, ↓e46_116, ↓e46_119, znl_i, znl_r, znl_n, zcs_0, zcs_1, zcs_2, zcs_3, zcat_0, zcat_1, zcat_2, zcat_3, zbl_0, zbl_1, true_and, and_true, ↓zret_some, ↓zret_none, Nat.reduceAdd, Nat.reduceLeDiff, Nat.reduceMul, eq_self, Int.reduceToNat, Int.reduceLE, Int.reduceLT, Int.reduceNeg, and_self, zrg, zkc_0, zin_1, zin_2, zin_3, zin_4, zin_5, zin_6, zin_7, zin_8, zin_9, zaa_9, zkc_10, zin_11, zin_12, zkc_13, zin_14, zin_15, zkc_16, zin_17, zin_18, zkc_19, zin_20, zin_21, zin_22, zin_23, zin_24, zin_25, zin_26, zin_27, zin_28, zaa_28, zkc_29, zin_30, zin_31, zkc_32, zin_33, zin_34, zkc_35, zin_36, zin_37, zkc_38, zin_39, zin_40, zin_41, zin_42, zin_43, zin_44, zin_45, zin_46, zin_47, zaa_47, zkc_48, zin_49, zin_50, zkc_51, zin_52, zin_53, zkc_54, zin_55, zin_56, zkc_209, zkc_210, zin_211, zaa_211, zkc_212, zin_213, zkc_214, zkc_215, zin_216, zin_217, zkc_218, zin_219, zin_220, zin_221, zkc_222, zin_223, zaa_223, zin_224, zin_225, zkc_226, zin_227, zin_228, zin_229, zin_230, zin_231, zin_232, zkc_233, zin_234, zaa_234, zin_235, zin_236, zin_237, zin_238, zin_239, zin_240, zin_241, zin_242, zin_243, zin_244, zin_245, zin_246, zin_247, zin_248, zin_249, zin_250, zkc_251, zin_252, zin_253, zkc_374, zin_375, zin_376, zin_377, zin_378, zin_379, zin_380, zin_381, zin_382, zin_383, zin_384, zin_385, zin_386, zin_387, hm0, Int.toNat_natCast, h2, q4, r1, r2, ne_eq, ite_not]
  by_cases a1 : S 1 m = pl m
  · rw [if_pos a1]
    rw [if_pos a1] at hQ
    exact hQ M hR (fun _ _ _ _ _ => rfl) hV
  · rw [if_neg a1]
    rw [if_neg a1] at hQ
    have hcp : c ≠ p := by omega
    simp only [hpN, hcN, Int.toNat_natCast] at hQ
    simp only [↓e46_31, hpN, hcN, znl_i, znl_r, znl_n, zcs_0, zcs_1, zcs_2, zcs_3, zcat_0, zcat_1, zcat_2, zcat_3, zbl_0, zbl_1, true_and, and_true, ↓zret_some, ↓zret_none, Nat.reduceAdd, Nat.reduceLeDiff, Nat.reduceMul, eq_self, Int.reduceToNat, Int.reduceLE, Int.reduceLT, Int.reduceNeg, and_self, zkc_0, zin_1, zin_2, zin_3, zin_4, zin_5, zin_6, zin_7, zin_8, zin_9, zaa_9, zkc_10, zin_11, zin_12, zkc_13, zin_14, zin_15, zkc_16, zin_17, zin_18, zkc_19, zin_20, zin_21, zin_22, zin_23, zin_24, zin_25, zin_26, zin_27, zin_28, zaa_28, zkc_29, zin_30, zin_31, zkc_32, zin_33, zin_34, zkc_35, zin_36, zin_37, zkc_38, zin_39, zin_40, zin_41, zin_42, zin_43, zin_44, zin_45, zin_46, zin_47, zaa_47, zkc_48, zin_49, zin_50, zkc_51, zin_52, zin_53, zkc_54, zin_55, zin_56, zkc_209, zkc_210, zin_211, zaa_211, zkc_212, zin_213, zkc_214, zkc_215, zin_216, zin_217, zkc_218, zin_219, zin_220, zin_221, zkc_222, zin_223, zaa_223, zin_224, zin_225, zkc_226, zin_227, zin_228, zin_229, zin_230, zin_231, zin_232, zkc_233, zin_234, zaa_234, zin_235, zin_236, zin_237, zin_238, zin_239, zin_240, zin_241, zin_242, zin_243, zin_244, zin_245, zin_246, zin_247, zin_248, zin_249, zin_250, zkc_251, zin_252, zin_253, zkc_374, zin_375, zin_376, zin_377, zin_378, zin_379, zin_380, zin_381, zin_382, zin_383, zin_384, zin_385, zin_386, zin_387]
    refine s_from (d + 1) _ M (S 0) p (by omega) (Hw_of hR hW) hV (fun N v1 v2 v3 => ?_)
    have hRN : RelC N 0 S := RelC_congr (fun b hb => v3 b (by omega) (by omega) (by omega)) hR
    have hPN : PlR N pl := fun j hj => by rw [v3 228 (by omega) (by omega) (by omega)]; exact hP j hj
    have hfr := frst_cases (ok := kFree S p c) (c := (c : Int)) (by omega)
    have hfr2 := frst_cases (ok := kPart S pl p c) (c := (c : Int)) (by omega)
    have free := @free_ok S p c
    have part := @part_ok S pl p c
    rw [zret_some]
    simp only [↓e46, ↓e46_0, ↓e46_1, ↓e46_4, ↓e46_7, ↓e46_8, ↓e46_9, ↓e46_10, ↓e46_11, ↓e46_14, ↓e46_17, ↓e46_18, ↓e46_19, ↓e46_20, ↓e46_21, ↓e46_22, ↓e46_25, ↓e46_26, ↓e46_27, ↓e46_30, ↓e46_34, ↓e46_36, ↓e46_37, ↓e46_39, ↓e46_40, ↓e46_43, ↓e46_47, ↓e46_50, ↓e46_51, ↓e46_54, ↓e46_55, ↓e46_57, ↓e46_58, ↓e46_61, ↓e46_62, ↓e46_65, ↓e46_68, ↓e46_69, ↓e46_70, ↓e46_71, ↓e46_72, ↓e46_73, ↓e46_74, ↓e46_75, ↓e46_76, ↓e46_78, ↓e46_79, ↓e46_82, ↓e46_84, ↓e46_86, ↓e46_89, ↓e46_90, ↓e46_93, ↓e46_94, ↓e46_96, ↓e46_99, ↓e46_100, ↓e46_103, ↓e46_106, ↓e46_107, ↓e46_108, ↓e46_109, ↓e46_110, ↓e46_111, ↓e46_112, ↓e46_113, ↓e46_114, ↓e46_115, ↓e46_116, ↓e46_119, znl_i, znl_r, znl_n, zcs_0, zcs_1, zcs_2, zcs_3, zcat_0, zcat_1, zcat_2, zcat_3, zbl_0, zbl_1, true_and, and_true, ↓zret_some, ↓zret_none, Nat.reduceAdd, Nat.reduceLeDiff, Nat.reduceMul, eq_self, Int.reduceToNat, Int.reduceLE, Int.reduceLT, Int.reduceNeg, and_self, zrg, zkc_0, zin_1, zin_2, zin_3, zin_4, zin_5, zin_6, zin_7, zin_8, zin_9, zaa_9, zkc_10, zin_11, zin_12, zkc_13, zin_14, zin_15, zkc_16, zin_17, zin_18, zkc_19, zin_20, zin_21, zin_22, zin_23, zin_24, zin_25, zin_26, zin_27, zin_28, zaa_28, zkc_29, zin_30, zin_31, zkc_32, zin_33, zin_34, zkc_35, zin_36, zin_37, zkc_38, zin_39, zin_40, zin_41, zin_42, zin_43, zin_44, zin_45, zin_46, zin_47, zaa_47, zkc_48, zin_49, zin_50, zkc_51, zin_52, zin_53, zkc_54, zin_55, zin_56, zkc_209, zkc_210, zin_211, zaa_211, zkc_212, zin_213, zkc_214, zkc_215, zin_216, zin_217, zkc_218, zin_219, zin_220, zin_221, zkc_222, zin_223, zaa_223, zin_224, zin_225, zkc_226, zin_227, zin_228, zin_229, zin_230, zin_231, zin_232, zkc_233, zin_234, zaa_234, zin_235, zin_236, zin_237, zin_238, zin_239, zin_240, zin_241, zin_242, zin_243, zin_244, zin_245, zin_246, zin_247, zin_248, zin_249, zin_250, zkc_251, zin_252, zin_253, zkc_374, zin_375, zin_376, zin_377, zin_378, zin_379, zin_380, zin_381, zin_382, zin_383, zin_384, zin_385, zin_386, zin_387, ↓s_firstFreeNearer (d + 1) _ N S p c (by omega) (by omega) hcp hRN v2]
    rcases hfr with z | ⟨z1, z2, z3, z4⟩
    · rw [if_neg (by omega)] at hQ
      rw [z]
      have e1 : m5 (-1) = -5 := rfl
      simp only [↓e46, ↓e46_0, ↓e46_1, ↓e46_4, ↓e46_7, ↓e46_8, ↓e46_9, ↓e46_10, ↓e46_11, ↓e46_14, ↓e46_17, ↓e46_18, ↓e46_19, ↓e46_20, ↓e46_21, ↓e46_22, ↓e46_25, ↓e46_26, ↓e46_27, ↓e46_30, ↓e46_34, ↓e46_36, ↓e46_37, ↓e46_39, ↓e46_40, ↓e46_43, ↓e46_45, ↓e46_47, ↓e46_50, ↓e46_51, ↓e46_54, ↓e46_55, ↓e46_57, ↓e46_58, ↓e46_61, ↓e46_62, ↓e46_65, ↓e46_68, ↓e46_69, ↓e46_70, ↓e46_71, ↓e46_72, ↓e46_73, ↓e46_74, ↓e46_75, ↓e46_76, ↓e46_78, ↓e46_79, ↓e46_84, ↓e46_86, ↓e46_89, ↓e46_90, ↓e46_93, ↓e46_94, ↓e46_96, ↓e46_99, ↓e46_100, ↓e46_103, ↓e46_106, ↓e46_107, ↓e46_108, ↓e46_109, ↓e46_110, ↓e46_111, ↓e46_112, ↓e46_113, ↓e46_114, ↓e46_115, ↓e46_116, ↓e46_119, znl_i, znl_r, znl_n, zcs_0, zcs_1, zcs_2, zcs_3, zcat_0, zcat_1, zcat_2, zcat_3, zbl_0, zbl_1, true_and, and_true, ↓zret_some, ↓zret_none, Nat.reduceAdd, Nat.reduceLeDiff, Nat.reduceMul, eq_self, Int.reduceToNat, Int.reduceLE, Int.reduceLT, Int.reduceNeg, and_self, zrg, zkc_0, zin_1, zin_2, zin_3, zin_4, zin_5, zin_6, zin_7, zin_8, zin_9, zaa_9, zkc_10, zin_11, zin_12, zkc_13, zin_14, zin_15, zkc_16, zin_17, zin_18, zkc_19, zin_20, zin_21, zin_22, zin_23, zin_24, zin_25, zin_26, zin_27, zin_28, zaa_28, zkc_29, zin_30, zin_31, zkc_32, zin_33, zin_34, zkc_35, zin_36, zin_37, zkc_38, zin_39, zin_40, zin_41, zin_42, zin_43, zin_44, zin_45, zin_46, zin_47, zaa_47, zkc_48, zin_49, zin_50, zkc_51, zin_52, zin_53, zkc_54, zin_55, zin_56, zkc_209, zkc_210, zin_211, zaa_211, zkc_212, zin_213, zkc_214, zkc_215, zin_216, zin_217, zkc_218, zin_219, zin_220, zin_221, zkc_222, zin_223, zaa_223, zin_224, zin_225, zkc_226, zin_227, zin_228, zin_229, zin_230, zin_231, zin_232, zkc_233, zin_234, zaa_234, zin_235, zin_236, zin_237, zin_238, zin_239, zin_240, zin_241, zin_242, zin_243, zin_244, zin_245, zin_246, zin_247, zin_248, zin_249, zin_250, zkc_251, zin_252, zin_253, zkc_374, zin_375, zin_376, zin_377, zin_378, zin_379, zin_380, zin_381, zin_382, zin_383, zin_384, zin_385, zin_386, zin_387, e1, ↓reduceIte]
      refine s_firstPartner d _ N S pl p c (by omega) (by omega) hcp hRN hW v1 hPN v2 (fun N2 u1 u2 => ?_)
      have hR2 : RelC N2 0 S := RelC_congr (fun b hb => u1 b (by omega) (by omega) (by omega)) hRN
      have hF2 : ∀ b, 19 ≤ b → b ≠ 224 → b ≠ 225 → (b < 254 ∨ 374 ≤ b) → N2 b = M b := fun b _ b1 b2 b3 => (u1 b b1 b2 b3).trans (v3 b b1 b2 b3)
      rw [zret_some]
      rcases hfr2 with y | ⟨y1, y2, y3, y4⟩
      · rw [if_neg (by omega)] at hQ
        rw [y, if_pos (by omega)]
        simp only [↓e46, ↓e46_0, ↓e46_1, ↓e46_4, ↓e46_7, ↓e46_8, ↓e46_9, ↓e46_10, ↓e46_11, ↓e46_14, ↓e46_17, ↓e46_18, ↓e46_19, ↓e46_20, ↓e46_21, ↓e46_22, ↓e46_25, ↓e46_26, ↓e46_27, ↓e46_30, ↓e46_34, ↓e46_36, ↓e46_37, ↓e46_39, ↓e46_40, ↓e46_43, ↓e46_45, ↓e46_47, ↓e46_50, ↓e46_51, ↓e46_54, ↓e46_55, ↓e46_57, ↓e46_58, ↓e46_61, ↓e46_62, ↓e46_65, ↓e46_68, ↓e46_69, ↓e46_70, ↓e46_71, ↓e46_72, ↓e46_73, ↓e46_74, ↓e46_75, ↓e46_76, ↓e46_78, ↓e46_79, ↓e46_82, ↓e46_84, ↓e46_86, ↓e46_89, ↓e46_90, ↓e46_93, ↓e46_94, ↓e46_96, ↓e46_99, ↓e46_100, ↓e46_103, ↓e46_106, ↓e46_107, ↓e46_108, ↓e46_109, ↓e46_110, ↓e46_111, ↓e46_112, ↓e46_113, ↓e46_114, ↓e46_115, ↓e46_116, znl_i, znl_r, znl_n, zcs_0, zcs_1, zcs_2, zcs_3, zcat_0, zcat_1, zcat_2, zcat_3, zbl_0, zbl_1, true_and, and_true, ↓zret_some, ↓zret_none, Nat.reduceAdd, Nat.reduceLeDiff, Nat.reduceMul, eq_self, Int.reduceToNat, Int.reduceLE, Int.reduceLT, Int.reduceNeg, and_self, zrg, zkc_0, zin_1, zin_2, zin_3, zin_4, zin_5, zin_6, zin_7, zin_8, zin_9, zaa_9, zkc_10, zin_11, zin_12, zkc_13, zin_14, zin_15, zkc_16, zin_17, zin_18, zkc_19, zin_20, zin_21, zin_22, zin_23, zin_24, zin_25, zin_26, zin_27, zin_28, zaa_28, zkc_29, zin_30, zin_31, zkc_32, zin_33, zin_34, zkc_35, zin_36, zin_37, zkc_38, zin_39, zin_40, zin_41, zin_42, zin_43, zin_44, zin_45, zin_46, zin_47, zaa_47, zkc_48, zin_49, zin_50, zkc_51, zin_52, zin_53, zkc_54, zin_55, zin_56, zkc_209, zkc_210, zin_211, zaa_211, zkc_212, zin_213, zkc_214, zkc_215, zin_216, zin_217, zkc_218, zin_219, zin_220, zin_221, zkc_222, zin_223, zaa_223, zin_224, zin_225, zkc_226, zin_227, zin_228, zin_229, zin_230, zin_231, zin_232, zkc_233, zin_234, zaa_234, zin_235, zin_236, zin_237, zin_238, zin_239, zin_240, zin_241, zin_242, zin_243, zin_244, zin_245, zin_246, zin_247, zin_248, zin_249, zin_250, zkc_251, zin_252, zin_253, zkc_374, zin_375, zin_376, zin_377, zin_378, zin_379, zin_380, zin_381, zin_382, zin_383, zin_384, zin_385, zin_386, zin_387, ↓reduceIte]
        rw [← hcN]
        refine s_stayOrStep d _ N2 S m hm h0 hB hR2 hW (fun N3 t1 t2 => ?_)
        rw [zret_none]
        simp only [↓e46, ↓e46_0, ↓e46_1, ↓e46_4, ↓e46_7, ↓e46_8, ↓e46_9, ↓e46_10, ↓e46_11, ↓e46_14, ↓e46_17, ↓e46_18, ↓e46_19, ↓e46_20, ↓e46_21, ↓e46_22, ↓e46_25, ↓e46_26, ↓e46_27, ↓e46_30, ↓e46_34, ↓e46_36, ↓e46_37, ↓e46_39, ↓e46_40, ↓e46_43, ↓e46_45, ↓e46_47, ↓e46_50, ↓e46_51, ↓e46_54, ↓e46_55, ↓e46_57, ↓e46_58, ↓e46_61, ↓e46_62, ↓e46_65, ↓e46_68, ↓e46_69, ↓e46_70, ↓e46_71, ↓e46_72, ↓e46_73, ↓e46_74, ↓e46_75, ↓e46_76, ↓e46_78, ↓e46_79, ↓e46_82, ↓e46_84, ↓e46_86, ↓e46_89, ↓e46_90, ↓e46_93, ↓e46_94, ↓e46_96, ↓e46_99, ↓e46_100, ↓e46_103, ↓e46_106, ↓e46_107, ↓e46_108, ↓e46_109, ↓e46_110, ↓e46_111, ↓e46_112, ↓e46_113, ↓e46_114, ↓e46_115, ↓e46_116, ↓e46_119, znl_i, znl_r, znl_n, zcs_0, zcs_1, zcs_2, zcs_3, zcat_0, zcat_1, zcat_2, zcat_3, zbl_0, zbl_1, true_and, and_true, ↓zret_some, ↓zret_none, Nat.reduceAdd, Nat.reduceLeDiff, Nat.reduceMul, eq_self, Int.reduceToNat, Int.reduceLE, Int.reduceLT, Int.reduceNeg, and_self]
        rw [hcN] at t1
        exact hQ N3 t1 (fun b b0 b1 b2 b3 => (t2 b b0).trans (hF2 b b0 b1 b2 b3)) (Wv_cong t2 u2)
      · rw [if_pos y1] at hQ
        rw [if_neg (by omega)]
        have y5 := (part y3).2.1
        have y6 : (((frst (kPart S pl p c) (c : Int)).toNat : Nat) : Int) = frst (kPart S pl p c) (c : Int) := by omega
        rw [y6] at y5
        generalize frst (kPart S pl p c) (c : Int) = f at *
        obtain ⟨o, ho⟩ : ∃ o : Nat, onS S f = o := ⟨(onS S f).toNat, by omega⟩
        obtain ⟨o1, o2⟩ := onS_some ho
        have o3 : 0 ≤ (o : Int) ∧ (o : Int) < 10 := ⟨by omega, by omega⟩
        have o4 : -2147483648 ≤ (o : Int) ∧ (o : Int) < 2147483648 := ⟨by omega, by omega⟩
        have hmo : m ≠ o := fun z => by subst z; omega
        rw [ho, ← o2, ← hcN, Int.toNat_natCast] at hQ
        have m2 := hR2.2.1 m hm
        have m2o := hR2.2.1 o o1
        simp only [Nat.zero_add] at m2 m2o
        rw [if_neg (by omega)] at m2 m2o
        have h8 : 0 ≤ N2 2 (m : Int).toNat ∧ N2 2 (m : Int).toNat < 120 := by rw [Int.toNat_natCast, m2]; omega
        have h9 : 0 ≤ N2 2 (o : Int).toNat ∧ N2 2 (o : Int).toNat < 120 := by rw [Int.toNat_natCast, m2o]; omega
        have h7 := RelC_acc (RelC_xch (r := 4) hR2 hW hm o1 hmo h0 (by omega)) (k := 3) (by omega)
        rw [zput_8, zput_8] at h7
        rw [ho]
        simp only [↓e46, ↓e46_0, ↓e46_1, ↓e46_4, ↓e46_7, ↓e46_8, ↓e46_9, ↓e46_10, ↓e46_11, ↓e46_14, ↓e46_17, ↓e46_18, ↓e46_19, ↓e46_20, ↓e46_21, ↓e46_22, ↓e46_25, ↓e46_26, ↓e46_27, ↓e46_30, ↓e46_34, ↓e46_36, ↓e46_37, ↓e46_39, ↓e46_40, ↓e46_43, ↓e46_45, ↓e46_47, ↓e46_50, ↓e46_51, ↓e46_54, ↓e46_55, ↓e46_57, ↓e46_58, ↓e46_61, ↓e46_62, ↓e46_65, ↓e46_68, ↓e46_69, ↓e46_70, ↓e46_71, ↓e46_72, ↓e46_73, ↓e46_74, ↓e46_75, ↓e46_76, ↓e46_78, ↓e46_79, ↓e46_82, ↓e46_84, ↓e46_86, ↓e46_89, ↓e46_90, ↓e46_93, ↓e46_94, ↓e46_96, ↓e46_99, ↓e46_100, ↓e46_103, ↓e46_106, ↓e46_107, ↓e46_108, ↓e46_109, ↓e46_110, ↓e46_111, ↓e46_112, ↓e46_113, ↓e46_114, ↓e46_115, ↓e46_116, ↓e46_119, znl_i, znl_r, znl_n, zcs_0, zcs_1, zcs_2, zcs_3, zcat_0, zcat_1, zcat_2, zcat_3, zbl_0, zbl_1, true_and, and_true, ↓zret_some, ↓zret_none, Nat.reduceAdd, Nat.reduceLeDiff, Nat.reduceMul, eq_self, Int.reduceToNat, Int.reduceLE, Int.reduceLT, Int.reduceNeg, and_self, zrg, zkc_0, zin_1, zin_2, zin_3, zin_4, zin_5, zin_6, zin_7, zin_8, zin_9, zaa_9, zkc_10, zin_11, zin_12, zkc_13, zin_14, zin_15, zkc_16, zin_17, zin_18, zkc_19, zin_20, zin_21, zin_22, zin_23, zin_24, zin_25, zin_26, zin_27, zin_28, zaa_28, zkc_29, zin_30, zin_31, zkc_32, zin_33, zin_34, zkc_35, zin_36, zin_37, zkc_38, zin_39, zin_40, zin_41, zin_42, zin_43, zin_44, zin_45, zin_46, zin_47, zaa_47, zkc_48, zin_49, zin_50, zkc_51, zin_52, zin_53, zkc_54, zin_55, zin_56, zkc_209, zkc_210, zin_211, zaa_211, zkc_212, zin_213, zkc_214, zkc_215, zin_216, zin_217, zkc_218, zin_219, zin_220, zin_221, zkc_222, zin_223, zaa_223, zin_224, zin_225, zkc_226, zin_227, zin_228, zin_229, zin_230, zin_231, zin_232, zkc_233, zin_234, zaa_234, zin_235, zin_236, zin_237, zin_238, zin_239, zin_240, zin_241, zin_242, zin_243, zin_244, zin_245, zin_246, zin_247, zin_248, zin_249, zin_250, zkc_251, zin_252, zin_253, zkc_374, zin_375, zin_376, zin_377, zin_378, zin_379, zin_380, zin_381, zin_382, zin_383, zin_384, zin_385, zin_386, zin_387, o4, show ¬ (o : Int) < 0 by omega, ↓reduceIte, ↓s_exchange (d + 1) _ N2 m o hm0 o3 h8 h9, Int.toNat_natCast, zput_8, m2, m2o]
        exact hQ _ h7 (fun b b0 b1 b2 b3 => by
          rw [zup_ne _ _ _ (by omega), zput_ne (by omega), zput_ne (by omega)]
          exact hF2 b b0 b1 b2 b3) (Wv_cong (fun b hb => by rw [zup_ne _ _ _ (by omega), zput_ne (by omega), zput_ne (by omega)]) u2)
    · rw [if_pos z1] at hQ
      have z5 := good_ok (free z3).1 hcp
      have z6 := (free z3).2
      have z7 : (((frst (kFree S p c) (c : Int)).toNat : Nat) : Int) = frst (kFree S p c) (c : Int) := by omega
      rw [z7] at z6
      generalize frst (kFree S p c) (c : Int) = f at *
      have z8 : m5 f = f := by unfold m5; rw [if_neg (by omega)]
      have z9 : -2147483648 ≤ f ∧ f < 2147483648 := ⟨by omega, by omega⟩
      have m2 := hRN.2.1 m hm
      simp only [Nat.zero_add] at m2
      rw [if_neg (by omega)] at m2
      have h8 : 0 ≤ N 2 (m : Int).toNat ∧ N 2 (m : Int).toNat < 120 := by rw [Int.toNat_natCast, m2]; omega
      have h7 := RelC_acc (RelC_put (r := 0) hRN hW hm h0 ⟨z1, z2⟩ z6 z5.2.2) (k := 1) (by omega)
      rw [zput_8, zup_ne _ _ _ (show 8 ≠ 1 by omega)] at h7
      rw [z8]
      simp only [↓e46, ↓e46_0, ↓e46_1, ↓e46_4, ↓e46_7, ↓e46_8, ↓e46_9, ↓e46_10, ↓e46_11, ↓e46_14, ↓e46_17, ↓e46_18, ↓e46_19, ↓e46_20, ↓e46_21, ↓e46_22, ↓e46_25, ↓e46_26, ↓e46_27, ↓e46_30, ↓e46_34, ↓e46_36, ↓e46_37, ↓e46_39, ↓e46_40, ↓e46_43, ↓e46_45, ↓e46_47, ↓e46_50, ↓e46_51, ↓e46_54, ↓e46_55, ↓e46_57, ↓e46_58, ↓e46_61, ↓e46_62, ↓e46_65, ↓e46_68, ↓e46_69, ↓e46_70, ↓e46_71, ↓e46_72, ↓e46_73, ↓e46_74, ↓e46_75, ↓e46_76, ↓e46_78, ↓e46_79, ↓e46_82, ↓e46_84, ↓e46_86, ↓e46_89, ↓e46_90, ↓e46_93, ↓e46_94, ↓e46_96, ↓e46_99, ↓e46_100, ↓e46_103, ↓e46_106, ↓e46_107, ↓e46_108, ↓e46_109, ↓e46_110, ↓e46_111, ↓e46_112, ↓e46_113, ↓e46_114, ↓e46_115, ↓e46_116, ↓e46_119, znl_i, znl_r, znl_n, zcs_0, zcs_1, zcs_2, zcs_3, zcat_0, zcat_1, zcat_2, zcat_3, zbl_0, zbl_1, true_and, and_true, ↓zret_some, ↓zret_none, Nat.reduceAdd, Nat.reduceLeDiff, Nat.reduceMul, eq_self, Int.reduceToNat, Int.reduceLE, Int.reduceLT, Int.reduceNeg, and_self, zrg, zkc_0, zin_1, zin_2, zin_3, zin_4, zin_5, zin_6, zin_7, zin_8, zin_9, zaa_9, zkc_10, zin_11, zin_12, zkc_13, zin_14, zin_15, zkc_16, zin_17, zin_18, zkc_19, zin_20, zin_21, zin_22, zin_23, zin_24, zin_25, zin_26, zin_27, zin_28, zaa_28, zkc_29, zin_30, zin_31, zkc_32, zin_33, zin_34, zkc_35, zin_36, zin_37, zkc_38, zin_39, zin_40, zin_41, zin_42, zin_43, zin_44, zin_45, zin_46, zin_47, zaa_47, zkc_48, zin_49, zin_50, zkc_51, zin_52, zin_53, zkc_54, zin_55, zin_56, zkc_209, zkc_210, zin_211, zaa_211, zkc_212, zin_213, zkc_214, zkc_215, zin_216, zin_217, zkc_218, zin_219, zin_220, zin_221, zkc_222, zin_223, zaa_223, zin_224, zin_225, zkc_226, zin_227, zin_228, zin_229, zin_230, zin_231, zin_232, zkc_233, zin_234, zaa_234, zin_235, zin_236, zin_237, zin_238, zin_239, zin_240, zin_241, zin_242, zin_243, zin_244, zin_245, zin_246, zin_247, zin_248, zin_249, zin_250, zkc_251, zin_252, zin_253, zkc_374, zin_375, zin_376, zin_377, zin_378, zin_379, zin_380, zin_381, zin_382, zin_383, zin_384, zin_385, zin_386, zin_387, z9, show ¬ f < 0 by omega, ↓reduceIte, ↓s_step (d + 1) _ N m f 0 hm0 ⟨z1, z2⟩ h8, Int.toNat_natCast, zput_8, zup_ne _ _ _ (show 8 ≠ 1 by omega)]
      exact hQ _ h7 (fun b b0 b1 b2 b3 => by
        rw [zup_ne _ _ _ (by omega), zput_ne (by omega), zup_ne _ _ _ (by omega)]
        exact v3 b b1 b2 b3) (Wv_cong (fun b hb => by rw [zup_ne _ _ _ (by omega), zput_ne (by omega), zup_ne _ _ _ (by omega)]) v1)
/-- the leader's move -/
noncomputable def ldS (S : zM) : zM :=
  if S 8 1 < 0 then zup S 6 (ldr S).toNat 6
  else if S 8 1 = S 1 (ldr S).toNat then zup S 6 (ldr S).toNat 7
  else if dst (S 0) (S 8 1).toNat (S 1 (ldr S).toNat).toNat < 0 then zup S 6 (ldr S).toNat 8
  else if onS S (frst (kGood S (S 8 1).toNat (S 1 (ldr S).toNat).toNat) (S 1 (ldr S).toNat)) = -1 then sacc (sput S (ldr S).toNat (frst (kGood S (S 8 1).toNat (S 1 (ldr S).toNat).toNat) (S 1 (ldr S).toNat)) 0) 1
  else sstay S (ldr S).toNat 9
theorem rsn_ok {S : zM} (hW : WfS S) {m : Nat} {v : Int} (h0 : 0 ≤ S 1 m) : Kp S (zup S 6 m v) :=
  stay_ok hW (fun b hb => zup_ne _ _ _ (by omega)) (fun k _ => by simp [zup]) (fun b j hj _ _ => by
    have : j ≠ m := fun z => by subst z; omega
    simp [zup, this])
theorem near_ex {S : zM} {p c : Nat} (hp : p < 120) (hc : c < 120) (h : 0 < dst (S 0) p c) : 0 ≤ frst (kGood S p c) (c : Int) ∧ frst (kGood S p c) (c : Int) < 120 ∧ kGood S p c (frst (kGood S p c) (c : Int)).toNat = true := by
  rcases frst_cases (ok := kGood S p c) (c := (c : Int)) (by omega) with z | ⟨z1, z2, z3, -⟩
  · exfalso
    obtain ⟨b, b1, b2⟩ := dst_pred h
    have hb : b < 120 := pth_lt hp (dst_pth (w := S 0) (a := p) (c := b) (by omega))
    obtain ⟨k, k1, k2⟩ := adj_sym hb b1
    have := fdr_none 4 0 z k (by omega) (by omega) (by omega)
    rw [k2, Int.toNat_natCast] at this
    unfold kGood at this
    rw [decide_eq_false_iff_not] at this
    exact this b2
  · exact ⟨z1, z2, z3⟩
theorem ld_ok {S : zM} (hW : WfS S) (hl : 0 ≤ ldr S) : Kp S (ldS S) := by
  obtain ⟨l1, l2, l3⟩ := ldr_rng hW
  obtain ⟨l4, l5⟩ := l3 hl
  have ht := hW.2.2.2.2.2.2.2.1
  unfold ldS
  by_cases a1 : S 8 1 < 0
  · rw [if_pos a1]; exact rsn_ok hW l4
  rw [if_neg a1]
  by_cases a2 : S 8 1 = S 1 (ldr S).toNat
  · rw [if_pos a2]; exact rsn_ok hW l4
  rw [if_neg a2]
  by_cases a3 : dst (S 0) (S 8 1).toNat (S 1 (ldr S).toNat).toNat < 0
  · rw [if_pos a3]; exact rsn_ok hW l4
  rw [if_neg a3]
  have hne : (S 1 (ldr S).toNat).toNat ≠ (S 8 1).toNat := by omega
  have hnz : dst (S 0) (S 8 1).toNat (S 1 (ldr S).toNat).toNat ≠ 0 := fun z => hne (dst_zero z)
  obtain ⟨n1, n2, n3⟩ := near_ex (S := S) (p := (S 8 1).toNat) (c := (S 1 (ldr S).toNat).toNat) (by omega) (by omega) (by omega)
  rw [show (((S 1 (ldr S).toNat).toNat : Nat) : Int) = S 1 (ldr S).toNat by omega] at n1 n2 n3
  by_cases a4 : onS S (frst (kGood S (S 8 1).toNat (S 1 (ldr S).toNat).toNat) (S 1 (ldr S).toNat)) = -1
  · rw [if_pos a4]
    exact put_ok hW (by omega) l4 ⟨n1, n2⟩ (good_ok n3 hne).2.2 a4 (by omega)
  · rw [if_neg a4]
    exact stayS_ok hW l4
theorem s_moveLeader (d : Nat) (Q : zQ) (M S : zM) (hl : 0 ≤ ldr S) (hR : RelC M 0 S) (hW : WfS S) (hV : Wv M (S 0))
    (hQ : ∀ N, RelC N 0 (ldS S) → Fw M N → Wv N (S 0) → Q none N) : Sp (d + 3) 41 [.inr (.inr 251), .inl (ldr S)] M Q := by
  obtain ⟨l1, l2, l3⟩ := ldr_rng hW
  obtain ⟨l4, l5⟩ := l3 hl
  obtain ⟨m, hm⟩ : ∃ m : Nat, ldr S = m := ⟨(ldr S).toNat, by omega⟩
  have ht := hW.2.2.2.2.2.2.2.1
  unfold ldS at hQ
  rw [hm] at l4 l5 hQ ⊢
  simp only [Int.toNat_natCast] at l4 l5 hQ
  have hm10 : m < 10 := by omega
  have hm0 : 0 ≤ (m : Int) ∧ (m : Int) < 10 := ⟨by omega, by omega⟩
  have h2 := hR.2.1 m hm10
  have hg := hR.2.2.2.2.2.2.2.2.2.1
  simp only [Nat.zero_add] at h2 hg
  rw [if_neg (by omega)] at h2
  have r1 : -2147483648 ≤ S 1 m ∧ S 1 m < 2147483648 := ⟨by omega, by omega⟩
  have hg : M 0 10 = m5 (S 8 1) := hg
  have r2 : -2147483648 ≤ m5 (S 8 1) ∧ m5 (S 8 1) < 2147483648 := by unfold m5; constructor <;> split <;> omega
  simp only [↓e41, ↓e41_0, ↓e41_1, ↓e41_4, ↓e41_7, ↓e41_8, ↓e41_9, ↓e41_10, ↓e41_11, ↓e41_14, ↓e41_17, ↓e41_20, ↓e41_21, ↓e41_24, ↓e41_27, ↓e41_28, ↓e41_30, ↓e41_31, ↓e41_33, ↓e41_36, ↓e41_39, ↓e41_40, ↓e41_43, ↓e41_44, ↓e41_47, ↓e41_50, ↓e41_51, ↓e41_53, ↓e41_54, ↓e41_55, ↓e41_56, ↓e41_59, ↓e41_60, ↓e41_63, ↓e41_66, ↓e41_69, ↓e41_70, ↓e41_71, ↓e41_72, ↓e41_73, ↓e41_76, ↓e41_77, ↓e41_80, ↓e41_83, ↓e41_84, ↓e41_86, ↓e41_87, ↓e41_88, ↓e41_89, ↓e41_90, ↓e41_91, ↓e41_94, ↓e41_96, ↓e41_98, ↓e41_101, ↓e41_102, ↓e41_105, ↓e41_108, ↓e41_110, ↓e41_111, ↓e41_112, ↓e41_115, ↓e41_116, ↓e41_119, ↓e41_120, ↓e41_122, ↓e41_123, ↓e41_126, ↓e41_127, ↓e41_130, ↓e41_133, ↓e41_134, ↓e41_135, ↓e41_136, ↓e41_137, ↓e41_138, ↓e41_139, ↓e41_142, ↓e41_143, ↓e41_146, ↓e41_147, ↓e41_149, ↓e41_152, znl_i, znl_r, znl_n, zcs_0, zcs_1, zcs_2, zcs_3, zcat_0, zcat_1, zcat_2, zcat_3, zbl_0, zbl_1, true_and, and_true, ↓zret_some, ↓zret_none, Nat.reduceAdd, Nat.reduceLeDiff, Nat.reduceMul, eq_self, Int.reduceToNat, Int.reduceLE, Int.reduceLT, Int.reduceNeg, and_self, zrg, zkc_0, zin_1, zin_2, zin_3, zin_4, zin_5, zin_6, zin_7, zin_8, zin_9, zaa_9, zkc_10, zin_11, zin_12, zkc_13, zin_14, zin_15, zkc_16, zin_17, zin_18, zkc_19, zin_20, zin_21, zin_22, zin_23, zin_24, zin_25, zin_26, zin_27, zin_28, zaa_28, zkc_29, zin_30, zin_31, zkc_32, zin_33, zin_34, zkc_35, zin_36, zin_37, zkc_38, zin_39, zin_40, zin_41, zin_42, zin_43, zin_44, zin_45, zin_46, zin_47, zaa_47, zkc_48, zin_49, zin_50, zkc_51, zin_52, zin_53, zkc_54, zin_55, zin_56, zkc_209, zkc_210, zin_211, zaa_211, zkc_212, zin_213, zkc_214, zkc_215, zin_216, zin_217, zkc_218, zin_219, zin_220, zin_221, zkc_222, zin_223, zaa_223, zin_224, zin_225, zkc_226, zin_227, zin_228, zin_229, zin_230, zin_231, zin_232, zkc_233, zin_234, zaa_234, zin_235, zin_236, zin_237, zin_238, zin_239, zin_240, zin_241, zin_242, zin_243, zin_244, zin_245, zin_246, zin_247, zin_248, zin_249, zin_250, zkc_251, zin_252, zin_253, zkc_374, zin_375, zin_376, zin_377, zin_378, zin_379, zin_380, zin_381, zin_382, zin_383, zin_384, zin_385, zin_386, zin_387, hm0, Int.toNat_natCast, h2, hg, r2]
  by_cases a1 : S 8 1 < 0
  · rw [if_pos a1] at hQ
    rw [if_neg (by unfold m5; rw [if_pos a1]; omega)]
    exact hQ _ (RelC_num hR (b := 3) (e := 6) (by omega)) (fun b b0 _ _ _ => zup_ne _ _ _ (by omega)) (Wv_cong (fun b hb => zup_ne _ _ _ (by omega)) hV)
  rw [if_neg a1] at hQ
  have hm5 : m5 (S 8 1) = S 8 1 := by unfold m5; rw [if_neg a1]
  rw [hm5] at r2 hg ⊢
  rw [if_pos (by omega)]
  simp only [↓e41, ↓e41_0, ↓e41_1, ↓e41_4, ↓e41_7, ↓e41_8, ↓e41_9, ↓e41_10, ↓e41_11, ↓e41_14, ↓e41_17, ↓e41_20, ↓e41_21, ↓e41_24, ↓e41_27, ↓e41_28, ↓e41_30, ↓e41_31, ↓e41_32, ↓e41_33, ↓e41_36, ↓e41_39, ↓e41_40, ↓e41_43, ↓e41_44, ↓e41_47, ↓e41_50, ↓e41_51, ↓e41_53, ↓e41_54, ↓e41_56, ↓e41_59, ↓e41_60, ↓e41_63, ↓e41_66, ↓e41_69, ↓e41_70, ↓e41_71, ↓e41_72, ↓e41_73, ↓e41_76, ↓e41_77, ↓e41_80, ↓e41_83, ↓e41_84, ↓e41_86, ↓e41_87, ↓e41_88, ↓e41_89, ↓e41_90, ↓e41_91, ↓e41_94, ↓e41_96, ↓e41_98, ↓e41_101, ↓e41_102, ↓e41_105, ↓e41_108, ↓e41_110, ↓e41_111, ↓e41_112, ↓e41_115, ↓e41_116, ↓e41_119, ↓e41_120, ↓e41_122, ↓e41_123, ↓e41_126, ↓e41_127, ↓e41_130, ↓e41_133, ↓e41_134, ↓e41_135, ↓e41_136, ↓e41_137, ↓e41_138, ↓e41_139, ↓e41_142, ↓e41_143, ↓e41_146, ↓e41_147, ↓e41_149, ↓e41_152, znl_i, znl_r, znl_n, zcs_0, zcs_1, zcs_2, zcs_3, zcat_0, zcat_1, zcat_2, zcat_3, zbl_0, zbl_1, true_and, and_true, ↓zret_some, ↓zret_none, Nat.reduceAdd, Nat.reduceLeDiff, Nat.reduceMul, eq_self, Int.reduceToNat, Int.reduceLE, Int.reduceLT, Int.reduceNeg, and_self, zrg, zkc_0, zin_1, zin_2, zin_3, zin_4, zin_5, zin_6, zin_7, zin_8, zin_9, zaa_9, zkc_10, zin_11, zin_12, zkc_13, zin_14, zin_15, zkc_16, zin_17, zin_18, zkc_19, zin_20, zin_21, zin_22, zin_23, zin_24, zin_25, zin_26, zin_27, zin_28, zaa_28, zkc_29, zin_30, zin_31, zkc_32, zin_33, zin_34, zkc_35, zin_36, zin_37, zkc_38, zin_39, zin_40, zin_41, zin_42, zin_43, zin_44, zin_45, zin_46, zin_47, zaa_47, zkc_48, zin_49, zin_50, zkc_51, zin_52, zin_53, zkc_54, zin_55, zin_56, zkc_209, zkc_210, zin_211, zaa_211, zkc_212, zin_213, zkc_214, zkc_215, zin_216, zin_217, zkc_218, zin_219, zin_220, zin_221, zkc_222, zin_223, zaa_223, zin_224, zin_225, zkc_226, zin_227, zin_228, zin_229, zin_230, zin_231, zin_232, zkc_233, zin_234, zaa_234, zin_235, zin_236, zin_237, zin_238, zin_239, zin_240, zin_241, zin_242, zin_243, zin_244, zin_245, zin_246, zin_247, zin_248, zin_249, zin_250, zkc_251, zin_252, zin_253, zkc_374, zin_375, zin_376, zin_377, zin_378, zin_379, zin_380, zin_381, zin_382, zin_383, zin_384, zin_385, zin_386, zin_387, hm0, Int.toNat_natCast, hg, r1, r2, ne_eq, ite_not]
  by_cases a2 : S 8 1 = S 1 m
  · rw [if_pos a2] at hQ
    rw [if_pos a2]
    exact hQ _ (RelC_num hR (b := 3) (e := 6) (by omega)) (fun b b0 _ _ _ => zup_ne _ _ _ (by omega)) (Wv_cong (fun b hb => zup_ne _ _ _ (by omega)) hV)
  rw [if_neg a2] at hQ
  rw [if_neg a2]
  obtain ⟨p, hpN⟩ : ∃ p : Nat, S 8 1 = p := ⟨(S 8 1).toNat, by omega⟩
  obtain ⟨c, hcN⟩ : ∃ c : Nat, S 1 m = c := ⟨(S 1 m).toNat, by omega⟩
  have hcp : c ≠ p := by omega
  simp only [hpN, hcN, Int.toNat_natCast] at hQ
  simp only [↓e41, ↓e41_0, ↓e41_1, ↓e41_4, ↓e41_7, ↓e41_8, ↓e41_9, ↓e41_10, ↓e41_11, ↓e41_14, ↓e41_17, ↓e41_20, ↓e41_21, ↓e41_24, ↓e41_27, ↓e41_28, ↓e41_30, ↓e41_31, ↓e41_32, ↓e41_33, ↓e41_36, ↓e41_39, ↓e41_40, ↓e41_43, ↓e41_44, ↓e41_47, ↓e41_50, ↓e41_51, ↓e41_53, ↓e41_54, ↓e41_55, ↓e41_56, ↓e41_59, ↓e41_60, ↓e41_63, ↓e41_66, ↓e41_70, ↓e41_71, ↓e41_72, ↓e41_73, ↓e41_76, ↓e41_77, ↓e41_80, ↓e41_83, ↓e41_84, ↓e41_86, ↓e41_87, ↓e41_88, ↓e41_89, ↓e41_90, ↓e41_91, ↓e41_94, ↓e41_96, ↓e41_98, ↓e41_101, ↓e41_102, ↓e41_105, ↓e41_108, ↓e41_110, ↓e41_111, ↓e41_112, ↓e41_115, ↓e41_116, ↓e41_119, ↓e41_120, ↓e41_122, ↓e41_123, ↓e41_126, ↓e41_127, ↓e41_130, ↓e41_133, ↓e41_134, ↓e41_135, ↓e41_136, ↓e41_137, ↓e41_138, ↓e41_139, ↓e41_142, ↓e41_143, ↓e41_146, ↓e41_147, ↓e41_149, ↓e41_152, znl_i, znl_r, znl_n, zcs_0, zcs_1, zcs_2, zcs_3, zcat_0, zcat_1, zcat_2, zcat_3, zbl_0, zbl_1, true_and, and_true, ↓zret_some, ↓zret_none, Nat.reduceAdd, Nat.reduceLeDiff, Nat.reduceMul, eq_self, Int.reduceToNat, Int.reduceLE, Int.reduceLT, Int.reduceNeg, and_self, zrg, zkc_0, zin_1, zin_2, zin_3, zin_4, zin_5, zin_6, zin_7, zin_8, zin_9, zaa_9, zkc_10, zin_11, zin_12, zkc_13, zin_14, zin_15, zkc_16, zin_17, zin_18, zkc_19, zin_20, zin_21, zin_22, zin_23, zin_24, zin_25, zin_26, zin_27, zin_28, zaa_28, zkc_29, zin_30, zin_31, zkc_32, zin_33, zin_34, zkc_35, zin_36, zin_37, zkc_38, zin_39, zin_40, zin_41, zin_42, zin_43, zin_44, zin_45, zin_46, zin_47, zaa_47, zkc_48, zin_49, zin_50, zkc_51, zin_52, zin_53, zkc_54, zin_55, zin_56, zkc_209, zkc_210, zin_211, zaa_211, zkc_212, zin_213, zkc_214, zkc_215, zin_216, zin_217, zkc_218, zin_219, zin_220, zin_221, zkc_222, zin_223, zaa_223, zin_224, zin_225, zkc_226, zin_227, zin_228, zin_229, zin_230, zin_231, zin_232, zkc_233, zin_234, zaa_234, zin_235, zin_236, zin_237, zin_238, zin_239, zin_240, zin_241, zin_242, zin_243, zin_244, zin_245, zin_246, zin_247, zin_248, zin_249, zin_250, zkc_251, zin_252, zin_253, zkc_374, zin_375, zin_376, zin_377, zin_378, zin_379, zin_380, zin_381, zin_382, zin_383, zin_384, zin_385, zin_386, zin_387, hg, hpN, hcN]
  refine s_from (d) _ M (S 0) p (by omega) (Hw_of hR hW) hV (fun N v1 v2 v3 => ?_)
  have hRN : RelC N 0 S := RelC_congr (fun b hb => v3 b (by omega) (by omega) (by omega)) hR
  have hzp : ∀ i : Int, zin 0 (254 + p) i = (0 ≤ i ∧ i < 120) := fun i => zin_of (n := 120) (zkD (by omega))
  have hc0 : 0 ≤ (c : Int) ∧ (c : Int) < 120 := ⟨by omega, by omega⟩
  have t1 := dd_rng (w := S 0) (q := p) (c := c) (by omega)
  have t3 : -2147483648 ≤ dd (S 0) p c ∧ dd (S 0) p c < 2147483648 := ⟨by omega, by omega⟩
  have t4 := dst_rng (S 0) p c
  rw [zret_some]
  simp only [↓e41, ↓e41_0, ↓e41_1, ↓e41_4, ↓e41_7, ↓e41_8, ↓e41_9, ↓e41_10, ↓e41_11, ↓e41_14, ↓e41_17, ↓e41_20, ↓e41_21, ↓e41_24, ↓e41_27, ↓e41_28, ↓e41_30, ↓e41_31, ↓e41_32, ↓e41_33, ↓e41_36, ↓e41_39, ↓e41_40, ↓e41_43, ↓e41_44, ↓e41_47, ↓e41_50, ↓e41_51, ↓e41_53, ↓e41_54, ↓e41_55, ↓e41_56, ↓e41_59, ↓e41_60, ↓e41_63, ↓e41_66, ↓e41_69, ↓e41_70, ↓e41_71, ↓e41_72, ↓e41_73, ↓e41_76, ↓e41_77, ↓e41_80, ↓e41_83, ↓e41_84, ↓e41_86, ↓e41_87, ↓e41_89, ↓e41_90, ↓e41_91, ↓e41_94, ↓e41_96, ↓e41_98, ↓e41_101, ↓e41_102, ↓e41_105, ↓e41_108, ↓e41_110, ↓e41_111, ↓e41_112, ↓e41_115, ↓e41_116, ↓e41_119, ↓e41_120, ↓e41_122, ↓e41_123, ↓e41_126, ↓e41_127, ↓e41_130, ↓e41_133, ↓e41_134, ↓e41_135, ↓e41_136, ↓e41_137, ↓e41_138, ↓e41_139, ↓e41_142, ↓e41_143, ↓e41_146, ↓e41_147, ↓e41_149, ↓e41_152, znl_i, znl_r, znl_n, zcs_0, zcs_1, zcs_2, zcs_3, zcat_0, zcat_1, zcat_2, zcat_3, zbl_0, zbl_1, true_and, and_true, ↓zret_some, ↓zret_none, Nat.reduceAdd, Nat.reduceLeDiff, Nat.reduceMul, eq_self, Int.reduceToNat, Int.reduceLE, Int.reduceLT, Int.reduceNeg, and_self, zrg, zkc_0, zin_1, zin_2, zin_3, zin_4, zin_5, zin_6, zin_7, zin_8, zin_9, zaa_9, zkc_10, zin_11, zin_12, zkc_13, zin_14, zin_15, zkc_16, zin_17, zin_18, zkc_19, zin_20, zin_21, zin_22, zin_23, zin_24, zin_25, zin_26, zin_27, zin_28, zaa_28, zkc_29, zin_30, zin_31, zkc_32, zin_33, zin_34, zkc_35, zin_36, zin_37, zkc_38, zin_39, zin_40, zin_41, zin_42, zin_43, zin_44, zin_45, zin_46, zin_47, zaa_47, zkc_48, zin_49, zin_50, zkc_51, zin_52, zin_53, zkc_54, zin_55, zin_56, zkc_209, zkc_210, zin_211, zaa_211, zkc_212, zin_213, zkc_214, zkc_215, zin_216, zin_217, zkc_218, zin_219, zin_220, zin_221, zkc_222, zin_223, zaa_223, zin_224, zin_225, zkc_226, zin_227, zin_228, zin_229, zin_230, zin_231, zin_232, zkc_233, zin_234, zaa_234, zin_235, zin_236, zin_237, zin_238, zin_239, zin_240, zin_241, zin_242, zin_243, zin_244, zin_245, zin_246, zin_247, zin_248, zin_249, zin_250, zkc_251, zin_252, zin_253, zkc_374, zin_375, zin_376, zin_377, zin_378, zin_379, zin_380, zin_381, zin_382, zin_383, zin_384, zin_385, zin_386, zin_387, hzp, hc0, Int.toNat_natCast, v2 c (by omega), t3]
  by_cases a3 : dst (S 0) p c < 0
  · rw [if_pos a3] at hQ
    rw [if_neg (by unfold dd; rw [if_pos (by omega)]; omega)]
    simp only [hm0, and_self, true_and]
    exact hQ _ (RelC_num hRN (b := 3) (e := 6) (by omega)) (fun b b0 b1 b2 b3 => by rw [zup_ne _ _ _ (by omega)]; exact v3 b b1 b2 b3) (Wv_cong (fun b hb => zup_ne _ _ _ (by omega)) v1)
  rw [if_neg a3] at hQ
  rw [if_pos (by unfold dd; rw [if_neg (by omega)]; omega)]
  have hnz : dst (S 0) p c ≠ 0 := fun z => hcp (dst_zero z)
  obtain ⟨n1, n2, n3⟩ := near_ex (S := S) (p := p) (c := c) (by omega) (by omega) (by omega)
  have n4 := (good_ok n3 hcp).2.2
  simp only [↓e41, ↓e41_0, ↓e41_1, ↓e41_4, ↓e41_7, ↓e41_8, ↓e41_9, ↓e41_10, ↓e41_11, ↓e41_14, ↓e41_17, ↓e41_20, ↓e41_21, ↓e41_24, ↓e41_27, ↓e41_28, ↓e41_30, ↓e41_31, ↓e41_32, ↓e41_33, ↓e41_36, ↓e41_39, ↓e41_40, ↓e41_43, ↓e41_44, ↓e41_47, ↓e41_50, ↓e41_51, ↓e41_53, ↓e41_54, ↓e41_55, ↓e41_56, ↓e41_59, ↓e41_60, ↓e41_63, ↓e41_66, ↓e41_69, ↓e41_70, ↓e41_71, ↓e41_72, ↓e41_73, ↓e41_76, ↓e41_77, ↓e41_80, ↓e41_83, ↓e41_84, ↓e41_86, ↓e41_87, ↓e41_88, ↓e41_89, ↓e41_90, ↓e41_91, ↓e41_96, ↓e41_98, ↓e41_101, ↓e41_102, ↓e41_105, ↓e41_108, ↓e41_110, ↓e41_111, ↓e41_112, ↓e41_115, ↓e41_116, ↓e41_119, ↓e41_120, ↓e41_122, ↓e41_123, ↓e41_126, ↓e41_127, ↓e41_130, ↓e41_133, ↓e41_134, ↓e41_135, ↓e41_136, ↓e41_137, ↓e41_138, ↓e41_139, ↓e41_142, ↓e41_143, ↓e41_146, ↓e41_147, ↓e41_149, ↓e41_152, znl_i, znl_r, znl_n, zcs_0, zcs_1, zcs_2, zcs_3, zcat_0, zcat_1, zcat_2, zcat_3, zbl_0, zbl_1, true_and, and_true, ↓zret_some, ↓zret_none, Nat.reduceAdd, Nat.reduceLeDiff, Nat.reduceMul, eq_self, Int.reduceToNat, Int.reduceLE, Int.reduceLT, Int.reduceNeg, and_self, zrg, zkc_0, zin_1, zin_2, zin_3, zin_4, zin_5, zin_6, zin_7, zin_8, zin_9, zaa_9, zkc_10, zin_11, zin_12, zkc_13, zin_14, zin_15, zkc_16, zin_17, zin_18, zkc_19, zin_20, zin_21, zin_22, zin_23, zin_24, zin_25, zin_26, zin_27, zin_28, zaa_28, zkc_29, zin_30, zin_31, zkc_32, zin_33, zin_34, zkc_35, zin_36, zin_37, zkc_38, zin_39, zin_40, zin_41, zin_42, zin_43, zin_44, zin_45, zin_46, zin_47, zaa_47, zkc_48, zin_49, zin_50, zkc_51, zin_52, zin_53, zkc_54, zin_55, zin_56, zkc_209, zkc_210, zin_211, zaa_211, zkc_212, zin_213, zkc_214, zkc_215, zin_216, zin_217, zkc_218, zin_219, zin_220, zin_221, zkc_222, zin_223, zaa_223, zin_224, zin_225, zkc_226, zin_227, zin_228, zin_229, zin_230, zin_231, zin_232, zkc_233, zin_234, zaa_234, zin_235, zin_236, zin_237, zin_238, zin_239, zin_240, zin_241, zin_242, zin_243, zin_244, zin_245, zin_246, zin_247, zin_248, zin_249, zin_250, zkc_251, zin_252, zin_253, zkc_374, zin_375, zin_376, zin_377, zin_378, zin_379, zin_380, zin_381, zin_382, zin_383, zin_384, zin_385, zin_386, zin_387, ↓s_firstNearer d _ N S p c (by omega) (by omega) hcp v2]
  generalize hf : frst (kGood S p c) (c : Int) = f at *
  have f5 : m5 f = f := by unfold m5; rw [if_neg (by omega)]
  have f6 : -2147483648 ≤ f ∧ f < 2147483648 := ⟨by omega, by omega⟩
  have f7 := hRN.1 f.toNat (by omega)
  simp only [Nat.zero_add] at f7
  rw [if_neg n4, show ((f.toNat : Nat) : Int) = f by omega] at f7
  have f8 := onS_rng S f
  have f9 : -2147483648 ≤ onS S f ∧ onS S f < 2147483648 := ⟨by omega, by omega⟩
  have m2 := hRN.2.1 m hm10
  simp only [Nat.zero_add] at m2
  rw [if_neg (by omega)] at m2
  have h8 : 0 ≤ N 2 (m : Int).toNat ∧ N 2 (m : Int).toNat < 120 := by rw [Int.toNat_natCast, m2]; omega
  have f0 : 0 ≤ f ∧ f < 120 := ⟨n1, n2⟩
  simp only [↓e41, ↓e41_0, ↓e41_1, ↓e41_4, ↓e41_7, ↓e41_8, ↓e41_9, ↓e41_10, ↓e41_11, ↓e41_14, ↓e41_17, ↓e41_20, ↓e41_21, ↓e41_24, ↓e41_27, ↓e41_28, ↓e41_30, ↓e41_31, ↓e41_32, ↓e41_33, ↓e41_36, ↓e41_39, ↓e41_40, ↓e41_43, ↓e41_44, ↓e41_47, ↓e41_50, ↓e41_51, ↓e41_53, ↓e41_54, ↓e41_55, ↓e41_56, ↓e41_59, ↓e41_60, ↓e41_63, ↓e41_66, ↓e41_69, ↓e41_70, ↓e41_71, ↓e41_72, ↓e41_73, ↓e41_76, ↓e41_77, ↓e41_80, ↓e41_83, ↓e41_84, ↓e41_86, ↓e41_87, ↓e41_88, ↓e41_89, ↓e41_90, ↓e41_91, ↓e41_94, ↓e41_96, ↓e41_98, ↓e41_101, ↓e41_102, ↓e41_105, ↓e41_108, ↓e41_110, ↓e41_111, ↓e41_112, ↓e41_116, ↓e41_119, ↓e41_120, ↓e41_122, ↓e41_123, ↓e41_126, ↓e41_127, ↓e41_130, ↓e41_133, ↓e41_134, ↓e41_135, ↓e41_136, ↓e41_137, ↓e41_138, ↓e41_139, ↓e41_143, ↓e41_146, ↓e41_147, ↓e41_149, ↓e41_152, znl_i, znl_r, znl_n, zcs_0, zcs_1, zcs_2, zcs_3, zcat_0, zcat_1, zcat_2, zcat_3, zbl_0, zbl_1, true_and, and_true, ↓zret_some, ↓zret_none, Nat.reduceAdd, Nat.reduceLeDiff, Nat.reduceMul, eq_self, Int.reduceToNat, Int.reduceLE, Int.reduceLT, Int.reduceNeg, and_self, zrg, zkc_0, zin_1, zin_2, zin_3, zin_4, zin_5, zin_6, zin_7, zin_8, zin_9, zaa_9, zkc_10, zin_11, zin_12, zkc_13, zin_14, zin_15, zkc_16, zin_17, zin_18, zkc_19, zin_20, zin_21, zin_22, zin_23, zin_24, zin_25, zin_26, zin_27, zin_28, zaa_28, zkc_29, zin_30, zin_31, zkc_32, zin_33, zin_34, zkc_35, zin_36, zin_37, zkc_38, zin_39, zin_40, zin_41, zin_42, zin_43, zin_44, zin_45, zin_46, zin_47, zaa_47, zkc_48, zin_49, zin_50, zkc_51, zin_52, zin_53, zkc_54, zin_55, zin_56, zkc_209, zkc_210, zin_211, zaa_211, zkc_212, zin_213, zkc_214, zkc_215, zin_216, zin_217, zkc_218, zin_219, zin_220, zin_221, zkc_222, zin_223, zaa_223, zin_224, zin_225, zkc_226, zin_227, zin_228, zin_229, zin_230, zin_231, zin_232, zkc_233, zin_234, zaa_234, zin_235, zin_236, zin_237, zin_238, zin_239, zin_240, zin_241, zin_242, zin_243, zin_244, zin_245, zin_246, zin_247, zin_248, zin_249, zin_250, zkc_251, zin_252, zin_253, zkc_374, zin_375, zin_376, zin_377, zin_378, zin_379, zin_380, zin_381, zin_382, zin_383, zin_384, zin_385, zin_386, zin_387, f5, f6, show ¬ f < 0 by omega, ↓reduceIte, f0, f7, f9, ne_eq, ite_not]
  by_cases a4 : onS S f = -1
  · rw [if_pos a4] at hQ
    rw [if_pos a4]
    have h7 := RelC_acc (RelC_put (r := 0) hRN hW hm10 (by omega) f0 a4 n4) (k := 1) (by omega)
    rw [zput_8, zup_ne _ _ _ (show 8 ≠ 1 by omega)] at h7
    simp only [↓e41, ↓e41_0, ↓e41_1, ↓e41_4, ↓e41_7, ↓e41_8, ↓e41_9, ↓e41_10, ↓e41_11, ↓e41_14, ↓e41_17, ↓e41_20, ↓e41_21, ↓e41_24, ↓e41_27, ↓e41_28, ↓e41_30, ↓e41_31, ↓e41_32, ↓e41_33, ↓e41_36, ↓e41_39, ↓e41_40, ↓e41_43, ↓e41_44, ↓e41_47, ↓e41_50, ↓e41_51, ↓e41_53, ↓e41_54, ↓e41_55, ↓e41_56, ↓e41_59, ↓e41_60, ↓e41_63, ↓e41_66, ↓e41_69, ↓e41_70, ↓e41_71, ↓e41_72, ↓e41_73, ↓e41_76, ↓e41_77, ↓e41_80, ↓e41_83, ↓e41_84, ↓e41_86, ↓e41_87, ↓e41_88, ↓e41_89, ↓e41_90, ↓e41_91, ↓e41_94, ↓e41_96, ↓e41_98, ↓e41_101, ↓e41_102, ↓e41_105, ↓e41_108, ↓e41_110, ↓e41_111, ↓e41_112, ↓e41_115, ↓e41_116, ↓e41_119, ↓e41_120, ↓e41_122, ↓e41_123, ↓e41_126, ↓e41_127, ↓e41_130, ↓e41_133, ↓e41_134, ↓e41_135, ↓e41_136, ↓e41_137, ↓e41_138, ↓e41_139, ↓e41_142, ↓e41_143, ↓e41_146, ↓e41_147, ↓e41_149, ↓e41_152, znl_i, znl_r, znl_n, zcs_0, zcs_1, zcs_2, zcs_3, zcat_0, zcat_1, zcat_2, zcat_3, zbl_0, zbl_1, true_and, and_true, ↓zret_some, ↓zret_none, Nat.reduceAdd, Nat.reduceLeDiff, Nat.reduceMul, eq_self, Int.reduceToNat, Int.reduceLE, Int.reduceLT, Int.reduceNeg, and_self, zrg, zkc_0, zin_1, zin_2, zin_3, zin_4, zin_5, zin_6, zin_7, zin_8, zin_9, zaa_9, zkc_10, zin_11, zin_12, zkc_13, zin_14, zin_15, zkc_16, zin_17, zin_18, zkc_19, zin_20, zin_21, zin_22, zin_23, zin_24, zin_25, zin_26, zin_27, zin_28, zaa_28, zkc_29, zin_30, zin_31, zkc_32, zin_33, zin_34, zkc_35, zin_36, zin_37, zkc_38, zin_39, zin_40, zin_41, zin_42, zin_43, zin_44, zin_45, zin_46, zin_47, zaa_47, zkc_48, zin_49, zin_50, zkc_51, zin_52, zin_53, zkc_54, zin_55, zin_56, zkc_209, zkc_210, zin_211, zaa_211, zkc_212, zin_213, zkc_214, zkc_215, zin_216, zin_217, zkc_218, zin_219, zin_220, zin_221, zkc_222, zin_223, zaa_223, zin_224, zin_225, zkc_226, zin_227, zin_228, zin_229, zin_230, zin_231, zin_232, zkc_233, zin_234, zaa_234, zin_235, zin_236, zin_237, zin_238, zin_239, zin_240, zin_241, zin_242, zin_243, zin_244, zin_245, zin_246, zin_247, zin_248, zin_249, zin_250, zkc_251, zin_252, zin_253, zkc_374, zin_375, zin_376, zin_377, zin_378, zin_379, zin_380, zin_381, zin_382, zin_383, zin_384, zin_385, zin_386, zin_387, ↓s_step d _ N m f 0 hm0 f0 h8, Int.toNat_natCast, zput_8, zup_ne _ _ _ (show 8 ≠ 1 by omega)]
    exact hQ _ h7 (fun b b0 b1 b2 b3 => by
      rw [zup_ne _ _ _ (by omega), zput_ne (by omega), zup_ne _ _ _ (by omega)]
      exact v3 b b1 b2 b3) (Wv_cong (fun b hb => by rw [zup_ne _ _ _ (by omega), zput_ne (by omega), zup_ne _ _ _ (by omega)]) v1)
  · rw [if_neg a4] at hQ
    rw [if_neg a4]
    simp only [↓e41, ↓e41_0, ↓e41_1, ↓e41_4, ↓e41_7, ↓e41_8, ↓e41_9, ↓e41_10, ↓e41_11, ↓e41_14, ↓e41_17, ↓e41_20, ↓e41_21, ↓e41_24, ↓e41_27, ↓e41_28, ↓e41_30, ↓e41_31, ↓e41_32, ↓e41_33, ↓e41_36, ↓e41_39, ↓e41_40, ↓e41_43, ↓e41_44, ↓e41_47, ↓e41_50, ↓e41_51, ↓e41_53, ↓e41_54, ↓e41_55, ↓e41_56, ↓e41_59, ↓e41_60, ↓e41_63, ↓e41_66, ↓e41_69, ↓e41_70, ↓e41_71, ↓e41_72, ↓e41_73, ↓e41_76, ↓e41_77, ↓e41_80, ↓e41_83, ↓e41_84, ↓e41_86, ↓e41_87, ↓e41_88, ↓e41_89, ↓e41_90, ↓e41_91, ↓e41_94, ↓e41_96, ↓e41_98, ↓e41_101, ↓e41_102, ↓e41_105, ↓e41_108, ↓e41_110, ↓e41_111, ↓e41_112, ↓e41_115, ↓e41_116, ↓e41_119, ↓e41_120, ↓e41_122, ↓e41_123, ↓e41_126, ↓e41_127, ↓e41_130, ↓e41_133, ↓e41_134, ↓e41_135, ↓e41_136, ↓e41_137, ↓e41_138, ↓e41_139, ↓e41_142, ↓e41_143, ↓e41_146, ↓e41_147, ↓e41_149, ↓e41_152, znl_i, znl_r, znl_n, zcs_0, zcs_1, zcs_2, zcs_3, zcat_0, zcat_1, zcat_2, zcat_3, zbl_0, zbl_1, true_and, and_true, ↓zret_some, ↓zret_none, Nat.reduceAdd, Nat.reduceLeDiff, Nat.reduceMul, eq_self, Int.reduceToNat, Int.reduceLE, Int.reduceLT, Int.reduceNeg, and_self, zrg, zkc_0, zin_1, zin_2, zin_3, zin_4, zin_5, zin_6, zin_7, zin_8, zin_9, zaa_9, zkc_10, zin_11, zin_12, zkc_13, zin_14, zin_15, zkc_16, zin_17, zin_18, zkc_19, zin_20, zin_21, zin_22, zin_23, zin_24, zin_25, zin_26, zin_27, zin_28, zaa_28, zkc_29, zin_30, zin_31, zkc_32, zin_33, zin_34, zkc_35, zin_36, zin_37, zkc_38, zin_39, zin_40, zin_41, zin_42, zin_43, zin_44, zin_45, zin_46, zin_47, zaa_47, zkc_48, zin_49, zin_50, zkc_51, zin_52, zin_53, zkc_54, zin_55, zin_56, zkc_209, zkc_210, zin_211, zaa_211, zkc_212, zin_213, zkc_214, zkc_215, zin_216, zin_217, zkc_218, zin_219, zin_220, zin_221, zkc_222, zin_223, zaa_223, zin_224, zin_225, zkc_226, zin_227, zin_228, zin_229, zin_230, zin_231, zin_232, zkc_233, zin_234, zaa_234, zin_235, zin_236, zin_237, zin_238, zin_239, zin_240, zin_241, zin_242, zin_243, zin_244, zin_245, zin_246, zin_247, zin_248, zin_249, zin_250, zkc_251, zin_252, zin_253, zkc_374, zin_375, zin_376, zin_377, zin_378, zin_379, zin_380, zin_381, zin_382, zin_383, zin_384, zin_385, zin_386, zin_387, ↓s_stay (d + 1) _ N m 9 hm0, Int.toNat_natCast]
    exact hQ _ (RelC_stay hRN hm10) (fun b b0 b1 b2 b3 => by
      rw [zup_ne _ _ _ (by omega), zup_ne _ _ _ (by omega), zup_ne _ _ _ (by omega)]
      exact v3 b b1 b2 b3) (Wv_cong (fun b hb => by rw [zup_ne _ _ _ (by omega), zup_ne _ _ _ (by omega), zup_ne _ _ _ (by omega)]) v1)
