/-! ### the reference: the leader's move; what doesn't hang on accounts -/
def Gl (M N : zM) : Prop := (∀ b, b ≠ 375 → b ≠ 376 → b ≠ 377 → N b = M b) ∧ ∀ j, 258 ≤ j ∨ j = 9 → N 375 j = M 375 j
theorem Gl_Gr {M N P : zM} (h : Gl M N) (k : Gr N P) : Gl M P := ⟨fun b b1 b2 b3 => (k.1 b b1).trans (h.1 b b1 b2 b3), fun j hj => (k.2 j hj).trans (h.2 j hj)⟩
theorem Gr_Gl {M N : zM} (k : Gr M N) : Gl M N := ⟨fun b b1 _ _ => k.1 b b1, k.2⟩
theorem s_leads (d : Nat) (Q : zQ) (M T : zM) (hl : 0 ≤ ldr T) (hR : RelR M 0 T) (hW : WfS T) (hQ : ∀ N, RelR N 0 (ldS T) → Gl M N → Q none N) : Sp (d + 4) 137 [.inr (.inr 374)] M Q := by
  obtain ⟨l1, l2, l3⟩ := ldr_rng hW
  obtain ⟨l4, l5⟩ := l3 hl
  obtain ⟨m, hmN⟩ : ∃ m : Nat, ldr T = m := ⟨(ldr T).toNat, by omega⟩
  have hm : m < 10 := by omega
  rw [hmN, Int.toNat_natCast] at l4 l5
  have h7 := mem_lt hW hm l4
  have hr := hR.2.2.1 m hm h7
  simp only [Nat.zero_add] at hr
  have ht := hW.2.2.2.2.2.2.2.1
  have htg : M 375 2 = T 8 1 := hR.1.2.2.1
  have htr : -2147483648 ≤ T 8 1 ∧ T 8 1 < 2147483648 := ⟨by omega, by omega⟩
  obtain ⟨c, hcN⟩ : ∃ c : Nat, T 1 m = c := ⟨(T 1 m).toNat, by omega⟩
  have hc : c < 120 := by omega
  have hcr : -2147483648 ≤ (c : Int) ∧ (c : Int) < 2147483648 := ⟨by omega, by omega⟩
  have hc0 : 0 ≤ (c : Int) ∧ (c : Int) < 120 := ⟨by omega, by omega⟩
  have hcell0 : M 375 (12 + 6 * m + 0) = c := hr.1.trans hcN
  unfold ldS at hQ
  simp only [hmN, hcN, Int.toNat_natCast] at hQ
  simp only [↓e137, ↓e137_0, ↓e137_1, ↓e137_4, ↓e137_5, ↓e137_6, ↓e137_9, ↓e137_10, ↓e137_11, ↓e137_14, ↓e137_15, ↓e137_16, ↓e137_17, ↓e137_20, ↓e137_21, ↓e137_24, ↓e137_25, ↓e137_26, ↓e137_30, ↓e137_31, ↓e137_32, ↓e137_33, ↓e137_36, ↓e137_37, ↓e137_38, ↓e137_41, ↓e137_43, ↓e137_46, ↓e137_48, ↓e137_51, ↓e137_53, ↓e137_55, ↓e137_56, ↓e137_59, ↓e137_60, ↓e137_61, ↓e137_64, ↓e137_67, ↓e137_68, ↓e137_69, ↓e137_72, ↓e137_73, ↓e137_74, ↓e137_75, ↓e137_76, ↓e137_79, ↓e137_80, ↓e137_81, ↓e137_82, ↓e137_83, ↓e137_84, ↓e137_85, ↓e137_87, ↓e137_90, ↓e137_91, ↓e137_93, ↓e137_95, ↓e137_96, ↓e137_99, ↓e137_100, ↓e137_103, ↓e137_104, ↓e137_105, ↓e137_106, ↓e137_109, ↓e137_111, ↓e137_114, ↓e137_116, ↓e137_118, ↓e137_121, ↓e137_122, ↓e137_125, ↓e137_126, ↓e137_128, ↓e137_129, ↓e137_130, ↓e137_131, ↓e137_132, ↓e137_133, ↓e137_136, ↓e137_139, ↓e137_140, ↓e137_142, ↓e137_145, ↓e137_148, ↓e137_149, ↓e137_150, ↓e137_153, ↓e137_154, ↓e137_155, ↓e137_156, ↓e137_158, ↓e137_161, ↓e137_164, ↓e137_165, ↓e137_166, ↓e137_168, ↓e137_171, ↓e137_172, ↓e137_173, ↓e137_174, ↓e137_177, ↓e137_178, ↓e137_179, ↓e137_180, ↓e137_181, ↓e137_184, ↓e137_185, ↓e137_188, ↓e137_191, znl_i, znl_r, znl_n, zcs_0, zcs_1, zcs_2, zcs_3, zcat_0, zcat_1, zcat_2, zcat_3, zbl_0, zbl_1, true_and, and_true, ↓zret_some, ↓zret_none, Nat.reduceAdd, Nat.reduceLeDiff, Nat.reduceMul, eq_self, Int.reduceToNat, Int.reduceLE, Int.reduceLT, Int.reduceNeg, and_self, zrg, zkc_0, zin_1, zin_2, zin_3, zin_4, zin_5, zin_6, zin_7, zin_8, zin_9, zaa_9, zkc_10, zin_11, zin_12, zkc_13, zin_14, zin_15, zkc_16, zin_17, zin_18, zkc_19, zin_20, zin_21, zin_22, zin_23, zin_24, zin_25, zin_26, zin_27, zin_28, zaa_28, zkc_29, zin_30, zin_31, zkc_32, zin_33, zin_34, zkc_35, zin_36, zin_37, zkc_38, zin_39, zin_40, zin_41, zin_42, zin_43, zin_44, zin_45, zin_46, zin_47, zaa_47, zkc_48, zin_49, zin_50, zkc_51, zin_52, zin_53, zkc_54, zin_55, zin_56, zkc_209, zkc_210, zin_211, zaa_211, zkc_212, zin_213, zkc_214, zkc_215, zin_216, zin_217, zkc_218, zin_219, zin_220, zin_221, zkc_222, zin_223, zaa_223, zin_224, zin_225, zkc_226, zin_227, zin_228, zin_229, zin_230, zin_231, zin_232, zkc_233, zin_234, zaa_234, zin_235, zin_236, zin_237, zin_238, zin_239, zin_240, zin_241, zin_242, zin_243, zin_244, zin_245, zin_246, zin_247, zin_248, zin_249, zin_250, zkc_251, zin_252, zin_253, zkc_374, zin_375, zin_376, zin_377, zin_378, zin_379, zin_380, zin_381, zin_382, zin_383, zin_384, zin_385, zin_386, zin_387, ↓s_rLeader d _ M T hR hW, hmN, htg, htr, ↓s_of0 (d + 2) _ M m hm, hcell0, hcr, Int.reduceToNat, ne_eq, ite_not]
  by_cases a1 : T 8 1 < 0
  · rw [if_pos a1] at hQ
    have h9 := hQ _ (RelR_lay hR (p := 5) (v := 6) hm (by omega)) (Gr_Gl (Gr_up (by omega)))
    rw [if_pos a1]
    simp only [↓e137, ↓e137_0, ↓e137_1, ↓e137_4, ↓e137_5, ↓e137_6, ↓e137_9, ↓e137_10, ↓e137_11, ↓e137_14, ↓e137_15, ↓e137_16, ↓e137_17, ↓e137_20, ↓e137_21, ↓e137_24, ↓e137_25, ↓e137_26, ↓e137_29, ↓e137_30, ↓e137_31, ↓e137_32, ↓e137_33, ↓e137_36, ↓e137_37, ↓e137_38, ↓e137_41, ↓e137_43, ↓e137_46, ↓e137_48, ↓e137_51, ↓e137_52, ↓e137_53, ↓e137_55, ↓e137_56, ↓e137_59, ↓e137_60, ↓e137_61, ↓e137_64, ↓e137_67, ↓e137_68, ↓e137_69, ↓e137_72, ↓e137_73, ↓e137_74, ↓e137_75, ↓e137_76, ↓e137_79, ↓e137_80, ↓e137_81, ↓e137_82, ↓e137_83, ↓e137_84, ↓e137_85, ↓e137_87, ↓e137_90, ↓e137_91, ↓e137_93, ↓e137_95, ↓e137_96, ↓e137_99, ↓e137_100, ↓e137_103, ↓e137_104, ↓e137_105, ↓e137_106, ↓e137_109, ↓e137_111, ↓e137_114, ↓e137_116, ↓e137_118, ↓e137_121, ↓e137_122, ↓e137_125, ↓e137_126, ↓e137_128, ↓e137_129, ↓e137_130, ↓e137_131, ↓e137_132, ↓e137_133, ↓e137_136, ↓e137_139, ↓e137_140, ↓e137_142, ↓e137_145, ↓e137_148, ↓e137_149, ↓e137_150, ↓e137_153, ↓e137_154, ↓e137_155, ↓e137_156, ↓e137_158, ↓e137_161, ↓e137_164, ↓e137_165, ↓e137_166, ↓e137_168, ↓e137_171, ↓e137_172, ↓e137_173, ↓e137_174, ↓e137_177, ↓e137_178, ↓e137_179, ↓e137_180, ↓e137_181, ↓e137_184, ↓e137_185, ↓e137_188, ↓e137_191, znl_i, znl_r, znl_n, zcs_0, zcs_1, zcs_2, zcs_3, zcat_0, zcat_1, zcat_2, zcat_3, zbl_0, zbl_1, true_and, and_true, ↓zret_some, ↓zret_none, Nat.reduceAdd, Nat.reduceLeDiff, Nat.reduceMul, eq_self, Int.reduceToNat, Int.reduceLE, Int.reduceLT, Int.reduceNeg, and_self, zrg, zkc_0, zin_1, zin_2, zin_3, zin_4, zin_5, zin_6, zin_7, zin_8, zin_9, zaa_9, zkc_10, zin_11, zin_12, zkc_13, zin_14, zin_15, zkc_16, zin_17, zin_18, zkc_19, zin_20, zin_21, zin_22, zin_23, zin_24, zin_25, zin_26, zin_27, zin_28, zaa_28, zkc_29, zin_30, zin_31, zkc_32, zin_33, zin_34, zkc_35, zin_36, zin_37, zkc_38, zin_39, zin_40, zin_41, zin_42, zin_43, zin_44, zin_45, zin_46, zin_47, zaa_47, zkc_48, zin_49, zin_50, zkc_51, zin_52, zin_53, zkc_54, zin_55, zin_56, zkc_209, zkc_210, zin_211, zaa_211, zkc_212, zin_213, zkc_214, zkc_215, zin_216, zin_217, zkc_218, zin_219, zin_220, zin_221, zkc_222, zin_223, zaa_223, zin_224, zin_225, zkc_226, zin_227, zin_228, zin_229, zin_230, zin_231, zin_232, zkc_233, zin_234, zaa_234, zin_235, zin_236, zin_237, zin_238, zin_239, zin_240, zin_241, zin_242, zin_243, zin_244, zin_245, zin_246, zin_247, zin_248, zin_249, zin_250, zkc_251, zin_252, zin_253, zkc_374, zin_375, zin_376, zin_377, zin_378, zin_379, zin_380, zin_381, zin_382, zin_383, zin_384, zin_385, zin_386, zin_387, htg, htr, show ¬ T 8 1 ≥ 0 by omega, ↓reduceIte, ↓s_lay5 (d + 2) _ _ m _ hm]
    exact h9
  rw [if_neg a1]
  rw [if_neg a1] at hQ
  by_cases a2 : T 8 1 = (c : Int)
  · rw [if_pos a2] at hQ
    have h9 := hQ _ (RelR_lay hR (p := 5) (v := 7) hm (by omega)) (Gr_Gl (Gr_up (by omega)))
    rw [if_pos a2.symm]
    simp only [↓e137, ↓e137_0, ↓e137_1, ↓e137_4, ↓e137_5, ↓e137_6, ↓e137_9, ↓e137_10, ↓e137_11, ↓e137_14, ↓e137_15, ↓e137_16, ↓e137_17, ↓e137_20, ↓e137_21, ↓e137_24, ↓e137_25, ↓e137_26, ↓e137_29, ↓e137_30, ↓e137_31, ↓e137_32, ↓e137_33, ↓e137_36, ↓e137_37, ↓e137_38, ↓e137_41, ↓e137_43, ↓e137_46, ↓e137_48, ↓e137_51, ↓e137_52, ↓e137_53, ↓e137_55, ↓e137_56, ↓e137_59, ↓e137_60, ↓e137_61, ↓e137_64, ↓e137_67, ↓e137_68, ↓e137_69, ↓e137_72, ↓e137_73, ↓e137_74, ↓e137_75, ↓e137_76, ↓e137_79, ↓e137_80, ↓e137_81, ↓e137_82, ↓e137_83, ↓e137_84, ↓e137_85, ↓e137_87, ↓e137_90, ↓e137_91, ↓e137_93, ↓e137_95, ↓e137_96, ↓e137_99, ↓e137_100, ↓e137_103, ↓e137_104, ↓e137_105, ↓e137_106, ↓e137_109, ↓e137_111, ↓e137_114, ↓e137_116, ↓e137_118, ↓e137_121, ↓e137_122, ↓e137_125, ↓e137_126, ↓e137_128, ↓e137_129, ↓e137_130, ↓e137_131, ↓e137_132, ↓e137_133, ↓e137_136, ↓e137_139, ↓e137_140, ↓e137_142, ↓e137_145, ↓e137_148, ↓e137_149, ↓e137_150, ↓e137_153, ↓e137_154, ↓e137_155, ↓e137_156, ↓e137_158, ↓e137_161, ↓e137_164, ↓e137_165, ↓e137_166, ↓e137_168, ↓e137_171, ↓e137_172, ↓e137_173, ↓e137_174, ↓e137_177, ↓e137_178, ↓e137_179, ↓e137_180, ↓e137_181, ↓e137_184, ↓e137_185, ↓e137_188, ↓e137_191, znl_i, znl_r, znl_n, zcs_0, zcs_1, zcs_2, zcs_3, zcat_0, zcat_1, zcat_2, zcat_3, zbl_0, zbl_1, true_and, and_true, ↓zret_some, ↓zret_none, Nat.reduceAdd, Nat.reduceLeDiff, Nat.reduceMul, eq_self, Int.reduceToNat, Int.reduceLE, Int.reduceLT, Int.reduceNeg, and_self, zrg, zkc_0, zin_1, zin_2, zin_3, zin_4, zin_5, zin_6, zin_7, zin_8, zin_9, zaa_9, zkc_10, zin_11, zin_12, zkc_13, zin_14, zin_15, zkc_16, zin_17, zin_18, zkc_19, zin_20, zin_21, zin_22, zin_23, zin_24, zin_25, zin_26, zin_27, zin_28, zaa_28, zkc_29, zin_30, zin_31, zkc_32, zin_33, zin_34, zkc_35, zin_36, zin_37, zkc_38, zin_39, zin_40, zin_41, zin_42, zin_43, zin_44, zin_45, zin_46, zin_47, zaa_47, zkc_48, zin_49, zin_50, zkc_51, zin_52, zin_53, zkc_54, zin_55, zin_56, zkc_209, zkc_210, zin_211, zaa_211, zkc_212, zin_213, zkc_214, zkc_215, zin_216, zin_217, zkc_218, zin_219, zin_220, zin_221, zkc_222, zin_223, zaa_223, zin_224, zin_225, zkc_226, zin_227, zin_228, zin_229, zin_230, zin_231, zin_232, zkc_233, zin_234, zaa_234, zin_235, zin_236, zin_237, zin_238, zin_239, zin_240, zin_241, zin_242, zin_243, zin_244, zin_245, zin_246, zin_247, zin_248, zin_249, zin_250, zkc_251, zin_252, zin_253, zkc_374, zin_375, zin_376, zin_377, zin_378, zin_379, zin_380, zin_381, zin_382, zin_383, zin_384, zin_385, zin_386, zin_387, htg, htr, show T 8 1 ≥ 0 by omega, ↓reduceIte, ↓s_lay5 (d + 2) _ _ m _ hm]
    exact h9
  rw [if_neg (fun z => a2 z.symm)]
  rw [if_neg a2] at hQ
  obtain ⟨p, hpN⟩ : ∃ p : Nat, T 8 1 = p := ⟨(T 8 1).toNat, by omega⟩
  have hp : p < 120 := by omega
  have hcp : c ≠ p := by omega
  simp only [hpN, Int.toNat_natCast] at hQ
  have hm0 : 0 ≤ (m : Int) ∧ (m : Int) < 10 := ⟨by omega, by omega⟩
  simp only [↓e137_52, ↓e137_53, ↓e137_55, ↓e137_56, ↓e137_59, ↓e137_60, ↓e137_61, znl_i, znl_r, znl_n, zcs_0, zcs_1, zcs_2, zcs_3, zcat_0, zcat_1, zcat_2, zcat_3, zbl_0, zbl_1, true_and, and_true, ↓zret_some, ↓zret_none, Nat.reduceAdd, Nat.reduceLeDiff, Nat.reduceMul, eq_self, Int.reduceToNat, Int.reduceLE, Int.reduceLT, Int.reduceNeg, and_self, zkc_0, zin_1, zin_2, zin_3, zin_4, zin_5, zin_6, zin_7, zin_8, zin_9, zaa_9, zkc_10, zin_11, zin_12, zkc_13, zin_14, zin_15, zkc_16, zin_17, zin_18, zkc_19, zin_20, zin_21, zin_22, zin_23, zin_24, zin_25, zin_26, zin_27, zin_28, zaa_28, zkc_29, zin_30, zin_31, zkc_32, zin_33, zin_34, zkc_35, zin_36, zin_37, zkc_38, zin_39, zin_40, zin_41, zin_42, zin_43, zin_44, zin_45, zin_46, zin_47, zaa_47, zkc_48, zin_49, zin_50, zkc_51, zin_52, zin_53, zkc_54, zin_55, zin_56, zkc_209, zkc_210, zin_211, zaa_211, zkc_212, zin_213, zkc_214, zkc_215, zin_216, zin_217, zkc_218, zin_219, zin_220, zin_221, zkc_222, zin_223, zaa_223, zin_224, zin_225, zkc_226, zin_227, zin_228, zin_229, zin_230, zin_231, zin_232, zkc_233, zin_234, zaa_234, zin_235, zin_236, zin_237, zin_238, zin_239, zin_240, zin_241, zin_242, zin_243, zin_244, zin_245, zin_246, zin_247, zin_248, zin_249, zin_250, zkc_251, zin_252, zin_253, zkc_374, zin_375, zin_376, zin_377, zin_378, zin_379, zin_380, zin_381, zin_382, zin_383, zin_384, zin_385, zin_386, zin_387, htg, hpN]
  refine s_floods d _ M T 10 p (by omega) hp hR hW (fun N v1 v2 v3 => ?_)
  have hF : ∀ x : Nat, x < 120 → N 376 (1200 + x) = dst (T 0) p x := fun x hx => v1 x hx
  have hRN : RelR N 0 T := RelR_congr (v2 375 (by omega) (by omega)) hR
  have hGN : Gl M N := ⟨fun b _ b2 b3 => v2 b b2 b3, fun j _ => by rw [v2 375 (by omega) (by omega)]⟩
  have hcellN : N 375 (12 + 6 * m + 0) = c := by rw [v2 375 (by omega) (by omega)]; exact hcell0
  have ex : ∀ x : Nat, (1200 + (x : Int)).toNat = 1200 + x := fun x => by omega
  have ey : ∀ x : Nat, x < 120 → 0 ≤ 1200 + (x : Int) ∧ 1200 + (x : Int) < 1440 := fun x hx => ⟨by omega, by omega⟩
  obtain ⟨zc, zc1⟩ := dst_zr (w := T 0) (c := c) hp
  rw [zret_none]
  simp only [↓e137, ↓e137_0, ↓e137_1, ↓e137_4, ↓e137_5, ↓e137_6, ↓e137_9, ↓e137_10, ↓e137_11, ↓e137_14, ↓e137_15, ↓e137_16, ↓e137_17, ↓e137_20, ↓e137_21, ↓e137_24, ↓e137_25, ↓e137_26, ↓e137_29, ↓e137_30, ↓e137_31, ↓e137_32, ↓e137_33, ↓e137_36, ↓e137_37, ↓e137_38, ↓e137_41, ↓e137_43, ↓e137_46, ↓e137_48, ↓e137_51, ↓e137_52, ↓e137_53, ↓e137_55, ↓e137_56, ↓e137_59, ↓e137_60, ↓e137_61, ↓e137_64, ↓e137_67, ↓e137_68, ↓e137_69, ↓e137_72, ↓e137_73, ↓e137_74, ↓e137_75, ↓e137_76, ↓e137_79, ↓e137_80, ↓e137_81, ↓e137_82, ↓e137_83, ↓e137_84, ↓e137_85, ↓e137_87, ↓e137_90, ↓e137_91, ↓e137_95, ↓e137_96, ↓e137_99, ↓e137_100, ↓e137_103, ↓e137_104, ↓e137_105, ↓e137_106, ↓e137_109, ↓e137_111, ↓e137_114, ↓e137_116, ↓e137_118, ↓e137_121, ↓e137_122, ↓e137_125, ↓e137_126, ↓e137_128, ↓e137_129, ↓e137_130, ↓e137_131, ↓e137_132, ↓e137_133, ↓e137_136, ↓e137_139, ↓e137_140, ↓e137_142, ↓e137_145, ↓e137_148, ↓e137_149, ↓e137_150, ↓e137_153, ↓e137_154, ↓e137_155, ↓e137_156, ↓e137_158, ↓e137_161, ↓e137_164, ↓e137_165, ↓e137_166, ↓e137_168, ↓e137_171, ↓e137_172, ↓e137_173, ↓e137_174, ↓e137_177, ↓e137_178, ↓e137_179, ↓e137_180, ↓e137_181, ↓e137_184, ↓e137_185, ↓e137_188, ↓e137_191, znl_i, znl_r, znl_n, zcs_0, zcs_1, zcs_2, zcs_3, zcat_0, zcat_1, zcat_2, zcat_3, zbl_0, zbl_1, true_and, and_true, ↓zret_some, ↓zret_none, Nat.reduceAdd, Nat.reduceLeDiff, Nat.reduceMul, eq_self, Int.reduceToNat, Int.reduceLE, Int.reduceLT, Int.reduceNeg, and_self, zrg, zkc_0, zin_1, zin_2, zin_3, zin_4, zin_5, zin_6, zin_7, zin_8, zin_9, zaa_9, zkc_10, zin_11, zin_12, zkc_13, zin_14, zin_15, zkc_16, zin_17, zin_18, zkc_19, zin_20, zin_21, zin_22, zin_23, zin_24, zin_25, zin_26, zin_27, zin_28, zaa_28, zkc_29, zin_30, zin_31, zkc_32, zin_33, zin_34, zkc_35, zin_36, zin_37, zkc_38, zin_39, zin_40, zin_41, zin_42, zin_43, zin_44, zin_45, zin_46, zin_47, zaa_47, zkc_48, zin_49, zin_50, zkc_51, zin_52, zin_53, zkc_54, zin_55, zin_56, zkc_209, zkc_210, zin_211, zaa_211, zkc_212, zin_213, zkc_214, zkc_215, zin_216, zin_217, zkc_218, zin_219, zin_220, zin_221, zkc_222, zin_223, zaa_223, zin_224, zin_225, zkc_226, zin_227, zin_228, zin_229, zin_230, zin_231, zin_232, zkc_233, zin_234, zaa_234, zin_235, zin_236, zin_237, zin_238, zin_239, zin_240, zin_241, zin_242, zin_243, zin_244, zin_245, zin_246, zin_247, zin_248, zin_249, zin_250, zkc_251, zin_252, zin_253, zkc_374, zin_375, zin_376, zin_377, zin_378, zin_379, zin_380, zin_381, zin_382, zin_383, zin_384, zin_385, zin_386, zin_387, ↓s_of0 (d + 2) _ N m hm, hcellN, ex, ey c hc, hF c hc, ↓s_lay5 (d + 2) _ _ m _ hm]
  generalize hP : zup N 375 (12 + 6 * m + 5) 8 = P
  have hRP : RelR P 0 (zup T 6 m 8) := by rw [← hP]; exact RelR_lay hRN (p := 5) (v := 8) hm (by omega)
  have hGP : Gl M P := by rw [← hP]; exact Gl_Gr hGN (Gr_up (by omega))
  have hFP : ∀ x : Nat, x < 120 → P 376 (1200 + x) = dst (T 0) p x := fun x hx => by rw [← hP, zup_ne _ _ _ (by omega)]; exact hF x hx
  have hWP := (rsn_ok hW (m := m) (v := 8) l4).1
  have hcellP : P 375 (12 + 6 * m + 0) = c := by rw [← hP, zup_off _ _ (by omega)]; exact hcellN
  have h7P : (m : Int) < zup T 6 m 8 7 7 := by rw [zup_off _ _ (by omega)]; exact h7
  have hoP : ∀ x, onS (zup T 6 m 8) x = onS T x := fun x => by unfold onS; rw [zup_ne _ _ _ (by omega)]
  have hnz : dst (T 0) p c ≠ 0 := fun z => hcp (dst_zero z)
  by_cases a3 : dst (T 0) p c < 0
  · rw [if_pos a3] at hQ
    have h9 := hQ P hRP hGP
    simp only [↓e137, ↓e137_0, ↓e137_1, ↓e137_4, ↓e137_5, ↓e137_6, ↓e137_9, ↓e137_10, ↓e137_11, ↓e137_14, ↓e137_15, ↓e137_16, ↓e137_17, ↓e137_20, ↓e137_21, ↓e137_24, ↓e137_25, ↓e137_26, ↓e137_29, ↓e137_30, ↓e137_31, ↓e137_32, ↓e137_33, ↓e137_36, ↓e137_37, ↓e137_38, ↓e137_41, ↓e137_43, ↓e137_46, ↓e137_48, ↓e137_51, ↓e137_52, ↓e137_53, ↓e137_55, ↓e137_56, ↓e137_59, ↓e137_60, ↓e137_61, ↓e137_64, ↓e137_67, ↓e137_68, ↓e137_69, ↓e137_72, ↓e137_73, ↓e137_74, ↓e137_75, ↓e137_76, ↓e137_79, ↓e137_80, ↓e137_81, ↓e137_82, ↓e137_83, ↓e137_84, ↓e137_85, ↓e137_87, ↓e137_90, ↓e137_91, ↓e137_93, ↓e137_95, ↓e137_96, ↓e137_99, ↓e137_100, ↓e137_103, ↓e137_104, ↓e137_105, ↓e137_106, ↓e137_109, ↓e137_111, ↓e137_114, ↓e137_116, ↓e137_118, ↓e137_121, ↓e137_122, ↓e137_125, ↓e137_126, ↓e137_128, ↓e137_129, ↓e137_130, ↓e137_131, ↓e137_132, ↓e137_133, ↓e137_136, ↓e137_139, ↓e137_140, ↓e137_142, ↓e137_145, ↓e137_148, ↓e137_149, ↓e137_150, ↓e137_153, ↓e137_154, ↓e137_155, ↓e137_156, ↓e137_158, ↓e137_161, ↓e137_164, ↓e137_165, ↓e137_166, ↓e137_168, ↓e137_171, ↓e137_172, ↓e137_173, ↓e137_174, ↓e137_177, ↓e137_178, ↓e137_179, ↓e137_180, ↓e137_181, ↓e137_184, ↓e137_185, ↓e137_188, ↓e137_191, znl_i, znl_r, znl_n, zcs_0, zcs_1, zcs_2, zcs_3, zcat_0, zcat_1, zcat_2, zcat_3, zbl_0, zbl_1, true_and, and_true, ↓zret_some, ↓zret_none, Nat.reduceAdd, Nat.reduceLeDiff, Nat.reduceMul, eq_self, Int.reduceToNat, Int.reduceLE, Int.reduceLT, Int.reduceNeg, and_self, zrg, zkc_0, zin_1, zin_2, zin_3, zin_4, zin_5, zin_6, zin_7, zin_8, zin_9, zaa_9, zkc_10, zin_11, zin_12, zkc_13, zin_14, zin_15, zkc_16, zin_17, zin_18, zkc_19, zin_20, zin_21, zin_22, zin_23, zin_24, zin_25, zin_26, zin_27, zin_28, zaa_28, zkc_29, zin_30, zin_31, zkc_32, zin_33, zin_34, zkc_35, zin_36, zin_37, zkc_38, zin_39, zin_40, zin_41, zin_42, zin_43, zin_44, zin_45, zin_46, zin_47, zaa_47, zkc_48, zin_49, zin_50, zkc_51, zin_52, zin_53, zkc_54, zin_55, zin_56, zkc_209, zkc_210, zin_211, zaa_211, zkc_212, zin_213, zkc_214, zkc_215, zin_216, zin_217, zkc_218, zin_219, zin_220, zin_221, zkc_222, zin_223, zaa_223, zin_224, zin_225, zkc_226, zin_227, zin_228, zin_229, zin_230, zin_231, zin_232, zkc_233, zin_234, zaa_234, zin_235, zin_236, zin_237, zin_238, zin_239, zin_240, zin_241, zin_242, zin_243, zin_244, zin_245, zin_246, zin_247, zin_248, zin_249, zin_250, zkc_251, zin_252, zin_253, zkc_374, zin_375, zin_376, zin_377, zin_378, zin_379, zin_380, zin_381, zin_382, zin_383, zin_384, zin_385, zin_386, zin_387, zc, show dst (T 0) p c ≤ 0 by omega, ge_iff_le, ↓reduceIte]
    exact h9
  rw [if_neg a3] at hQ
  obtain ⟨n1, n2, n3⟩ := near_ex (S := T) hp hc (by omega)
  have loop : ∀ n k : Nat, k + n = 4 → ∀ w5, fdr (kGood T p c) c n k = frst (kGood T p c) c → RT (Sp (d + 3)) 137 Q 93 [some (.inr (.inr 374)), some (.inl (m : Int)), some (.inl 1200), some (.inl (dst (T 0) p c)), some (.inl (k : Int)), w5] [] P := by
    intro n
    induction n with
    | zero =>
      intro k hk w5 hE
      exfalso
      have : fdr (kGood T p c) c 0 k = -1 := rfl
      omega
    | succ n ih =>
      intro k hk w5 hE
      have hk0 : 0 ≤ (k : Int) ∧ (k : Int) < 4 := ⟨by omega, by omega⟩
      have hk1 : ¬ (k : Int) ≥ 4 := by omega
      have hk2 : -2147483648 ≤ (k : Int) ∧ (k : Int) < 2147483648 := ⟨by omega, by omega⟩
      have hnr := nbR_zr (k := k) hc0
      rw [fdr_succ] at hE
      have next : ∀ w5, ¬ (0 ≤ nb c k ∧ kGood T p c (nb c k).toNat = true) → RT (Sp (d + 3)) 137 Q 185 [some (.inr (.inr 374)), some (.inl (m : Int)), some (.inl 1200), some (.inl (dst (T 0) p c)), some (.inl (k : Int)), w5] [] P := fun w5 h => by
        have h9 := ih (k + 1) (by omega) w5 (by rw [if_neg h] at hE; exact hE)
        simp only [↓e137, ↓e137_0, ↓e137_1, ↓e137_4, ↓e137_5, ↓e137_6, ↓e137_9, ↓e137_10, ↓e137_11, ↓e137_14, ↓e137_15, ↓e137_16, ↓e137_17, ↓e137_20, ↓e137_21, ↓e137_24, ↓e137_25, ↓e137_26, ↓e137_29, ↓e137_30, ↓e137_31, ↓e137_32, ↓e137_33, ↓e137_36, ↓e137_37, ↓e137_38, ↓e137_41, ↓e137_43, ↓e137_46, ↓e137_48, ↓e137_51, ↓e137_52, ↓e137_53, ↓e137_55, ↓e137_56, ↓e137_59, ↓e137_60, ↓e137_61, ↓e137_64, ↓e137_67, ↓e137_68, ↓e137_69, ↓e137_72, ↓e137_73, ↓e137_74, ↓e137_75, ↓e137_76, ↓e137_79, ↓e137_80, ↓e137_81, ↓e137_82, ↓e137_83, ↓e137_84, ↓e137_85, ↓e137_87, ↓e137_90, ↓e137_91, ↓e137_95, ↓e137_96, ↓e137_99, ↓e137_100, ↓e137_103, ↓e137_104, ↓e137_105, ↓e137_106, ↓e137_109, ↓e137_111, ↓e137_114, ↓e137_116, ↓e137_118, ↓e137_121, ↓e137_122, ↓e137_125, ↓e137_126, ↓e137_128, ↓e137_129, ↓e137_130, ↓e137_131, ↓e137_132, ↓e137_133, ↓e137_136, ↓e137_139, ↓e137_140, ↓e137_142, ↓e137_145, ↓e137_148, ↓e137_149, ↓e137_150, ↓e137_153, ↓e137_154, ↓e137_155, ↓e137_156, ↓e137_158, ↓e137_161, ↓e137_164, ↓e137_165, ↓e137_166, ↓e137_168, ↓e137_171, ↓e137_172, ↓e137_173, ↓e137_174, ↓e137_177, ↓e137_178, ↓e137_179, ↓e137_180, ↓e137_181, ↓e137_184, ↓e137_185, ↓e137_188, ↓e137_191, znl_i, znl_r, znl_n, zcs_0, zcs_1, zcs_2, zcs_3, zcat_0, zcat_1, zcat_2, zcat_3, zbl_0, zbl_1, true_and, and_true, ↓zret_some, ↓zret_none, Nat.reduceAdd, Nat.reduceLeDiff, Nat.reduceMul, eq_self, Int.reduceToNat, Int.reduceLE, Int.reduceLT, Int.reduceNeg, and_self]
        rw [show ((k : Int) + 1) = ((k + 1 : Nat) : Int) by omega]
        exact h9
      rw [e137_93]
      simp only [↓e137, ↓e137_0, ↓e137_1, ↓e137_4, ↓e137_5, ↓e137_6, ↓e137_9, ↓e137_10, ↓e137_11, ↓e137_14, ↓e137_15, ↓e137_16, ↓e137_17, ↓e137_20, ↓e137_21, ↓e137_24, ↓e137_25, ↓e137_26, ↓e137_29, ↓e137_30, ↓e137_31, ↓e137_32, ↓e137_33, ↓e137_36, ↓e137_37, ↓e137_38, ↓e137_41, ↓e137_43, ↓e137_46, ↓e137_48, ↓e137_51, ↓e137_52, ↓e137_53, ↓e137_55, ↓e137_56, ↓e137_59, ↓e137_60, ↓e137_61, ↓e137_64, ↓e137_67, ↓e137_68, ↓e137_69, ↓e137_72, ↓e137_73, ↓e137_74, ↓e137_75, ↓e137_76, ↓e137_79, ↓e137_80, ↓e137_81, ↓e137_82, ↓e137_83, ↓e137_84, ↓e137_85, ↓e137_87, ↓e137_90, ↓e137_91, ↓e137_95, ↓e137_96, ↓e137_99, ↓e137_100, ↓e137_103, ↓e137_104, ↓e137_105, ↓e137_106, ↓e137_109, ↓e137_111, ↓e137_114, ↓e137_116, ↓e137_118, ↓e137_121, ↓e137_122, ↓e137_125, ↓e137_126, ↓e137_128, ↓e137_129, ↓e137_130, ↓e137_131, ↓e137_132, ↓e137_133, ↓e137_136, ↓e137_140, ↓e137_142, ↓e137_145, ↓e137_148, ↓e137_149, ↓e137_150, ↓e137_153, ↓e137_154, ↓e137_155, ↓e137_156, ↓e137_158, ↓e137_161, ↓e137_164, ↓e137_165, ↓e137_166, ↓e137_168, ↓e137_171, ↓e137_172, ↓e137_173, ↓e137_174, ↓e137_177, ↓e137_178, ↓e137_179, ↓e137_180, ↓e137_181, ↓e137_184, ↓e137_188, ↓e137_191, znl_i, znl_r, znl_n, zcs_0, zcs_1, zcs_2, zcs_3, zcat_0, zcat_1, zcat_2, zcat_3, zbl_0, zbl_1, true_and, and_true, ↓zret_some, ↓zret_none, Nat.reduceAdd, Nat.reduceLeDiff, Nat.reduceMul, eq_self, Int.reduceToNat, Int.reduceLE, Int.reduceLT, Int.reduceNeg, and_self, zrg, zkc_0, zin_1, zin_2, zin_3, zin_4, zin_5, zin_6, zin_7, zin_8, zin_9, zaa_9, zkc_10, zin_11, zin_12, zkc_13, zin_14, zin_15, zkc_16, zin_17, zin_18, zkc_19, zin_20, zin_21, zin_22, zin_23, zin_24, zin_25, zin_26, zin_27, zin_28, zaa_28, zkc_29, zin_30, zin_31, zkc_32, zin_33, zin_34, zkc_35, zin_36, zin_37, zkc_38, zin_39, zin_40, zin_41, zin_42, zin_43, zin_44, zin_45, zin_46, zin_47, zaa_47, zkc_48, zin_49, zin_50, zkc_51, zin_52, zin_53, zkc_54, zin_55, zin_56, zkc_209, zkc_210, zin_211, zaa_211, zkc_212, zin_213, zkc_214, zkc_215, zin_216, zin_217, zkc_218, zin_219, zin_220, zin_221, zkc_222, zin_223, zaa_223, zin_224, zin_225, zkc_226, zin_227, zin_228, zin_229, zin_230, zin_231, zin_232, zkc_233, zin_234, zaa_234, zin_235, zin_236, zin_237, zin_238, zin_239, zin_240, zin_241, zin_242, zin_243, zin_244, zin_245, zin_246, zin_247, zin_248, zin_249, zin_250, zkc_251, zin_252, zin_253, zkc_374, zin_375, zin_376, zin_377, zin_378, zin_379, zin_380, zin_381, zin_382, zin_383, zin_384, zin_385, zin_386, zin_387, hk1, hk2, zc, show ¬ dst (T 0) p c ≤ 0 by omega, ↓reduceIte, ↓s_of0 (d + 2) _ P m hm, hcellP, ↓s_nbR (d + 1) _ P c k hc0.1 hc0.2 hk0.1 hk0.2, hnr]
      by_cases a : nb c k < 0
      · have e1 : nbR c k = -1 := by unfold nbR; rw [if_neg (by omega)]
        rw [e1, if_pos (by omega)]
        exact next _ (fun z => by omega)
      · obtain ⟨x, hx⟩ : ∃ x : Nat, nb c k = x := ⟨(nb c k).toNat, by omega⟩
        have hx1 : x < 120 := by have := nb_rng hc0 (k := k) (by omega); omega
        have hx0 : 0 ≤ (x : Int) ∧ (x : Int) < 120 := ⟨by omega, by omega⟩
        have e1 : nbR c k = x := by unfold nbR; rw [if_pos (by omega), hx]
        obtain ⟨zx, -⟩ := dst_zr (w := T 0) (c := x) hp
        have ho := onS_zr T x
        rw [hx, Int.toNat_natCast] at hE
        rw [hx, Int.toNat_natCast] at next
        rw [e1, if_neg (by omega)]
        simp only [ex, ey x hx1, hFP x hx1, zx, zc1, true_and, and_self]
        by_cases g : dst (T 0) p x = dst (T 0) p c - 1
        · rw [if_pos g]
          have gg : kGood T p c x = true := decide_eq_true g
          rw [if_pos ⟨by omega, gg⟩] at hE
          rw [← hE] at hQ
          simp only [↓e137, ↓e137_0, ↓e137_1, ↓e137_4, ↓e137_5, ↓e137_6, ↓e137_9, ↓e137_10, ↓e137_11, ↓e137_14, ↓e137_15, ↓e137_16, ↓e137_17, ↓e137_20, ↓e137_21, ↓e137_24, ↓e137_25, ↓e137_26, ↓e137_29, ↓e137_30, ↓e137_31, ↓e137_32, ↓e137_33, ↓e137_36, ↓e137_37, ↓e137_38, ↓e137_41, ↓e137_43, ↓e137_46, ↓e137_48, ↓e137_51, ↓e137_52, ↓e137_53, ↓e137_55, ↓e137_56, ↓e137_59, ↓e137_60, ↓e137_61, ↓e137_64, ↓e137_67, ↓e137_68, ↓e137_69, ↓e137_72, ↓e137_73, ↓e137_74, ↓e137_75, ↓e137_76, ↓e137_79, ↓e137_80, ↓e137_81, ↓e137_82, ↓e137_83, ↓e137_84, ↓e137_85, ↓e137_87, ↓e137_90, ↓e137_91, ↓e137_95, ↓e137_96, ↓e137_99, ↓e137_100, ↓e137_103, ↓e137_104, ↓e137_105, ↓e137_106, ↓e137_109, ↓e137_111, ↓e137_114, ↓e137_116, ↓e137_118, ↓e137_121, ↓e137_122, ↓e137_125, ↓e137_126, ↓e137_128, ↓e137_129, ↓e137_130, ↓e137_131, ↓e137_132, ↓e137_133, ↓e137_136, ↓e137_139, ↓e137_140, ↓e137_142, ↓e137_145, ↓e137_149, ↓e137_150, ↓e137_153, ↓e137_154, ↓e137_155, ↓e137_156, ↓e137_158, ↓e137_161, ↓e137_165, ↓e137_166, ↓e137_168, ↓e137_171, ↓e137_172, ↓e137_173, ↓e137_174, ↓e137_177, ↓e137_178, ↓e137_179, ↓e137_180, ↓e137_181, ↓e137_184, ↓e137_188, ↓e137_191, znl_i, znl_r, znl_n, zcs_0, zcs_1, zcs_2, zcs_3, zcat_0, zcat_1, zcat_2, zcat_3, zbl_0, zbl_1, true_and, and_true, ↓zret_some, ↓zret_none, Nat.reduceAdd, Nat.reduceLeDiff, Nat.reduceMul, eq_self, Int.reduceToNat, Int.reduceLE, Int.reduceLT, Int.reduceNeg, and_self, zrg, zkc_0, zin_1, zin_2, zin_3, zin_4, zin_5, zin_6, zin_7, zin_8, zin_9, zaa_9, zkc_10, zin_11, zin_12, zkc_13, zin_14, zin_15, zkc_16, zin_17, zin_18, zkc_19, zin_20, zin_21, zin_22, zin_23, zin_24, zin_25, zin_26, zin_27, zin_28, zaa_28, zkc_29, zin_30, zin_31, zkc_32, zin_33, zin_34, zkc_35, zin_36, zin_37, zkc_38, zin_39, zin_40, zin_41, zin_42, zin_43, zin_44, zin_45, zin_46, zin_47, zaa_47, zkc_48, zin_49, zin_50, zkc_51, zin_52, zin_53, zkc_54, zin_55, zin_56, zkc_209, zkc_210, zin_211, zaa_211, zkc_212, zin_213, zkc_214, zkc_215, zin_216, zin_217, zkc_218, zin_219, zin_220, zin_221, zkc_222, zin_223, zaa_223, zin_224, zin_225, zkc_226, zin_227, zin_228, zin_229, zin_230, zin_231, zin_232, zkc_233, zin_234, zaa_234, zin_235, zin_236, zin_237, zin_238, zin_239, zin_240, zin_241, zin_242, zin_243, zin_244, zin_245, zin_246, zin_247, zin_248, zin_249, zin_250, zkc_251, zin_252, zin_253, zkc_374, zin_375, zin_376, zin_377, zin_378, zin_379, zin_380, zin_381, zin_382, zin_383, zin_384, zin_385, zin_386, zin_387, ↓s_on d _ P _ x hRP hWP hx0, hoP, ho]
          by_cases v : onS T x < 0
          · have v2 : onS T x = -1 := by have := onS_rng T x; omega
            rw [if_pos v]
            rw [if_pos v2] at hQ
            simp only [↓e137_164, ↓e137_165, ↓e137_166, ↓e137_168, znl_i, znl_r, znl_n, zcs_0, zcs_1, zcs_2, zcs_3, zcat_0, zcat_1, zcat_2, zcat_3, zbl_0, zbl_1, true_and, and_true, ↓zret_some, ↓zret_none, Nat.reduceAdd, Nat.reduceLeDiff, Nat.reduceMul, eq_self, Int.reduceToNat, Int.reduceLE, Int.reduceLT, Int.reduceNeg, and_self, zkc_0, zin_1, zin_2, zin_3, zin_4, zin_5, zin_6, zin_7, zin_8, zin_9, zaa_9, zkc_10, zin_11, zin_12, zkc_13, zin_14, zin_15, zkc_16, zin_17, zin_18, zkc_19, zin_20, zin_21, zin_22, zin_23, zin_24, zin_25, zin_26, zin_27, zin_28, zaa_28, zkc_29, zin_30, zin_31, zkc_32, zin_33, zin_34, zkc_35, zin_36, zin_37, zkc_38, zin_39, zin_40, zin_41, zin_42, zin_43, zin_44, zin_45, zin_46, zin_47, zaa_47, zkc_48, zin_49, zin_50, zkc_51, zin_52, zin_53, zkc_54, zin_55, zin_56, zkc_209, zkc_210, zin_211, zaa_211, zkc_212, zin_213, zkc_214, zkc_215, zin_216, zin_217, zkc_218, zin_219, zin_220, zin_221, zkc_222, zin_223, zaa_223, zin_224, zin_225, zkc_226, zin_227, zin_228, zin_229, zin_230, zin_231, zin_232, zkc_233, zin_234, zaa_234, zin_235, zin_236, zin_237, zin_238, zin_239, zin_240, zin_241, zin_242, zin_243, zin_244, zin_245, zin_246, zin_247, zin_248, zin_249, zin_250, zkc_251, zin_252, zin_253, zkc_374, zin_375, zin_376, zin_377, zin_378, zin_379, zin_380, zin_381, zin_382, zin_383, zin_384, zin_385, zin_386, zin_387]
            refine s_goes (d + 1) _ P _ m x hm h7P hRP (fun N2 u1 u2 => ?_)
            rw [zret_none]
            have h9 := hQ _ (by
              have e : sput (zup T 6 m 8) m x 0 = sput T m x 0 := by
                funext b j
                by_cases b6 : b = 6
                · subst b6; by_cases y : j = m
                  · simp [sput, zup, y]
                  · simp [sput, zup, y]
                · simp [sput, zup, b6]
              rw [← e, ← sgo_put]
              exact RelR_lay (RelR_cnt u1 (k := 1) (by omega)) (p := 5) (v := 0) hm (by omega)) (Gl_Gr (Gl_Gr (Gl_Gr hGP u2) (Gr_up (by omega))) (Gr_up (by omega)))
            simp only [↓e137, ↓e137_0, ↓e137_1, ↓e137_4, ↓e137_5, ↓e137_6, ↓e137_9, ↓e137_10, ↓e137_11, ↓e137_14, ↓e137_15, ↓e137_16, ↓e137_17, ↓e137_20, ↓e137_21, ↓e137_24, ↓e137_25, ↓e137_26, ↓e137_29, ↓e137_30, ↓e137_31, ↓e137_32, ↓e137_33, ↓e137_36, ↓e137_37, ↓e137_38, ↓e137_41, ↓e137_43, ↓e137_46, ↓e137_48, ↓e137_51, ↓e137_52, ↓e137_53, ↓e137_55, ↓e137_56, ↓e137_59, ↓e137_60, ↓e137_61, ↓e137_64, ↓e137_67, ↓e137_68, ↓e137_69, ↓e137_72, ↓e137_73, ↓e137_74, ↓e137_75, ↓e137_76, ↓e137_79, ↓e137_80, ↓e137_81, ↓e137_82, ↓e137_83, ↓e137_84, ↓e137_85, ↓e137_87, ↓e137_90, ↓e137_91, ↓e137_95, ↓e137_96, ↓e137_99, ↓e137_100, ↓e137_103, ↓e137_104, ↓e137_105, ↓e137_106, ↓e137_109, ↓e137_111, ↓e137_114, ↓e137_116, ↓e137_118, ↓e137_121, ↓e137_122, ↓e137_125, ↓e137_126, ↓e137_128, ↓e137_129, ↓e137_130, ↓e137_131, ↓e137_132, ↓e137_133, ↓e137_136, ↓e137_139, ↓e137_140, ↓e137_142, ↓e137_145, ↓e137_148, ↓e137_149, ↓e137_150, ↓e137_153, ↓e137_154, ↓e137_155, ↓e137_156, ↓e137_158, ↓e137_161, ↓e137_164, ↓e137_165, ↓e137_166, ↓e137_168, ↓e137_171, ↓e137_172, ↓e137_173, ↓e137_174, ↓e137_177, ↓e137_178, ↓e137_179, ↓e137_180, ↓e137_181, ↓e137_184, ↓e137_185, ↓e137_188, ↓e137_191, znl_i, znl_r, znl_n, zcs_0, zcs_1, zcs_2, zcs_3, zcat_0, zcat_1, zcat_2, zcat_3, zbl_0, zbl_1, true_and, and_true, ↓zret_some, ↓zret_none, Nat.reduceAdd, Nat.reduceLeDiff, Nat.reduceMul, eq_self, Int.reduceToNat, Int.reduceLE, Int.reduceLT, Int.reduceNeg, and_self, zkc_0, zin_1, zin_2, zin_3, zin_4, zin_5, zin_6, zin_7, zin_8, zin_9, zaa_9, zkc_10, zin_11, zin_12, zkc_13, zin_14, zin_15, zkc_16, zin_17, zin_18, zkc_19, zin_20, zin_21, zin_22, zin_23, zin_24, zin_25, zin_26, zin_27, zin_28, zaa_28, zkc_29, zin_30, zin_31, zkc_32, zin_33, zin_34, zkc_35, zin_36, zin_37, zkc_38, zin_39, zin_40, zin_41, zin_42, zin_43, zin_44, zin_45, zin_46, zin_47, zaa_47, zkc_48, zin_49, zin_50, zkc_51, zin_52, zin_53, zkc_54, zin_55, zin_56, zkc_209, zkc_210, zin_211, zaa_211, zkc_212, zin_213, zkc_214, zkc_215, zin_216, zin_217, zkc_218, zin_219, zin_220, zin_221, zkc_222, zin_223, zaa_223, zin_224, zin_225, zkc_226, zin_227, zin_228, zin_229, zin_230, zin_231, zin_232, zkc_233, zin_234, zaa_234, zin_235, zin_236, zin_237, zin_238, zin_239, zin_240, zin_241, zin_242, zin_243, zin_244, zin_245, zin_246, zin_247, zin_248, zin_249, zin_250, zkc_251, zin_252, zin_253, zkc_374, zin_375, zin_376, zin_377, zin_378, zin_379, zin_380, zin_381, zin_382, zin_383, zin_384, zin_385, zin_386, zin_387, ↓s_cnt1, ↓s_lay5 (d + 2) _ _ m _ hm]
            exact h9
          · rw [if_neg v]
            rw [if_neg (by omega)] at hQ
            simp only [↓e137_148, ↓e137_149, ↓e137_150, znl_i, znl_r, znl_n, zcs_0, zcs_1, zcs_2, zcs_3, zcat_0, zcat_1, zcat_2, zcat_3, zbl_0, zbl_1, true_and, and_true, ↓zret_some, ↓zret_none, Nat.reduceAdd, Nat.reduceLeDiff, Nat.reduceMul, eq_self, Int.reduceToNat, Int.reduceLE, Int.reduceLT, Int.reduceNeg, and_self, zkc_0, zin_1, zin_2, zin_3, zin_4, zin_5, zin_6, zin_7, zin_8, zin_9, zaa_9, zkc_10, zin_11, zin_12, zkc_13, zin_14, zin_15, zkc_16, zin_17, zin_18, zkc_19, zin_20, zin_21, zin_22, zin_23, zin_24, zin_25, zin_26, zin_27, zin_28, zaa_28, zkc_29, zin_30, zin_31, zkc_32, zin_33, zin_34, zkc_35, zin_36, zin_37, zkc_38, zin_39, zin_40, zin_41, zin_42, zin_43, zin_44, zin_45, zin_46, zin_47, zaa_47, zkc_48, zin_49, zin_50, zkc_51, zin_52, zin_53, zkc_54, zin_55, zin_56, zkc_209, zkc_210, zin_211, zaa_211, zkc_212, zin_213, zkc_214, zkc_215, zin_216, zin_217, zkc_218, zin_219, zin_220, zin_221, zkc_222, zin_223, zaa_223, zin_224, zin_225, zkc_226, zin_227, zin_228, zin_229, zin_230, zin_231, zin_232, zkc_233, zin_234, zaa_234, zin_235, zin_236, zin_237, zin_238, zin_239, zin_240, zin_241, zin_242, zin_243, zin_244, zin_245, zin_246, zin_247, zin_248, zin_249, zin_250, zkc_251, zin_252, zin_253, zkc_374, zin_375, zin_376, zin_377, zin_378, zin_379, zin_380, zin_381, zin_382, zin_383, zin_384, zin_385, zin_386, zin_387]
            refine s_waits (d + 1) _ P _ m hm h7P hRP (fun N2 u1 u2 => ?_)
            rw [zret_none]
            have h9 := hQ _ (by
              have e : zup (swt (zup T 6 m 8) m) 6 m 9 = sstay T m 9 := by
                funext b j
                by_cases b6 : b = 6
                · subst b6; by_cases y : j = m
                  · simp [swt, sstay, zup, y]
                  · simp [swt, sstay, zup, y]
                · simp [swt, sstay, zup, b6]
              rw [← e]
              exact RelR_lay u1 (p := 5) (v := 9) hm (by omega)) (Gl_Gr (Gl_Gr hGP u2) (Gr_up (by omega)))
            simp only [↓e137, ↓e137_0, ↓e137_1, ↓e137_4, ↓e137_5, ↓e137_6, ↓e137_9, ↓e137_10, ↓e137_11, ↓e137_14, ↓e137_15, ↓e137_16, ↓e137_17, ↓e137_20, ↓e137_21, ↓e137_24, ↓e137_25, ↓e137_26, ↓e137_29, ↓e137_30, ↓e137_31, ↓e137_32, ↓e137_33, ↓e137_36, ↓e137_37, ↓e137_38, ↓e137_41, ↓e137_43, ↓e137_46, ↓e137_48, ↓e137_51, ↓e137_52, ↓e137_53, ↓e137_55, ↓e137_56, ↓e137_59, ↓e137_60, ↓e137_61, ↓e137_64, ↓e137_67, ↓e137_68, ↓e137_69, ↓e137_72, ↓e137_73, ↓e137_74, ↓e137_75, ↓e137_76, ↓e137_79, ↓e137_80, ↓e137_81, ↓e137_82, ↓e137_83, ↓e137_84, ↓e137_85, ↓e137_87, ↓e137_90, ↓e137_91, ↓e137_95, ↓e137_96, ↓e137_99, ↓e137_100, ↓e137_103, ↓e137_104, ↓e137_105, ↓e137_106, ↓e137_109, ↓e137_111, ↓e137_114, ↓e137_116, ↓e137_118, ↓e137_121, ↓e137_122, ↓e137_125, ↓e137_126, ↓e137_128, ↓e137_129, ↓e137_130, ↓e137_131, ↓e137_132, ↓e137_133, ↓e137_136, ↓e137_139, ↓e137_140, ↓e137_142, ↓e137_145, ↓e137_148, ↓e137_149, ↓e137_150, ↓e137_153, ↓e137_154, ↓e137_155, ↓e137_156, ↓e137_158, ↓e137_161, ↓e137_164, ↓e137_165, ↓e137_166, ↓e137_168, ↓e137_171, ↓e137_172, ↓e137_173, ↓e137_174, ↓e137_177, ↓e137_178, ↓e137_179, ↓e137_180, ↓e137_181, ↓e137_184, ↓e137_185, ↓e137_188, ↓e137_191, znl_i, znl_r, znl_n, zcs_0, zcs_1, zcs_2, zcs_3, zcat_0, zcat_1, zcat_2, zcat_3, zbl_0, zbl_1, true_and, and_true, ↓zret_some, ↓zret_none, Nat.reduceAdd, Nat.reduceLeDiff, Nat.reduceMul, eq_self, Int.reduceToNat, Int.reduceLE, Int.reduceLT, Int.reduceNeg, and_self, zkc_0, zin_1, zin_2, zin_3, zin_4, zin_5, zin_6, zin_7, zin_8, zin_9, zaa_9, zkc_10, zin_11, zin_12, zkc_13, zin_14, zin_15, zkc_16, zin_17, zin_18, zkc_19, zin_20, zin_21, zin_22, zin_23, zin_24, zin_25, zin_26, zin_27, zin_28, zaa_28, zkc_29, zin_30, zin_31, zkc_32, zin_33, zin_34, zkc_35, zin_36, zin_37, zkc_38, zin_39, zin_40, zin_41, zin_42, zin_43, zin_44, zin_45, zin_46, zin_47, zaa_47, zkc_48, zin_49, zin_50, zkc_51, zin_52, zin_53, zkc_54, zin_55, zin_56, zkc_209, zkc_210, zin_211, zaa_211, zkc_212, zin_213, zkc_214, zkc_215, zin_216, zin_217, zkc_218, zin_219, zin_220, zin_221, zkc_222, zin_223, zaa_223, zin_224, zin_225, zkc_226, zin_227, zin_228, zin_229, zin_230, zin_231, zin_232, zkc_233, zin_234, zaa_234, zin_235, zin_236, zin_237, zin_238, zin_239, zin_240, zin_241, zin_242, zin_243, zin_244, zin_245, zin_246, zin_247, zin_248, zin_249, zin_250, zkc_251, zin_252, zin_253, zkc_374, zin_375, zin_376, zin_377, zin_378, zin_379, zin_380, zin_381, zin_382, zin_383, zin_384, zin_385, zin_386, zin_387, ↓s_lay5 (d + 2) _ _ m _ hm]
            exact h9
        · rw [if_neg g]
          exact next _ (fun z => g (of_decide_eq_true z.2))
  exact loop 4 0 rfl none rfl
/-- walls, cells, what is set and the shapes are the same -/
def Ev (S T : zM) : Prop := ∀ b, b = 0 ∨ b = 1 ∨ 8 ≤ b → T b = S b
theorem ldr_ev {S T : zM} (h : Ev S T) : ldr T = ldr S := by unfold ldr isM; rw [h 1 (by omega), h 8 (by omega)]
theorem pj_ev {S T : zM} (h : Ev S T) : pj T = pj S := by unfold pj; rw [h 8 (by omega)]
theorem nsl_ev {S T : zM} (h : Ev S T) : nsl T = nsl S := by unfold nsl; rw [pj_ev h, h (9 + pj S) (by omega)]
theorem anc_ev {S T : zM} (h : Ev S T) : anc T = anc S := by unfold anc; rw [pj_ev h, h (9 + pj S) (by omega)]
theorem plc_ev {S T : zM} (h : Ev S T) (s : Nat) : plc T s = plc S s := by unfold plc; rw [ldr_ev h, pj_ev h, anc_ev h, h 0 (by omega), h 1 (by omega), h (12 + pj S) (by omega), h (15 + pj S) (by omega)]
theorem isF_ev {S T : zM} (h : Ev S T) (m : Nat) : isF T m = isF S m := by unfold isF; rw [ldr_ev h, h 1 (by omega)]
theorem isO_ev {S T : zM} (h : Ev S T) (s : Nat) : isO T s = isO S s := by unfold isO; rw [anc_ev h, plc_ev h]
theorem dm_ev {S T : zM} (h : Ev S T) (m s : Nat) : dm T m s = dm S m s := by unfold dm; rw [plc_ev h, h 0 (by omega), h 1 (by omega)]
theorem wo_ev {S T : zM} (h : Ev S T) : wo T = wo S := by funext m s; unfold wo; rw [isF_ev h, isO_ev h, dm_ev h]
theorem bT_ev {S T : zM} (h : Ev S T) : bT T = bT S := by unfold bT; rw [wo_ev h, nsl_ev h]
theorem gvn_ev {S T : zM} (h : Ev S T) : gvn T = gvn S := by unfold gvn; rw [bT_ev h]
theorem gvs_ev {S T : zM} (h : Ev S T) : gvs T = gvs S := by
  unfold gvs
  rw [bT_ev h]
  congr 1
  funext m
  rw [dm_ev h]
theorem plS_ev {S T : zM} (h : Ev S T) : plS T = plS S := by funext j; unfold plS; rw [bT_ev h, plc_ev h]
theorem key_ev {S T : zM} (h : Ev S T) (pl : Nat → Int) : key T pl = key S pl := by funext j; unfold key; rw [h 0 (by omega), h 1 (by omega)]
theorem inl_ev {S T : zM} (h : Ev S T) (pl : Nat → Int) (k : Nat) : inl T pl k = inl S pl k := by unfold inl; rw [isF_ev h, h 1 (by omega)]
theorem lnc_ev {S T : zM} (h : Ev S T) (pl : Nat → Int) : ∀ k, lnc T pl k = lnc S pl k
  | 0 => rfl
  | k + 1 => by unfold lnc; rw [inl_ev h, lnc_ev h pl k]
theorem lnf_ev {S T : zM} (h : Ev S T) (pl : Nat → Int) : ∀ k, lnf T pl k = lnf S pl k
  | 0 => rfl
  | k + 1 => by unfold lnf; rw [inl_ev h, key_ev h, lnf_ev h pl k, lnc_ev h pl k]
theorem sacc_ev (S : zM) (k : Nat) : Ev S (sacc S k) := fun b hb => zup_ne _ _ _ (by omega)
theorem ld_sacc (S : zM) : ldS (sacc S 0) = sacc (ldS S) 0 := by
  have h := sacc_ev S 0
  have e0 := h 0 (by omega)
  have e1 := h 1 (by omega)
  have e8 := h 8 (by omega)
  have eo : ∀ x, onS (sacc S 0) x = onS S x := fun x => by unfold onS; rw [e1]
  have ek : ∀ p c, kGood (sacc S 0) p c = kGood S p c := fun p c => by funext x; unfold kGood; rw [e0]
  unfold ldS
  rw [ldr_ev h, e0, e1, e8, ek, eo]
  split
  · funext b j; simp only [sacc, zup]; grind
  · split
    · funext b j; simp only [sacc, zup]; grind
    · split
      · funext b j; simp only [sacc, zup]; grind
      · split
        · funext b j
          by_cases b7 : b = 7
          · subst b7
            by_cases y : j = 0
            · subst y; simp [sacc, sput, zup]
            · by_cases y1 : j = 1
              · subst y1; simp [sacc, sput, zup]
              · simp [sacc, sput, zup, y, y1]
          · simp [sacc, sput, zup, b7]
        · funext b j
          by_cases b7 : b = 7
          · subst b7
            by_cases y : j = 0
            · subst y; simp [sacc, sstay, zup]
            · by_cases y1 : j = 2
              · subst y1; simp [sacc, sstay, zup]
              · simp [sacc, sstay, zup, y, y1]
          · simp [sacc, sstay, zup, b7]
