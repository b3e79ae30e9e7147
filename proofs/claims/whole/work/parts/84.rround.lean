/-! ### the reference's round is the class's -/
theorem rnd_eq {S : zM} (hW : WfS S) (hl : 0 ≤ ldr S) (X : zM) (hX : X = ldS (sacc S 0)) : actN (plS X) (rX X (plS X) 10) (lnf X (plS X) 10) (lnc X (plS X) 10) = rnd S := by
  have k1 := ld_ok hW hl
  rw [ld_sacc] at hX
  unfold rnd
  generalize hY : ldS S = Y at *
  have hE : Ev Y X := by rw [hX]; exact sacc_ev Y 0
  rw [plS_ev hE, lnc_ev hE, lnf_ev hE]
  have hrX : rX X (plS Y) 10 = rX (sacc Y 0) (plS Y) 10 := by rw [hX]
  rw [hrX]
  have hF : ∀ j, isF (sacc Y 0) j = isF Y j := fun j => isF_ev (sacc_ev Y 0) j
  have s1 : sacc Y 0 1 = Y 1 := zup_ne _ _ _ (by omega)
  have s5 : sacc Y 0 5 = Y 5 := zup_ne _ _ _ (by omega)
  have s6 : sacc Y 0 6 = Y 6 := zup_ne _ _ _ (by omega)
  have fin : ∀ t : Nat, t ≤ lnc Y (plS Y) 10 → Dst (plS Y) (fun j => if j < 10 ∧ 0 ≤ Y 1 j then 1 else 0) (fun j => ∃ i, t ≤ i ∧ i < lnc Y (plS Y) 10 ∧ lnf Y (plS Y) 10 i = j) (actN (plS Y) (luS Y (plS Y) 10) (lnf Y (plS Y) 10) t) (actN (plS Y) (rX (sacc Y 0) (plS Y) 10) (lnf Y (plS Y) 10) t) := by
    intro t
    induction t with
    | zero =>
      intro _
      refine ⟨fun b b5 b6 b7 => ?_, fun j => ?_, fun j => ?_, fun j => ?_⟩
      · show rX (sacc Y 0) (plS Y) 10 b = luS Y (plS Y) 10 b
        rw [rX_ne _ _ _ b5 b6, lu_ne _ _ _ b6]
        exact zup_ne _ _ _ b7
      · show rX (sacc Y 0) (plS Y) 10 5 j = luS Y (plS Y) 10 5 j + (if j < 10 ∧ 0 ≤ Y 1 j then 1 else 0)
        rw [rX_5, lu_ne _ _ _ (by omega), s1, s5]
        split <;> omega
      · show rX (sacc Y 0) (plS Y) 10 7 j = luS Y (plS Y) 10 7 j + _
        rw [rX_ne _ _ _ (by omega) (by omega), lu_ne _ _ _ (by omega)]
        unfold sacc
        by_cases z : j = 0
        · subst z; rw [zup_at, if_pos rfl]
        · rw [zup_off _ _ (Or.inr z), if_neg z]; omega
      · show rX (sacc Y 0) (plS Y) 10 6 j = luS Y (plS Y) 10 6 j ∨ _ ∧ luS Y (plS Y) 10 1 j ≠ _
        rw [rX_6, lu_ne _ _ _ (show (1 : Nat) ≠ 6 by omega), hF, s6]
        have e : luS Y (plS Y) 10 6 j = if j < 10 ∧ isF Y j = true ∧ plS Y j < 0 then 2 else if j < 10 ∧ isF Y j = true ∧ Y 1 j = plS Y j then 1 else Y 6 j := by unfold luS; rw [zrow_self]
        rw [e]
        by_cases a1 : j < 10 ∧ isF Y j = true
        · rw [if_pos a1]
          by_cases a2 : plS Y j < 0
          · rw [if_pos a2, if_pos ⟨a1.1, a1.2, a2⟩]; exact Or.inl rfl
          · rw [if_neg a2, if_neg (fun z => a2 z.2.2)]
            by_cases a3 : Y 1 j = plS Y j
            · rw [if_pos ⟨a1.1, a1.2, a3⟩]; exact Or.inl rfl
            · right
              refine ⟨?_, a3⟩
              obtain ⟨i, i1, i2⟩ := (ln_mem Y (plS Y) 10).2 j a1.1 (by
                unfold inl
                rw [a1.2, Bool.true_and, decide_eq_true_eq]
                exact ⟨by omega, a3⟩)
              exact ⟨i, Nat.zero_le i, i1, i2⟩
        · rw [if_neg a1, if_neg (fun z => a1 ⟨z.1, z.2.1⟩), if_neg (fun z => a1 ⟨z.1, z.2.1⟩)]; exact Or.inl rfl
    | succ t ih =>
      intro ht
      refine act_D (ih (by omega)) (fun j hj hne => ?_)
      obtain ⟨i, i1, i2, i3⟩ := hj
      refine ⟨i, ?_, i2, i3⟩
      have : i ≠ t := fun z => by subst z; exact hne i3.symm
      omega
  obtain ⟨f1, f2, f3, f4⟩ := fin _ (Nat.le_refl _)
  have k2 := lu_ok k1.1 (plS Y) 10
  have hsame : ∀ t : Nat, t ≤ lnc Y (plS Y) 10 → Kp Y (actN (plS Y) (luS Y (plS Y) 10) (lnf Y (plS Y) 10) t) := by
    intro t
    induction t with
    | zero => intro _; exact k2
    | succ t ih =>
      intro ht
      obtain ⟨g1, g2⟩ := (ln_mem Y (plS Y) 10).1 t (by omega)
      unfold inl at g2
      rw [Bool.and_eq_true] at g2
      have g3 := (isF_mem g2.1).1
      have g4 := of_decide_eq_true g2.2
      have h1 := ih (by omega)
      exact Kp_trans h1 (act_ok h1.1 g1 ((h1.2.2.1 _ g1).mpr g3) g4.1)
  have hal := (hsame _ (Nat.le_refl _)).2.2.1
  generalize actN (plS Y) (luS Y (plS Y) 10) (lnf Y (plS Y) 10) (lnc Y (plS Y) 10) = A at *
  generalize actN (plS Y) (rX (sacc Y 0) (plS Y) 10) (lnf Y (plS Y) 10) (lnc Y (plS Y) 10) = B at *
  have f2 : ∀ j, B 5 j = A 5 j + (if j < 10 ∧ 0 ≤ Y 1 j then 1 else 0) := f2
  funext b j
  by_cases b5 : b = 5
  · subst b5
    rw [f2]
    have e : cR A 10 5 j = if j < 10 ∧ 0 ≤ A 1 j then A 5 j + 1 else A 5 j := by unfold cR; rw [zrow_self]
    rw [e]
    by_cases z : j < 10
    · have := hal j z
      by_cases y : 0 ≤ Y 1 j
      · rw [if_pos ⟨z, y⟩, if_pos ⟨z, this.mpr y⟩]
      · rw [if_neg (fun w => y w.2), if_neg (fun w => y (this.mp w.2))]; omega
    · rw [if_neg (fun w => z w.1), if_neg (fun w => z w.1)]; omega
  · by_cases b7 : b = 7
    · subst b7
      rw [f3]
      have e : cR A 10 7 j = sacc A 0 7 j := by unfold cR; rw [zrow_ne _ _ (by omega)]
      rw [e]
      unfold sacc
      by_cases z : j = 0
      · subst z; rw [zup_at, if_pos rfl]
      · rw [zup_off _ _ (Or.inr z), if_neg z]; omega
    · rw [cR_ne A 10 b5 b7]
      by_cases b6 : b = 6
      · subst b6
        rcases f4 j with z | ⟨⟨i, i1, i2, -⟩, -⟩
        · exact z
        · omega
      · rw [f1 b b5 b6 b7]
/-- what the reference's rounds leave alone -/
def Ga (M N : zM) : Prop := (∀ b, b < 374 ∨ 384 ≤ b → N b = M b) ∧ (∀ j, 258 ≤ j ∨ j = 9 → N 375 j = M 375 j) ∧ ∀ j, j ≠ 8 → j ≠ 9 → N 374 j = M 374 j
theorem Ga_refl (M : zM) : Ga M M := ⟨fun _ _ => rfl, fun _ _ => rfl, fun _ _ _ => rfl⟩
theorem Ga_trans {M N P : zM} (h : Ga M N) (k : Ga N P) : Ga M P := ⟨fun b hb => (k.1 b hb).trans (h.1 b hb), fun j hj => (k.2.1 j hj).trans (h.2.1 j hj), fun j h8 h9 => (k.2.2 j h8 h9).trans (h.2.2 j h8 h9)⟩
theorem Gr_Ga {M N : zM} (h : Gr M N) : Ga M N := ⟨fun b hb => h.1 b (by omega), h.2, fun j _ _ => by rw [h.1 374 (by omega)]⟩
theorem Gl_Ga {M N : zM} (h : Gl M N) : Ga M N := ⟨fun b hb => h.1 b (by omega) (by omega) (by omega), h.2, fun j _ _ => by rw [h.1 374 (by omega) (by omega) (by omega)]⟩
theorem Rf_Ga {M N : zM} (h : Rf M N) : Ga M N := ⟨fun b hb => h.1 b (by omega) (by omega), fun j _ => by rw [h.1 375 (by omega) (by omega)], h.2⟩
theorem RgP_Rg {S N : zM} (hW : WfS S) (h : RgP S N) : Rg (S 0) (ldr S) (plS S) N := fun j hj => by
  obtain ⟨h1, h2, h3, h4⟩ := h
  rw [h1 j hj]
  unfold plS
  rcases bT_cases hW hj with q | ⟨s, q1, q2, q3, q4, q5, q6, q7, q8, q9, q10, q11⟩
  · rw [if_pos (by omega)]; exact Or.inl ⟨q, rfl⟩
  · right
    rw [if_neg (by omega), q1, Int.toNat_natCast]
    exact ⟨s, rfl, q3, q8, q9, (isO_plc q5).2.2, q11, ((h4 s (by omega)).1 q5).2⟩
theorem s_round (d : Nat) (Q : zQ) (M S : zM) (B : Int) (hl : 0 ≤ ldr S) (hB0 : 0 ≤ B) (hB : Bw S B) (hB1 : B ≤ 1000000000) (hR : RelR M 0 S) (hW : WfS S)
    (hQ : ∀ N, RelR N 0 (rnd S) → Ga M N → Q none N) : Sp (d + 7) 143 [.inr (.inr 374)] M Q := by
  have k0 : Kp S (sacc S 0) := stay_ok hW (fun b hb => zup_ne _ _ _ (by omega)) (fun k hk => zup_off _ _ (by omega)) (fun b j _ _ b2 => zup_off _ _ (by omega))
  have hl0 : 0 ≤ ldr (sacc S 0) := by rw [k0.2.1]; exact hl
  have k1 := ld_ok k0.1 hl0
  have b0 : Bw (sacc S 0) B := fun j hj => by unfold sacc; rw [zup_off _ _ (by omega)]; exact hB j hj
  have b1 := ld_B hB0 b0
  rw [← rnd_eq hW hl (ldS (sacc S 0)) rfl] at hQ
  simp only [↓e143, ↓e143_0, ↓e143_1, ↓e143_2, ↓e143_3, ↓e143_6, ↓e143_7, ↓e143_10, ↓e143_11, ↓e143_14, ↓e143_15, ↓e143_16, ↓e143_17, ↓e143_18, ↓e143_19, ↓e143_21, ↓e143_24, ↓e143_25, ↓e143_26, ↓e143_29, ↓e143_32, ↓e143_35, ↓e143_36, ↓e143_37, ↓e143_38, ↓e143_39, ↓e143_40, ↓e143_41, ↓e143_44, ↓e143_45, ↓e143_46, ↓e143_49, ↓e143_50, ↓e143_51, ↓e143_54, ↓e143_57, ↓e143_60, ↓e143_61, ↓e143_62, ↓e143_63, ↓e143_64, ↓e143_67, ↓e143_68, ↓e143_69, ↓e143_72, ↓e143_73, ↓e143_76, ↓e143_77, ↓e143_80, ↓e143_81, ↓e143_84, ↓e143_85, ↓e143_86, ↓e143_89, ↓e143_92, ↓e143_93, ↓e143_96, ↓e143_98, ↓e143_99, ↓e143_102, ↓e143_103, ↓e143_104, ↓e143_105, ↓e143_106, ↓e143_107, ↓e143_108, ↓e143_111, ↓e143_112, ↓e143_113, ↓e143_114, ↓e143_115, ↓e143_118, ↓e143_121, ↓e143_122, ↓e143_124, ↓e143_126, ↓e143_129, ↓e143_130, ↓e143_133, ↓e143_135, ↓e143_136, ↓e143_137, ↓e143_138, ↓e143_139, ↓e143_142, ↓e143_143, ↓e143_146, ↓e143_148, ↓e143_149, ↓e143_152, ↓e143_154, ↓e143_155, ↓e143_156, ↓e143_157, ↓e143_158, ↓e143_159, ↓e143_162, ↓e143_164, ↓e143_165, ↓e143_168, ↓e143_170, ↓e143_171, ↓e143_172, ↓e143_173, ↓e143_174, ↓e143_177, ↓e143_180, ↓e143_181, ↓e143_184, ↓e143_186, ↓e143_187, ↓e143_188, ↓e143_189, ↓e143_192, ↓e143_194, ↓e143_195, ↓e143_196, ↓e143_199, ↓e143_202, ↓e143_205, ↓e143_206, ↓e143_207, ↓e143_208, ↓e143_209, ↓e143_212, ↓e143_213, ↓e143_214, ↓e143_217, ↓e143_218, ↓e143_219, ↓e143_222, ↓e143_225, ↓e143_228, znl_i, znl_r, znl_n, zcs_0, zcs_1, zcs_2, zcs_3, zcat_0, zcat_1, zcat_2, zcat_3, zbl_0, zbl_1, true_and, and_true, ↓zret_some, ↓zret_none, Nat.reduceAdd, Nat.reduceLeDiff, Nat.reduceMul, eq_self, Int.reduceToNat, Int.reduceLE, Int.reduceLT, Int.reduceNeg, and_self, zrg, zkc_0, zin_1, zin_2, zin_3, zin_4, zin_5, zin_6, zin_7, zin_8, zin_9, zaa_9, zkc_10, zin_11, zin_12, zkc_13, zin_14, zin_15, zkc_16, zin_17, zin_18, zkc_19, zin_20, zin_21, zin_22, zin_23, zin_24, zin_25, zin_26, zin_27, zin_28, zaa_28, zkc_29, zin_30, zin_31, zkc_32, zin_33, zin_34, zkc_35, zin_36, zin_37, zkc_38, zin_39, zin_40, zin_41, zin_42, zin_43, zin_44, zin_45, zin_46, zin_47, zaa_47, zkc_48, zin_49, zin_50, zkc_51, zin_52, zin_53, zkc_54, zin_55, zin_56, zkc_209, zkc_210, zin_211, zaa_211, zkc_212, zin_213, zkc_214, zkc_215, zin_216, zin_217, zkc_218, zin_219, zin_220, zin_221, zkc_222, zin_223, zaa_223, zin_224, zin_225, zkc_226, zin_227, zin_228, zin_229, zin_230, zin_231, zin_232, zkc_233, zin_234, zaa_234, zin_235, zin_236, zin_237, zin_238, zin_239, zin_240, zin_241, zin_242, zin_243, zin_244, zin_245, zin_246, zin_247, zin_248, zin_249, zin_250, zkc_251, zin_252, zin_253, zkc_374, zin_375, zin_376, zin_377, zin_378, zin_379, zin_380, zin_381, zin_382, zin_383, zin_384, zin_385, zin_386, zin_387, ↓s_cnt0]
  refine s_leads (d + 2) _ _ (sacc S 0) hl0 (RelR_cnt hR (k := 0) (by omega)) k0.1 (fun N1 u1 u2 => ?_)
  rw [zret_none]
  generalize hX : ldS (sacc S 0) = X at *
  simp only [↓e143, ↓e143_0, ↓e143_1, ↓e143_2, ↓e143_3, ↓e143_6, ↓e143_7, ↓e143_10, ↓e143_11, ↓e143_14, ↓e143_15, ↓e143_16, ↓e143_17, ↓e143_18, ↓e143_19, ↓e143_21, ↓e143_24, ↓e143_25, ↓e143_26, ↓e143_29, ↓e143_32, ↓e143_35, ↓e143_36, ↓e143_37, ↓e143_38, ↓e143_39, ↓e143_40, ↓e143_41, ↓e143_44, ↓e143_45, ↓e143_46, ↓e143_49, ↓e143_50, ↓e143_51, ↓e143_54, ↓e143_57, ↓e143_60, ↓e143_61, ↓e143_62, ↓e143_63, ↓e143_64, ↓e143_67, ↓e143_68, ↓e143_69, ↓e143_72, ↓e143_73, ↓e143_76, ↓e143_77, ↓e143_80, ↓e143_81, ↓e143_84, ↓e143_85, ↓e143_86, ↓e143_89, ↓e143_92, ↓e143_93, ↓e143_96, ↓e143_98, ↓e143_99, ↓e143_102, ↓e143_103, ↓e143_104, ↓e143_105, ↓e143_106, ↓e143_107, ↓e143_108, ↓e143_111, ↓e143_112, ↓e143_113, ↓e143_114, ↓e143_115, ↓e143_118, ↓e143_121, ↓e143_122, ↓e143_124, ↓e143_126, ↓e143_129, ↓e143_130, ↓e143_133, ↓e143_135, ↓e143_136, ↓e143_137, ↓e143_138, ↓e143_139, ↓e143_142, ↓e143_143, ↓e143_146, ↓e143_148, ↓e143_149, ↓e143_152, ↓e143_154, ↓e143_155, ↓e143_156, ↓e143_157, ↓e143_158, ↓e143_159, ↓e143_162, ↓e143_164, ↓e143_165, ↓e143_168, ↓e143_170, ↓e143_171, ↓e143_172, ↓e143_173, ↓e143_174, ↓e143_177, ↓e143_180, ↓e143_181, ↓e143_184, ↓e143_186, ↓e143_187, ↓e143_188, ↓e143_189, ↓e143_192, ↓e143_194, ↓e143_195, ↓e143_196, ↓e143_199, ↓e143_202, ↓e143_205, ↓e143_206, ↓e143_207, ↓e143_208, ↓e143_209, ↓e143_212, ↓e143_213, ↓e143_214, ↓e143_217, ↓e143_218, ↓e143_219, ↓e143_222, ↓e143_225, ↓e143_228, znl_i, znl_r, znl_n, zcs_0, zcs_1, zcs_2, zcs_3, zcat_0, zcat_1, zcat_2, zcat_3, zbl_0, zbl_1, true_and, and_true, ↓zret_some, ↓zret_none, Nat.reduceAdd, Nat.reduceLeDiff, Nat.reduceMul, eq_self, Int.reduceToNat, Int.reduceLE, Int.reduceLT, Int.reduceNeg, and_self, zrg, zkc_0, zin_1, zin_2, zin_3, zin_4, zin_5, zin_6, zin_7, zin_8, zin_9, zaa_9, zkc_10, zin_11, zin_12, zkc_13, zin_14, zin_15, zkc_16, zin_17, zin_18, zkc_19, zin_20, zin_21, zin_22, zin_23, zin_24, zin_25, zin_26, zin_27, zin_28, zaa_28, zkc_29, zin_30, zin_31, zkc_32, zin_33, zin_34, zkc_35, zin_36, zin_37, zkc_38, zin_39, zin_40, zin_41, zin_42, zin_43, zin_44, zin_45, zin_46, zin_47, zaa_47, zkc_48, zin_49, zin_50, zkc_51, zin_52, zin_53, zkc_54, zin_55, zin_56, zkc_209, zkc_210, zin_211, zaa_211, zkc_212, zin_213, zkc_214, zkc_215, zin_216, zin_217, zkc_218, zin_219, zin_220, zin_221, zkc_222, zin_223, zaa_223, zin_224, zin_225, zkc_226, zin_227, zin_228, zin_229, zin_230, zin_231, zin_232, zkc_233, zin_234, zaa_234, zin_235, zin_236, zin_237, zin_238, zin_239, zin_240, zin_241, zin_242, zin_243, zin_244, zin_245, zin_246, zin_247, zin_248, zin_249, zin_250, zkc_251, zin_252, zin_253, zkc_374, zin_375, zin_376, zin_377, zin_378, zin_379, zin_380, zin_381, zin_382, zin_383, zin_384, zin_385, zin_386, zin_387]
  refine s_gives (d + 1) _ N1 X u1 k1.1 (fun N2 v1 v2 => ?_)
  rw [zret_none]
  have hR2 := Rf_RelR v1 u1
  have hG2 := RgP_Rg k1.1 v2
  have f2 : Ga M N2 := Ga_trans (Ga_trans (Gr_Ga (Gr_up (by omega))) (Gl_Ga u2)) (Rf_Ga v1)
  simp only [↓e143, ↓e143_0, ↓e143_1, ↓e143_2, ↓e143_3, ↓e143_6, ↓e143_7, ↓e143_10, ↓e143_11, ↓e143_14, ↓e143_15, ↓e143_16, ↓e143_17, ↓e143_19, ↓e143_21, ↓e143_24, ↓e143_25, ↓e143_26, ↓e143_29, ↓e143_32, ↓e143_35, ↓e143_36, ↓e143_37, ↓e143_38, ↓e143_39, ↓e143_40, ↓e143_41, ↓e143_44, ↓e143_45, ↓e143_46, ↓e143_49, ↓e143_50, ↓e143_51, ↓e143_54, ↓e143_57, ↓e143_60, ↓e143_61, ↓e143_62, ↓e143_63, ↓e143_64, ↓e143_67, ↓e143_68, ↓e143_69, ↓e143_72, ↓e143_73, ↓e143_76, ↓e143_77, ↓e143_80, ↓e143_81, ↓e143_84, ↓e143_85, ↓e143_86, ↓e143_89, ↓e143_92, ↓e143_93, ↓e143_96, ↓e143_98, ↓e143_99, ↓e143_102, ↓e143_103, ↓e143_104, ↓e143_105, ↓e143_106, ↓e143_107, ↓e143_108, ↓e143_111, ↓e143_112, ↓e143_113, ↓e143_114, ↓e143_115, ↓e143_118, ↓e143_121, ↓e143_122, ↓e143_124, ↓e143_126, ↓e143_129, ↓e143_130, ↓e143_133, ↓e143_135, ↓e143_136, ↓e143_137, ↓e143_138, ↓e143_139, ↓e143_142, ↓e143_143, ↓e143_146, ↓e143_148, ↓e143_149, ↓e143_152, ↓e143_154, ↓e143_155, ↓e143_156, ↓e143_157, ↓e143_158, ↓e143_159, ↓e143_162, ↓e143_164, ↓e143_165, ↓e143_168, ↓e143_170, ↓e143_171, ↓e143_172, ↓e143_173, ↓e143_174, ↓e143_177, ↓e143_180, ↓e143_181, ↓e143_184, ↓e143_186, ↓e143_187, ↓e143_188, ↓e143_189, ↓e143_192, ↓e143_194, ↓e143_195, ↓e143_196, ↓e143_199, ↓e143_202, ↓e143_205, ↓e143_206, ↓e143_207, ↓e143_208, ↓e143_209, ↓e143_212, ↓e143_213, ↓e143_214, ↓e143_217, ↓e143_218, ↓e143_219, ↓e143_222, ↓e143_225, ↓e143_228, znl_i, znl_r, znl_n, zcs_0, zcs_1, zcs_2, zcs_3, zcat_0, zcat_1, zcat_2, zcat_3, zbl_0, zbl_1, true_and, and_true, ↓zret_some, ↓zret_none, Nat.reduceAdd, Nat.reduceLeDiff, Nat.reduceMul, eq_self, Int.reduceToNat, Int.reduceLE, Int.reduceLT, Int.reduceNeg, and_self, zrg, zkc_0, zin_1, zin_2, zin_3, zin_4, zin_5, zin_6, zin_7, zin_8, zin_9, zaa_9, zkc_10, zin_11, zin_12, zkc_13, zin_14, zin_15, zkc_16, zin_17, zin_18, zkc_19, zin_20, zin_21, zin_22, zin_23, zin_24, zin_25, zin_26, zin_27, zin_28, zaa_28, zkc_29, zin_30, zin_31, zkc_32, zin_33, zin_34, zkc_35, zin_36, zin_37, zkc_38, zin_39, zin_40, zin_41, zin_42, zin_43, zin_44, zin_45, zin_46, zin_47, zaa_47, zkc_48, zin_49, zin_50, zkc_51, zin_52, zin_53, zkc_54, zin_55, zin_56, zkc_209, zkc_210, zin_211, zaa_211, zkc_212, zin_213, zkc_214, zkc_215, zin_216, zin_217, zkc_218, zin_219, zin_220, zin_221, zkc_222, zin_223, zaa_223, zin_224, zin_225, zkc_226, zin_227, zin_228, zin_229, zin_230, zin_231, zin_232, zkc_233, zin_234, zaa_234, zin_235, zin_236, zin_237, zin_238, zin_239, zin_240, zin_241, zin_242, zin_243, zin_244, zin_245, zin_246, zin_247, zin_248, zin_249, zin_250, zkc_251, zin_252, zin_253, zkc_374, zin_375, zin_376, zin_377, zin_378, zin_379, zin_380, zin_381, zin_382, zin_383, zin_384, zin_385, zin_386, zin_387]
  refine s_rline (d + 3) _ N2 X (plS X) k1.1 hR2 hG2 (fun N3 w3 w4 t1 => ?_) none none
  obtain ⟨i1, i2, i3, i4⟩ := t1
  have k2 := rX_ok k1.1 (plS X) 10
  have b2 : Bw (rX X (plS X) 10) B := fun j hj => by rw [rX_ne _ _ _ (by omega) (by omega)]; exact b1 j hj
  have hN := fun t ht => actN_ok k1.1 k2 b2 t ht
  have hcl := lnc_le X (plS X) 10
  have hG3 := RI_frame (k := 0) hG2 i2
  have f3 : Ga M N3 := Ga_trans f2 ⟨fun b hb => i2 b (by omega) (by omega) (by omega), i3, fun j _ _ => by rw [i2 374 (by omega) (by omega) (by omega)]⟩
  have hcr : -2147483648 ≤ ((lnc X (plS X) 10 : Nat) : Int) ∧ ((lnc X (plS X) 10 : Nat) : Int) < 2147483648 := ⟨by omega, by omega⟩
  have loop : ∀ n t : Nat, t + n = lnc X (plS X) 10 → ∀ N, RelR N 0 (actN (plS X) (rX X (plS X) 10) (lnf X (plS X) 10) t) → Gr N3 N → RT (Sp (d + 6)) 143 Q 207 [some (.inr (.inr 374)), some (.inl ((lnc X (plS X) 10 : Nat) : Int)), some (.inl (t : Int)), w3, w4] [] N := by
    intro n
    induction n with
    | zero =>
      intro t ht N g1 g2
      obtain rfl : t = lnc X (plS X) 10 := by omega
      have h9 := hQ N g1 (Ga_trans f3 (Gr_Ga g2))
      rw [e143_207]
      simp only [↓e143, ↓e143_0, ↓e143_1, ↓e143_2, ↓e143_3, ↓e143_6, ↓e143_7, ↓e143_10, ↓e143_11, ↓e143_14, ↓e143_15, ↓e143_16, ↓e143_17, ↓e143_18, ↓e143_19, ↓e143_21, ↓e143_24, ↓e143_25, ↓e143_26, ↓e143_29, ↓e143_32, ↓e143_35, ↓e143_36, ↓e143_37, ↓e143_38, ↓e143_39, ↓e143_40, ↓e143_41, ↓e143_44, ↓e143_45, ↓e143_46, ↓e143_49, ↓e143_50, ↓e143_51, ↓e143_54, ↓e143_57, ↓e143_60, ↓e143_61, ↓e143_62, ↓e143_63, ↓e143_64, ↓e143_67, ↓e143_68, ↓e143_69, ↓e143_72, ↓e143_73, ↓e143_76, ↓e143_77, ↓e143_80, ↓e143_81, ↓e143_84, ↓e143_85, ↓e143_86, ↓e143_89, ↓e143_92, ↓e143_93, ↓e143_96, ↓e143_98, ↓e143_99, ↓e143_102, ↓e143_103, ↓e143_104, ↓e143_105, ↓e143_106, ↓e143_107, ↓e143_108, ↓e143_111, ↓e143_112, ↓e143_113, ↓e143_114, ↓e143_115, ↓e143_118, ↓e143_121, ↓e143_122, ↓e143_124, ↓e143_126, ↓e143_129, ↓e143_130, ↓e143_133, ↓e143_135, ↓e143_136, ↓e143_137, ↓e143_138, ↓e143_139, ↓e143_142, ↓e143_143, ↓e143_146, ↓e143_148, ↓e143_149, ↓e143_152, ↓e143_154, ↓e143_155, ↓e143_156, ↓e143_157, ↓e143_158, ↓e143_159, ↓e143_162, ↓e143_164, ↓e143_165, ↓e143_168, ↓e143_170, ↓e143_171, ↓e143_172, ↓e143_173, ↓e143_174, ↓e143_177, ↓e143_180, ↓e143_181, ↓e143_184, ↓e143_186, ↓e143_187, ↓e143_188, ↓e143_189, ↓e143_192, ↓e143_194, ↓e143_195, ↓e143_196, ↓e143_199, ↓e143_202, ↓e143_205, ↓e143_206, ↓e143_208, ↓e143_209, ↓e143_212, ↓e143_213, ↓e143_214, ↓e143_217, ↓e143_218, ↓e143_219, ↓e143_222, ↓e143_225, ↓e143_228, znl_i, znl_r, znl_n, zcs_0, zcs_1, zcs_2, zcs_3, zcat_0, zcat_1, zcat_2, zcat_3, zbl_0, zbl_1, true_and, and_true, ↓zret_some, ↓zret_none, Nat.reduceAdd, Nat.reduceLeDiff, Nat.reduceMul, eq_self, Int.reduceToNat, Int.reduceLE, Int.reduceLT, Int.reduceNeg, and_self, zrg, zkc_0, zin_1, zin_2, zin_3, zin_4, zin_5, zin_6, zin_7, zin_8, zin_9, zaa_9, zkc_10, zin_11, zin_12, zkc_13, zin_14, zin_15, zkc_16, zin_17, zin_18, zkc_19, zin_20, zin_21, zin_22, zin_23, zin_24, zin_25, zin_26, zin_27, zin_28, zaa_28, zkc_29, zin_30, zin_31, zkc_32, zin_33, zin_34, zkc_35, zin_36, zin_37, zkc_38, zin_39, zin_40, zin_41, zin_42, zin_43, zin_44, zin_45, zin_46, zin_47, zaa_47, zkc_48, zin_49, zin_50, zkc_51, zin_52, zin_53, zkc_54, zin_55, zin_56, zkc_209, zkc_210, zin_211, zaa_211, zkc_212, zin_213, zkc_214, zkc_215, zin_216, zin_217, zkc_218, zin_219, zin_220, zin_221, zkc_222, zin_223, zaa_223, zin_224, zin_225, zkc_226, zin_227, zin_228, zin_229, zin_230, zin_231, zin_232, zkc_233, zin_234, zaa_234, zin_235, zin_236, zin_237, zin_238, zin_239, zin_240, zin_241, zin_242, zin_243, zin_244, zin_245, zin_246, zin_247, zin_248, zin_249, zin_250, zkc_251, zin_252, zin_253, zkc_374, zin_375, zin_376, zin_377, zin_378, zin_379, zin_380, zin_381, zin_382, zin_383, zin_384, zin_385, zin_386, zin_387, hcr, ge_iff_le, Int.le_refl, ↓reduceIte]
      exact h9
    | succ n ih =>
      intro t ht N g1 g2
      obtain ⟨g5, g6⟩ := (ln_mem X (plS X) 10).1 t (by omega)
      have g7 := i4 t (by omega)
      have htr : -2147483648 ≤ (t : Int) ∧ (t : Int) < 2147483648 := ⟨by omega, by omega⟩
      have ht0 : 0 ≤ (t : Int) ∧ (t : Int) < 10 := ⟨by omega, by omega⟩
      have hge : ¬ (t : Int) ≥ ((lnc X (plS X) 10 : Nat) : Int) := by omega
      have h6 : N 382 t = (lnf X (plS X) 10 t : Nat) := by rw [g2.1 382 (by omega)]; exact g7.1
      unfold inl at g6
      rw [Bool.and_eq_true] at g6
      have g8 := (isF_mem g6.1).1
      have g9 := of_decide_eq_true g6.2
      obtain ⟨c1, c2⟩ := hN t (by omega)
      have c3 := c2 _ g5
      have e0 : actN (plS X) (rX X (plS X) 10) (lnf X (plS X) 10) t 0 = X 0 := c1.2.2.2.1
      rw [e143_207]
      simp only [↓e143, ↓e143_0, ↓e143_1, ↓e143_2, ↓e143_3, ↓e143_6, ↓e143_7, ↓e143_10, ↓e143_11, ↓e143_14, ↓e143_15, ↓e143_16, ↓e143_17, ↓e143_18, ↓e143_19, ↓e143_21, ↓e143_24, ↓e143_25, ↓e143_26, ↓e143_29, ↓e143_32, ↓e143_35, ↓e143_36, ↓e143_37, ↓e143_38, ↓e143_39, ↓e143_40, ↓e143_41, ↓e143_44, ↓e143_45, ↓e143_46, ↓e143_49, ↓e143_50, ↓e143_51, ↓e143_54, ↓e143_57, ↓e143_60, ↓e143_61, ↓e143_62, ↓e143_63, ↓e143_64, ↓e143_67, ↓e143_68, ↓e143_69, ↓e143_72, ↓e143_73, ↓e143_76, ↓e143_77, ↓e143_80, ↓e143_81, ↓e143_84, ↓e143_85, ↓e143_86, ↓e143_89, ↓e143_92, ↓e143_93, ↓e143_96, ↓e143_98, ↓e143_99, ↓e143_102, ↓e143_103, ↓e143_104, ↓e143_105, ↓e143_106, ↓e143_107, ↓e143_108, ↓e143_111, ↓e143_112, ↓e143_113, ↓e143_114, ↓e143_115, ↓e143_118, ↓e143_121, ↓e143_122, ↓e143_124, ↓e143_126, ↓e143_129, ↓e143_130, ↓e143_133, ↓e143_135, ↓e143_136, ↓e143_137, ↓e143_138, ↓e143_139, ↓e143_142, ↓e143_143, ↓e143_146, ↓e143_148, ↓e143_149, ↓e143_152, ↓e143_154, ↓e143_155, ↓e143_156, ↓e143_157, ↓e143_158, ↓e143_159, ↓e143_162, ↓e143_164, ↓e143_165, ↓e143_168, ↓e143_170, ↓e143_171, ↓e143_172, ↓e143_173, ↓e143_174, ↓e143_177, ↓e143_180, ↓e143_181, ↓e143_184, ↓e143_186, ↓e143_187, ↓e143_188, ↓e143_189, ↓e143_192, ↓e143_194, ↓e143_195, ↓e143_196, ↓e143_199, ↓e143_202, ↓e143_205, ↓e143_206, ↓e143_208, ↓e143_209, ↓e143_212, ↓e143_213, ↓e143_214, ↓e143_217, ↓e143_218, ↓e143_219, ↓e143_222, ↓e143_225, ↓e143_228, znl_i, znl_r, znl_n, zcs_0, zcs_1, zcs_2, zcs_3, zcat_0, zcat_1, zcat_2, zcat_3, zbl_0, zbl_1, true_and, and_true, ↓zret_some, ↓zret_none, Nat.reduceAdd, Nat.reduceLeDiff, Nat.reduceMul, eq_self, Int.reduceToNat, Int.reduceLE, Int.reduceLT, Int.reduceNeg, and_self, zrg, zkc_0, zin_1, zin_2, zin_3, zin_4, zin_5, zin_6, zin_7, zin_8, zin_9, zaa_9, zkc_10, zin_11, zin_12, zkc_13, zin_14, zin_15, zkc_16, zin_17, zin_18, zkc_19, zin_20, zin_21, zin_22, zin_23, zin_24, zin_25, zin_26, zin_27, zin_28, zaa_28, zkc_29, zin_30, zin_31, zkc_32, zin_33, zin_34, zkc_35, zin_36, zin_37, zkc_38, zin_39, zin_40, zin_41, zin_42, zin_43, zin_44, zin_45, zin_46, zin_47, zaa_47, zkc_48, zin_49, zin_50, zkc_51, zin_52, zin_53, zkc_54, zin_55, zin_56, zkc_209, zkc_210, zin_211, zaa_211, zkc_212, zin_213, zkc_214, zkc_215, zin_216, zin_217, zkc_218, zin_219, zin_220, zin_221, zkc_222, zin_223, zaa_223, zin_224, zin_225, zkc_226, zin_227, zin_228, zin_229, zin_230, zin_231, zin_232, zkc_233, zin_234, zaa_234, zin_235, zin_236, zin_237, zin_238, zin_239, zin_240, zin_241, zin_242, zin_243, zin_244, zin_245, zin_246, zin_247, zin_248, zin_249, zin_250, zkc_251, zin_252, zin_253, zkc_374, zin_375, zin_376, zin_377, zin_378, zin_379, zin_380, zin_381, zin_382, zin_383, zin_384, zin_385, zin_386, zin_387, h6, hcr, htr, ht0, hge, ↓reduceIte, Int.toNat_natCast]
      refine s_acts d _ N _ (plS X) _ g5 ((c1.2.2.1 _ g5).mpr g8) g9.1 ⟨c3.1, by omega⟩ g1 c1.1 (by rw [e0, c1.2.1]; exact Rg_Gr hG3 g2) (fun N' y1 y2 => ?_)
      rw [zret_none]
      have h9 := ih (t + 1) (by omega) N' y1 (Gr_trans g2 y2)
      simp only [↓e143, ↓e143_0, ↓e143_1, ↓e143_2, ↓e143_3, ↓e143_6, ↓e143_7, ↓e143_10, ↓e143_11, ↓e143_14, ↓e143_15, ↓e143_16, ↓e143_17, ↓e143_18, ↓e143_19, ↓e143_21, ↓e143_24, ↓e143_25, ↓e143_26, ↓e143_29, ↓e143_32, ↓e143_35, ↓e143_36, ↓e143_37, ↓e143_38, ↓e143_39, ↓e143_40, ↓e143_41, ↓e143_44, ↓e143_45, ↓e143_46, ↓e143_49, ↓e143_50, ↓e143_51, ↓e143_54, ↓e143_57, ↓e143_60, ↓e143_61, ↓e143_62, ↓e143_63, ↓e143_64, ↓e143_67, ↓e143_68, ↓e143_69, ↓e143_72, ↓e143_73, ↓e143_76, ↓e143_77, ↓e143_80, ↓e143_81, ↓e143_84, ↓e143_85, ↓e143_86, ↓e143_89, ↓e143_92, ↓e143_93, ↓e143_96, ↓e143_98, ↓e143_99, ↓e143_102, ↓e143_103, ↓e143_104, ↓e143_105, ↓e143_106, ↓e143_107, ↓e143_108, ↓e143_111, ↓e143_112, ↓e143_113, ↓e143_114, ↓e143_115, ↓e143_118, ↓e143_121, ↓e143_122, ↓e143_124, ↓e143_126, ↓e143_129, ↓e143_130, ↓e143_133, ↓e143_135, ↓e143_136, ↓e143_137, ↓e143_138, ↓e143_139, ↓e143_142, ↓e143_143, ↓e143_146, ↓e143_148, ↓e143_149, ↓e143_152, ↓e143_154, ↓e143_155, ↓e143_156, ↓e143_157, ↓e143_158, ↓e143_159, ↓e143_162, ↓e143_164, ↓e143_165, ↓e143_168, ↓e143_170, ↓e143_171, ↓e143_172, ↓e143_173, ↓e143_174, ↓e143_177, ↓e143_180, ↓e143_181, ↓e143_184, ↓e143_186, ↓e143_187, ↓e143_188, ↓e143_189, ↓e143_192, ↓e143_194, ↓e143_195, ↓e143_196, ↓e143_199, ↓e143_202, ↓e143_205, ↓e143_206, ↓e143_208, ↓e143_209, ↓e143_212, ↓e143_213, ↓e143_214, ↓e143_217, ↓e143_218, ↓e143_219, ↓e143_222, ↓e143_225, ↓e143_228, znl_i, znl_r, znl_n, zcs_0, zcs_1, zcs_2, zcs_3, zcat_0, zcat_1, zcat_2, zcat_3, zbl_0, zbl_1, true_and, and_true, ↓zret_some, ↓zret_none, Nat.reduceAdd, Nat.reduceLeDiff, Nat.reduceMul, eq_self, Int.reduceToNat, Int.reduceLE, Int.reduceLT, Int.reduceNeg, and_self]
      rw [show ((t : Int) + 1) = ((t + 1 : Nat) : Int) by omega]
      exact h9
  have h9 := loop _ 0 (Nat.zero_add _) N3 i1 (Gr_refl N3)
  simp only [↓e143, ↓e143_0, ↓e143_1, ↓e143_2, ↓e143_3, ↓e143_6, ↓e143_7, ↓e143_10, ↓e143_11, ↓e143_14, ↓e143_15, ↓e143_16, ↓e143_17, ↓e143_18, ↓e143_19, ↓e143_21, ↓e143_24, ↓e143_25, ↓e143_26, ↓e143_29, ↓e143_32, ↓e143_35, ↓e143_36, ↓e143_37, ↓e143_38, ↓e143_39, ↓e143_40, ↓e143_41, ↓e143_44, ↓e143_45, ↓e143_46, ↓e143_49, ↓e143_50, ↓e143_51, ↓e143_54, ↓e143_57, ↓e143_60, ↓e143_61, ↓e143_62, ↓e143_63, ↓e143_64, ↓e143_67, ↓e143_68, ↓e143_69, ↓e143_72, ↓e143_73, ↓e143_76, ↓e143_77, ↓e143_80, ↓e143_81, ↓e143_84, ↓e143_85, ↓e143_86, ↓e143_89, ↓e143_92, ↓e143_93, ↓e143_96, ↓e143_98, ↓e143_99, ↓e143_102, ↓e143_103, ↓e143_104, ↓e143_105, ↓e143_106, ↓e143_107, ↓e143_108, ↓e143_111, ↓e143_112, ↓e143_113, ↓e143_114, ↓e143_115, ↓e143_118, ↓e143_121, ↓e143_122, ↓e143_124, ↓e143_126, ↓e143_129, ↓e143_130, ↓e143_133, ↓e143_135, ↓e143_136, ↓e143_137, ↓e143_138, ↓e143_139, ↓e143_142, ↓e143_143, ↓e143_146, ↓e143_148, ↓e143_149, ↓e143_152, ↓e143_154, ↓e143_155, ↓e143_156, ↓e143_157, ↓e143_158, ↓e143_159, ↓e143_162, ↓e143_164, ↓e143_165, ↓e143_168, ↓e143_170, ↓e143_171, ↓e143_172, ↓e143_173, ↓e143_174, ↓e143_177, ↓e143_180, ↓e143_181, ↓e143_184, ↓e143_186, ↓e143_187, ↓e143_188, ↓e143_189, ↓e143_192, ↓e143_194, ↓e143_195, ↓e143_196, ↓e143_199, ↓e143_202, ↓e143_205, ↓e143_206, ↓e143_208, ↓e143_209, ↓e143_212, ↓e143_213, ↓e143_214, ↓e143_217, ↓e143_218, ↓e143_219, ↓e143_222, ↓e143_225, ↓e143_228, znl_i, znl_r, znl_n, zcs_0, zcs_1, zcs_2, zcs_3, zcat_0, zcat_1, zcat_2, zcat_3, zbl_0, zbl_1, true_and, and_true, ↓zret_some, ↓zret_none, Nat.reduceAdd, Nat.reduceLeDiff, Nat.reduceMul, eq_self, Int.reduceToNat, Int.reduceLE, Int.reduceLT, Int.reduceNeg, and_self]
  exact h9
