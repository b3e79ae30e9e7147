/-! ### the reference: a round -/
def rX (X : zM) (pl : Nat → Int) (k : Nat) : zM := zrow (zrow X 5 (fun j => if j < k ∧ 0 ≤ X 1 j then X 5 j + 1 else X 5 j)) 6 (fun j => if j < k ∧ isF X j = true then (if pl j < 0 then 2 else 1) else X 6 j)
theorem rX_ne (X : zM) (pl : Nat → Int) (k : Nat) {b : Nat} (h5 : b ≠ 5) (h6 : b ≠ 6) : rX X pl k b = X b := by unfold rX; rw [zrow_ne _ _ h6, zrow_ne _ _ h5]
theorem rX_5 (X : zM) (pl : Nat → Int) (k j : Nat) : rX X pl k 5 j = if j < k ∧ 0 ≤ X 1 j then X 5 j + 1 else X 5 j := by unfold rX; rw [zrow_ne _ _ (by omega), zrow_self]
theorem rX_6 (X : zM) (pl : Nat → Int) (k j : Nat) : rX X pl k 6 j = if j < k ∧ isF X j = true then (if pl j < 0 then 2 else 1) else X 6 j := by unfold rX; rw [zrow_self]
theorem rX_succ (X : zM) (pl : Nat → Int) (k : Nat) : rX X pl (k + 1) = if 0 ≤ X 1 k then (if isF X k = true then zup (zup (rX X pl k) 5 k (X 5 k + 1)) 6 k (if pl k < 0 then 2 else 1) else zup (rX X pl k) 5 k (X 5 k + 1)) else rX X pl k := by
  have e : ∀ j, j ≠ k → ((j < k + 1) ↔ (j < k)) := fun j h => ⟨fun h => by omega, fun h => by omega⟩
  have hF : isF X k = true → 0 ≤ X 1 k := fun h => (isF_mem h).1
  funext b j
  by_cases hb5 : b = 5
  · subst hb5
    by_cases hj : j = k
    · subst hj
      by_cases a1 : 0 ≤ X 1 j
      · by_cases a2 : isF X j = true
        · simp [rX_5, a1, a2, zup]
        · simp [rX_5, a1, a2, zup]
      · simp [rX_5, a1]
    · by_cases a1 : 0 ≤ X 1 k
      · by_cases a2 : isF X k = true
        · simp [rX_5, a1, a2, zup, hj, e j hj]
        · simp [rX_5, a1, a2, zup, hj, e j hj]
      · simp [rX_5, a1, e j hj]
  · by_cases hb6 : b = 6
    · subst hb6
      by_cases hj : j = k
      · subst hj
        by_cases a1 : 0 ≤ X 1 j
        · by_cases a2 : isF X j = true
          · simp [rX_6, a1, a2, zup]
          · simp [rX_6, a1, a2, zup]
        · have a2 : ¬ isF X j = true := fun z => a1 (hF z)
          simp [rX_6, a1, a2]
      · by_cases a1 : 0 ≤ X 1 k
        · by_cases a2 : isF X k = true
          · simp [rX_6, a1, a2, zup, hj, e j hj]
          · simp [rX_6, a1, a2, zup, e j hj]
        · simp [rX_6, a1, e j hj]
    · rw [rX_ne X pl (k + 1) hb5 hb6]
      by_cases a1 : 0 ≤ X 1 k
      · by_cases a2 : isF X k = true
        · simp [a1, a2, zup, hb5, hb6, rX_ne X pl k hb5 hb6]
        · simp [a1, a2, zup, hb5, rX_ne X pl k hb5 hb6]
      · simp [a1, rX_ne X pl k hb5 hb6]
theorem rX_ok {X : zM} (hW : WfS X) (pl : Nat → Int) (k : Nat) : Kp X (rX X pl k) :=
  stay_ok hW (fun b hb => rX_ne X pl k (by omega) (by omega)) (fun i _ => by rw [rX_ne X pl k (by omega) (by omega)]) (fun b j hj b1 b2 => by
    by_cases b5 : b = 5
    · subst b5; rw [rX_5, if_neg (fun z => by omega)]
    · by_cases b6 : b = 6
      · subst b6; rw [rX_6, if_neg (fun z => by have := (isF_mem z.2).1; omega)]
      · rw [rX_ne X pl k b5 b6])
theorem rX_up {X : zM} (hW : WfS X) (pl : Nat → Int) (k : Nat) (v : Int) (h0 : 0 ≤ X 1 k) : Kp X (zup (rX X pl k) 5 k v) :=
  stay_ok hW (fun b hb => by rw [zup_ne _ _ _ (by omega), rX_ne X pl k (by omega) (by omega)]) (fun i _ => by rw [zup_ne _ _ _ (by omega), rX_ne X pl k (by omega) (by omega)]) (fun b j hj b1 b2 => by
    by_cases b5 : b = 5
    · subst b5
      have hjk : j ≠ k := fun z => by subst z; omega
      rw [zup_off _ _ (Or.inr hjk), rX_5, if_neg (fun z => by omega)]
    · by_cases b6 : b = 6
      · subst b6; rw [zup_ne _ _ _ (by omega), rX_6, if_neg (fun z => by have := (isF_mem z.2).1; omega)]
      · rw [zup_ne _ _ _ b5, rX_ne X pl k b5 b6])
/-- the reference's line -/
def RI (X : zM) (pl : Nat → Int) (M : zM) (k : Nat) (N : zM) : Prop :=
  RelR N 0 (rX X pl k) ∧ (∀ b, b ≠ 375 → b ≠ 382 → b ≠ 383 → N b = M b) ∧ (∀ j, 258 ≤ j ∨ j = 9 → N 375 j = M 375 j) ∧ LnA N 382 383 (lnc X pl k) (lnf X pl k) (key X pl)
theorem RI_frame {X : zM} {pl : Nat → Int} {M N : zM} {k : Nat} (h : Rg (X 0) (ldr X) pl M) (hN : ∀ b, b ≠ 375 → b ≠ 382 → b ≠ 383 → N b = M b) : Rg (X 0) (ldr X) pl N := fun j hj => by
  rw [hN 380 (by omega) (by omega) (by omega), hN 376 (by omega) (by omega) (by omega)]
  exact h j hj
theorem s_rline (d : Nat) (Q : zQ) (M X : zM) (pl : Nat → Int) (hW : WfS X) (hR : RelR M 0 X) (hG : Rg (X 0) (ldr X) pl M)
    (hQ : ∀ N w3 w4, RI X pl M 10 N → RT (Sp (d + 3)) 143 Q 205 [some (.inr (.inr 374)), some (.inl ((lnc X pl 10 : Nat) : Int)), some (.inl 10), w3, w4] [] N) :
    ∀ w3 w4, RT (Sp (d + 3)) 143 Q 18 [some (.inr (.inr 374)), some (.inl 0), some (.inl 0), w3, w4] [] M := by
  obtain ⟨l1, l2, l3⟩ := ldr_rng hW
  have hlr : -2147483648 ≤ ldr X ∧ ldr X < 2147483648 := ⟨by omega, by omega⟩
  have loop : ∀ n k : Nat, k + n = 10 → ∀ N w3 w4, RI X pl M k N → RT (Sp (d + 3)) 143 Q 18 [some (.inr (.inr 374)), some (.inl ((lnc X pl k : Nat) : Int)), some (.inl (k : Int)), w3, w4] [] N := by
    intro n
    induction n with
    | zero =>
      intro k hk N w3 w4 hI
      obtain rfl : k = 10 := by omega
      have h9 := hQ N w3 w4 hI
      rw [e143_18]
      simp only [↓e143, ↓e143_0, ↓e143_1, ↓e143_2, ↓e143_3, ↓e143_6, ↓e143_7, ↓e143_10, ↓e143_11, ↓e143_14, ↓e143_15, ↓e143_16, ↓e143_17, ↓e143_19, ↓e143_21, ↓e143_24, ↓e143_25, ↓e143_26, ↓e143_29, ↓e143_32, ↓e143_35, ↓e143_36, ↓e143_37, ↓e143_38, ↓e143_39, ↓e143_40, ↓e143_41, ↓e143_44, ↓e143_45, ↓e143_46, ↓e143_49, ↓e143_50, ↓e143_51, ↓e143_54, ↓e143_57, ↓e143_60, ↓e143_61, ↓e143_62, ↓e143_63, ↓e143_64, ↓e143_67, ↓e143_68, ↓e143_69, ↓e143_72, ↓e143_73, ↓e143_76, ↓e143_77, ↓e143_80, ↓e143_81, ↓e143_84, ↓e143_85, ↓e143_86, ↓e143_89, ↓e143_92, ↓e143_93, ↓e143_96, ↓e143_98, ↓e143_99, ↓e143_102, ↓e143_103, ↓e143_104, ↓e143_105, ↓e143_106, ↓e143_107, ↓e143_108, ↓e143_111, ↓e143_112, ↓e143_113, ↓e143_114, ↓e143_115, ↓e143_118, ↓e143_121, ↓e143_122, ↓e143_124, ↓e143_126, ↓e143_129, ↓e143_130, ↓e143_133, ↓e143_135, ↓e143_136, ↓e143_137, ↓e143_138, ↓e143_139, ↓e143_142, ↓e143_143, ↓e143_146, ↓e143_148, ↓e143_149, ↓e143_152, ↓e143_154, ↓e143_155, ↓e143_156, ↓e143_157, ↓e143_158, ↓e143_159, ↓e143_162, ↓e143_164, ↓e143_165, ↓e143_168, ↓e143_170, ↓e143_171, ↓e143_172, ↓e143_173, ↓e143_174, ↓e143_177, ↓e143_180, ↓e143_181, ↓e143_184, ↓e143_186, ↓e143_187, ↓e143_188, ↓e143_189, ↓e143_192, ↓e143_194, ↓e143_195, ↓e143_196, ↓e143_199, ↓e143_202, ↓e143_206, ↓e143_207, ↓e143_208, ↓e143_209, ↓e143_212, ↓e143_213, ↓e143_214, ↓e143_217, ↓e143_218, ↓e143_219, ↓e143_222, ↓e143_225, ↓e143_228, znl_i, znl_r, znl_n, zcs_0, zcs_1, zcs_2, zcs_3, zcat_0, zcat_1, zcat_2, zcat_3, zbl_0, zbl_1, true_and, and_true, ↓zret_some, ↓zret_none, Nat.reduceAdd, Nat.reduceLeDiff, Nat.reduceMul, eq_self, Int.reduceToNat, Int.reduceLE, Int.reduceLT, Int.reduceNeg, and_self, zrg, Int.cast_ofNat_Int, ge_iff_le, Int.le_refl, ↓reduceIte]
      exact h9
    | succ n ih =>
      intro k hk N w3 w4 hI
      obtain ⟨i1, i2, i3, i4⟩ := id hI
      have hk9 : k < 10 := by omega
      have hk0 : 0 ≤ (k : Int) ∧ (k : Int) < 10 := ⟨by omega, by omega⟩
      have hk1 : ¬ (k : Int) ≥ 10 := by omega
      have hk2 : -2147483648 ≤ (k : Int) ∧ (k : Int) < 2147483648 := ⟨by omega, by omega⟩
      have hKp := rX_ok hW pl k
      have hs := rX_succ X pl k
      have hcl := lnc_le X pl k
      have hm : isM (rX X pl k) k ↔ 0 ≤ X 1 k := by
        unfold isM
        rw [rX_ne X pl k (by omega) (by omega), Int.toNat_natCast]
        exact ⟨fun h => h.2.2, fun h => ⟨by omega, by omega, h⟩⟩
      have hzz : -2147483648 ≤ zb (isM (rX X pl k) k) ∧ zb (isM (rX X pl k) k) < 2147483648 := by unfold zb; split <;> omega
      have next : ∀ (N' : zM) (cnt : Nat) w3 w4, cnt = lnc X pl (k + 1) → RI X pl M (k + 1) N' → RT (Sp (d + 3)) 143 Q 199 [some (.inr (.inr 374)), some (.inl (cnt : Int)), some (.inl (k : Int)), w3, w4] [] N' := fun N' cnt w3 w4 hc h => by
        subst hc
        have h9 := ih (k + 1) (by omega) N' w3 w4 h
        simp only [↓e143, ↓e143_0, ↓e143_1, ↓e143_2, ↓e143_3, ↓e143_6, ↓e143_7, ↓e143_10, ↓e143_11, ↓e143_14, ↓e143_15, ↓e143_16, ↓e143_17, ↓e143_19, ↓e143_21, ↓e143_24, ↓e143_25, ↓e143_26, ↓e143_29, ↓e143_32, ↓e143_35, ↓e143_36, ↓e143_37, ↓e143_38, ↓e143_39, ↓e143_40, ↓e143_41, ↓e143_44, ↓e143_45, ↓e143_46, ↓e143_49, ↓e143_50, ↓e143_51, ↓e143_54, ↓e143_57, ↓e143_60, ↓e143_61, ↓e143_62, ↓e143_63, ↓e143_64, ↓e143_67, ↓e143_68, ↓e143_69, ↓e143_72, ↓e143_73, ↓e143_76, ↓e143_77, ↓e143_80, ↓e143_81, ↓e143_84, ↓e143_85, ↓e143_86, ↓e143_89, ↓e143_92, ↓e143_93, ↓e143_96, ↓e143_98, ↓e143_99, ↓e143_102, ↓e143_103, ↓e143_104, ↓e143_105, ↓e143_106, ↓e143_107, ↓e143_108, ↓e143_111, ↓e143_112, ↓e143_113, ↓e143_114, ↓e143_115, ↓e143_118, ↓e143_121, ↓e143_122, ↓e143_124, ↓e143_126, ↓e143_129, ↓e143_130, ↓e143_133, ↓e143_135, ↓e143_136, ↓e143_137, ↓e143_138, ↓e143_139, ↓e143_142, ↓e143_143, ↓e143_146, ↓e143_148, ↓e143_149, ↓e143_152, ↓e143_154, ↓e143_155, ↓e143_156, ↓e143_157, ↓e143_158, ↓e143_159, ↓e143_162, ↓e143_164, ↓e143_165, ↓e143_168, ↓e143_170, ↓e143_171, ↓e143_172, ↓e143_173, ↓e143_174, ↓e143_177, ↓e143_180, ↓e143_181, ↓e143_184, ↓e143_186, ↓e143_187, ↓e143_188, ↓e143_189, ↓e143_192, ↓e143_194, ↓e143_195, ↓e143_196, ↓e143_199, ↓e143_202, ↓e143_205, ↓e143_206, ↓e143_207, ↓e143_208, ↓e143_209, ↓e143_212, ↓e143_213, ↓e143_214, ↓e143_217, ↓e143_218, ↓e143_219, ↓e143_222, ↓e143_225, ↓e143_228, znl_i, znl_r, znl_n, zcs_0, zcs_1, zcs_2, zcs_3, zcat_0, zcat_1, zcat_2, zcat_3, zbl_0, zbl_1, true_and, and_true, ↓zret_some, ↓zret_none, Nat.reduceAdd, Nat.reduceLeDiff, Nat.reduceMul, eq_self, Int.reduceToNat, Int.reduceLE, Int.reduceLT, Int.reduceNeg, and_self]
        rw [show ((k : Int) + 1) = ((k + 1 : Nat) : Int) by omega]
        exact h9
      -- not in the line
      have skip : ∀ (N' : zM) w3 w4, ¬ inl X pl k = true → RelR N' 0 (rX X pl (k + 1)) → Gr N N' → RT (Sp (d + 3)) 143 Q 199 [some (.inr (.inr 374)), some (.inl ((lnc X pl k : Nat) : Int)), some (.inl (k : Int)), w3, w4] [] N' := fun N' w3 w4 hn h1 h2 => by
        refine next N' _ w3 w4 (by show _ = if inl X pl k = true then lnc X pl k + 1 else lnc X pl k; rw [if_neg hn]) ⟨h1, fun b b1 b2 b3 => by rw [h2.1 b b1]; exact i2 b b1 b2 b3, fun j hj => by rw [h2.2 j hj]; exact i3 j hj, ?_⟩
        unfold lnc lnf
        rw [if_neg hn, if_neg hn]
        intro i hi
        rw [h2.1 382 (by omega), h2.1 383 (by omega)]
        exact i4 i hi
      rw [e143_18]
      simp only [↓e143, ↓e143_0, ↓e143_1, ↓e143_2, ↓e143_3, ↓e143_6, ↓e143_7, ↓e143_10, ↓e143_11, ↓e143_14, ↓e143_15, ↓e143_16, ↓e143_17, ↓e143_19, ↓e143_21, ↓e143_24, ↓e143_25, ↓e143_26, ↓e143_29, ↓e143_32, ↓e143_36, ↓e143_37, ↓e143_38, ↓e143_39, ↓e143_40, ↓e143_41, ↓e143_44, ↓e143_45, ↓e143_46, ↓e143_49, ↓e143_50, ↓e143_51, ↓e143_54, ↓e143_57, ↓e143_60, ↓e143_61, ↓e143_62, ↓e143_63, ↓e143_64, ↓e143_67, ↓e143_68, ↓e143_69, ↓e143_72, ↓e143_73, ↓e143_76, ↓e143_77, ↓e143_80, ↓e143_81, ↓e143_84, ↓e143_85, ↓e143_86, ↓e143_89, ↓e143_92, ↓e143_93, ↓e143_96, ↓e143_98, ↓e143_99, ↓e143_102, ↓e143_103, ↓e143_104, ↓e143_105, ↓e143_106, ↓e143_107, ↓e143_108, ↓e143_111, ↓e143_112, ↓e143_113, ↓e143_114, ↓e143_115, ↓e143_118, ↓e143_121, ↓e143_122, ↓e143_124, ↓e143_126, ↓e143_129, ↓e143_130, ↓e143_133, ↓e143_135, ↓e143_136, ↓e143_137, ↓e143_138, ↓e143_139, ↓e143_142, ↓e143_143, ↓e143_146, ↓e143_148, ↓e143_149, ↓e143_152, ↓e143_154, ↓e143_155, ↓e143_156, ↓e143_157, ↓e143_158, ↓e143_159, ↓e143_162, ↓e143_164, ↓e143_165, ↓e143_168, ↓e143_170, ↓e143_171, ↓e143_172, ↓e143_173, ↓e143_174, ↓e143_177, ↓e143_180, ↓e143_181, ↓e143_184, ↓e143_186, ↓e143_187, ↓e143_188, ↓e143_189, ↓e143_192, ↓e143_194, ↓e143_195, ↓e143_196, ↓e143_202, ↓e143_205, ↓e143_206, ↓e143_207, ↓e143_208, ↓e143_209, ↓e143_212, ↓e143_213, ↓e143_214, ↓e143_217, ↓e143_218, ↓e143_219, ↓e143_222, ↓e143_225, ↓e143_228, znl_i, znl_r, znl_n, zcs_0, zcs_1, zcs_2, zcs_3, zcat_0, zcat_1, zcat_2, zcat_3, zbl_0, zbl_1, true_and, and_true, ↓zret_some, ↓zret_none, Nat.reduceAdd, Nat.reduceLeDiff, Nat.reduceMul, eq_self, Int.reduceToNat, Int.reduceLE, Int.reduceLT, Int.reduceNeg, and_self, zrg, zkc_0, zin_1, zin_2, zin_3, zin_4, zin_5, zin_6, zin_7, zin_8, zin_9, zaa_9, zkc_10, zin_11, zin_12, zkc_13, zin_14, zin_15, zkc_16, zin_17, zin_18, zkc_19, zin_20, zin_21, zin_22, zin_23, zin_24, zin_25, zin_26, zin_27, zin_28, zaa_28, zkc_29, zin_30, zin_31, zkc_32, zin_33, zin_34, zkc_35, zin_36, zin_37, zkc_38, zin_39, zin_40, zin_41, zin_42, zin_43, zin_44, zin_45, zin_46, zin_47, zaa_47, zkc_48, zin_49, zin_50, zkc_51, zin_52, zin_53, zkc_54, zin_55, zin_56, zkc_209, zkc_210, zin_211, zaa_211, zkc_212, zin_213, zkc_214, zkc_215, zin_216, zin_217, zkc_218, zin_219, zin_220, zin_221, zkc_222, zin_223, zaa_223, zin_224, zin_225, zkc_226, zin_227, zin_228, zin_229, zin_230, zin_231, zin_232, zkc_233, zin_234, zaa_234, zin_235, zin_236, zin_237, zin_238, zin_239, zin_240, zin_241, zin_242, zin_243, zin_244, zin_245, zin_246, zin_247, zin_248, zin_249, zin_250, zkc_251, zin_252, zin_253, zkc_374, zin_375, zin_376, zin_377, zin_378, zin_379, zin_380, zin_381, zin_382, zin_383, zin_384, zin_385, zin_386, zin_387, hk1, hk2, ↓reduceIte, ↓s_isMember (d + 1) _ N _ k i1 hKp.1 hk2, hzz]
      by_cases a1 : 0 ≤ X 1 k
      · rw [show zb (isM (rX X pl k) k) = 1 from if_pos (hm.mpr a1), if_pos (by omega)]
        rw [if_pos a1] at hs
        have h7 := mem_lt hKp.1 hk9 (by rw [rX_ne X pl k (by omega) (by omega)]; exact a1)
        have hr := i1.2.2.1 k hk9 h7
        simp only [Nat.zero_add] at hr
        have h5 : N 375 (12 + 6 * k + 4) = X 5 k := by rw [hr.2.2.2.2.1, rX_5, if_neg (fun z => by omega)]
        have hcell : N 375 (12 + 6 * k + 0) = X 1 k := by have := hr.1; rw [rX_ne X pl k (by omega) (by omega)] at this; exact this
        have hR1 := RelR_lay i1 (p := 4) (v := X 5 k + 1) hk9 (by omega)
        have hK1 := rX_up hW pl k (X 5 k + 1) a1
        have hG1 : Gr N (zup N 375 (12 + 6 * k + 4) (X 5 k + 1)) := Gr_up (by omega)
        have hl1 : ldr (zup (rX X pl k) 5 k (X 5 k + 1)) = ldr X := hK1.2.1
        have hGN : Rg (X 0) (ldr X) pl N := RI_frame (k := k) hG i2
        simp only [↓e143, ↓e143_0, ↓e143_1, ↓e143_2, ↓e143_3, ↓e143_6, ↓e143_7, ↓e143_10, ↓e143_11, ↓e143_14, ↓e143_15, ↓e143_16, ↓e143_17, ↓e143_19, ↓e143_21, ↓e143_24, ↓e143_25, ↓e143_26, ↓e143_29, ↓e143_32, ↓e143_35, ↓e143_36, ↓e143_37, ↓e143_38, ↓e143_39, ↓e143_40, ↓e143_41, ↓e143_44, ↓e143_45, ↓e143_46, ↓e143_49, ↓e143_50, ↓e143_51, ↓e143_54, ↓e143_57, ↓e143_61, ↓e143_62, ↓e143_63, ↓e143_64, ↓e143_67, ↓e143_68, ↓e143_69, ↓e143_72, ↓e143_73, ↓e143_76, ↓e143_77, ↓e143_80, ↓e143_81, ↓e143_84, ↓e143_85, ↓e143_86, ↓e143_89, ↓e143_92, ↓e143_93, ↓e143_96, ↓e143_98, ↓e143_99, ↓e143_102, ↓e143_103, ↓e143_104, ↓e143_105, ↓e143_106, ↓e143_107, ↓e143_108, ↓e143_111, ↓e143_112, ↓e143_113, ↓e143_114, ↓e143_115, ↓e143_118, ↓e143_121, ↓e143_122, ↓e143_124, ↓e143_126, ↓e143_129, ↓e143_130, ↓e143_133, ↓e143_135, ↓e143_136, ↓e143_137, ↓e143_138, ↓e143_139, ↓e143_142, ↓e143_143, ↓e143_146, ↓e143_148, ↓e143_149, ↓e143_152, ↓e143_154, ↓e143_155, ↓e143_156, ↓e143_157, ↓e143_158, ↓e143_159, ↓e143_162, ↓e143_164, ↓e143_165, ↓e143_168, ↓e143_170, ↓e143_171, ↓e143_172, ↓e143_173, ↓e143_174, ↓e143_177, ↓e143_180, ↓e143_181, ↓e143_184, ↓e143_186, ↓e143_187, ↓e143_188, ↓e143_189, ↓e143_192, ↓e143_194, ↓e143_195, ↓e143_196, ↓e143_202, ↓e143_205, ↓e143_206, ↓e143_207, ↓e143_208, ↓e143_209, ↓e143_212, ↓e143_213, ↓e143_214, ↓e143_217, ↓e143_218, ↓e143_219, ↓e143_222, ↓e143_225, ↓e143_228, znl_i, znl_r, znl_n, zcs_0, zcs_1, zcs_2, zcs_3, zcat_0, zcat_1, zcat_2, zcat_3, zbl_0, zbl_1, true_and, and_true, ↓zret_some, ↓zret_none, Nat.reduceAdd, Nat.reduceLeDiff, Nat.reduceMul, eq_self, Int.reduceToNat, Int.reduceLE, Int.reduceLT, Int.reduceNeg, and_self, zrg, zkc_0, zin_1, zin_2, zin_3, zin_4, zin_5, zin_6, zin_7, zin_8, zin_9, zaa_9, zkc_10, zin_11, zin_12, zkc_13, zin_14, zin_15, zkc_16, zin_17, zin_18, zkc_19, zin_20, zin_21, zin_22, zin_23, zin_24, zin_25, zin_26, zin_27, zin_28, zaa_28, zkc_29, zin_30, zin_31, zkc_32, zin_33, zin_34, zkc_35, zin_36, zin_37, zkc_38, zin_39, zin_40, zin_41, zin_42, zin_43, zin_44, zin_45, zin_46, zin_47, zaa_47, zkc_48, zin_49, zin_50, zkc_51, zin_52, zin_53, zkc_54, zin_55, zin_56, zkc_209, zkc_210, zin_211, zaa_211, zkc_212, zin_213, zkc_214, zkc_215, zin_216, zin_217, zkc_218, zin_219, zin_220, zin_221, zkc_222, zin_223, zaa_223, zin_224, zin_225, zkc_226, zin_227, zin_228, zin_229, zin_230, zin_231, zin_232, zkc_233, zin_234, zaa_234, zin_235, zin_236, zin_237, zin_238, zin_239, zin_240, zin_241, zin_242, zin_243, zin_244, zin_245, zin_246, zin_247, zin_248, zin_249, zin_250, zkc_251, zin_252, zin_253, zkc_374, zin_375, zin_376, zin_377, zin_378, zin_379, zin_380, zin_381, zin_382, zin_383, zin_384, zin_385, zin_386, zin_387, ↓s_of4 (d + 2) _ N k hk9, h5, ↓s_lay4 (d + 2) _ _ k _ hk9, ↓s_rLeader (d) _ _ _ hR1 hK1.1, hl1, hlr, hk2, ne_eq, ite_not]
        by_cases a2 : (k : Int) = ldr X
        · have hf : ¬ isF X k = true := fun z => (isF_mem z).2 a2
          rw [if_neg hf] at hs
          rw [if_pos a2]
          exact skip _ _ _ (fun z => by unfold inl at z; rw [Bool.and_eq_true] at z; exact hf z.1) (by rw [hs]; exact hR1) hG1
        · have hf : isF X k = true := decide_eq_true ⟨a2, a1⟩
          rw [if_pos hf] at hs
          rw [if_neg a2]
          rcases hGN k hk9 with ⟨g1, g2⟩ | ⟨s, g1, g2, g3, g4, g5, g6, g7⟩
          · have e1 : ∀ v, zup N 375 (12 + 6 * k + 4) v 380 k = -1 := fun v => by rw [zup_ne _ _ _ (by omega)]; exact g1
            have e2 : ∀ v u, zup (zup N 375 (12 + 6 * k + 4) v) 375 (12 + 6 * k + 5) u 380 k = -1 := fun v u => by rw [zup_ne _ _ _ (by omega)]; exact e1 v
            rw [if_pos (show pl k < 0 by omega)] at hs
            simp only [↓e143, ↓e143_0, ↓e143_1, ↓e143_2, ↓e143_3, ↓e143_6, ↓e143_7, ↓e143_10, ↓e143_11, ↓e143_14, ↓e143_15, ↓e143_16, ↓e143_17, ↓e143_19, ↓e143_21, ↓e143_24, ↓e143_25, ↓e143_26, ↓e143_29, ↓e143_32, ↓e143_35, ↓e143_36, ↓e143_37, ↓e143_38, ↓e143_39, ↓e143_40, ↓e143_41, ↓e143_44, ↓e143_45, ↓e143_46, ↓e143_49, ↓e143_50, ↓e143_51, ↓e143_54, ↓e143_57, ↓e143_60, ↓e143_61, ↓e143_62, ↓e143_63, ↓e143_64, ↓e143_67, ↓e143_68, ↓e143_69, ↓e143_72, ↓e143_73, ↓e143_76, ↓e143_77, ↓e143_80, ↓e143_81, ↓e143_84, ↓e143_85, ↓e143_86, ↓e143_89, ↓e143_92, ↓e143_93, ↓e143_96, ↓e143_98, ↓e143_99, ↓e143_102, ↓e143_103, ↓e143_104, ↓e143_105, ↓e143_106, ↓e143_107, ↓e143_108, ↓e143_111, ↓e143_112, ↓e143_113, ↓e143_114, ↓e143_115, ↓e143_118, ↓e143_121, ↓e143_122, ↓e143_124, ↓e143_126, ↓e143_129, ↓e143_130, ↓e143_133, ↓e143_135, ↓e143_136, ↓e143_137, ↓e143_138, ↓e143_139, ↓e143_142, ↓e143_143, ↓e143_146, ↓e143_148, ↓e143_149, ↓e143_152, ↓e143_154, ↓e143_155, ↓e143_156, ↓e143_157, ↓e143_158, ↓e143_159, ↓e143_162, ↓e143_164, ↓e143_165, ↓e143_168, ↓e143_170, ↓e143_171, ↓e143_172, ↓e143_173, ↓e143_174, ↓e143_177, ↓e143_180, ↓e143_181, ↓e143_184, ↓e143_186, ↓e143_187, ↓e143_188, ↓e143_189, ↓e143_192, ↓e143_194, ↓e143_195, ↓e143_196, ↓e143_202, ↓e143_205, ↓e143_206, ↓e143_207, ↓e143_208, ↓e143_209, ↓e143_212, ↓e143_213, ↓e143_214, ↓e143_217, ↓e143_218, ↓e143_219, ↓e143_222, ↓e143_225, ↓e143_228, znl_i, znl_r, znl_n, zcs_0, zcs_1, zcs_2, zcs_3, zcat_0, zcat_1, zcat_2, zcat_3, zbl_0, zbl_1, true_and, and_true, ↓zret_some, ↓zret_none, Nat.reduceAdd, Nat.reduceLeDiff, Nat.reduceMul, eq_self, Int.reduceToNat, Int.reduceLE, Int.reduceLT, Int.reduceNeg, and_self, zrg, zkc_0, zin_1, zin_2, zin_3, zin_4, zin_5, zin_6, zin_7, zin_8, zin_9, zaa_9, zkc_10, zin_11, zin_12, zkc_13, zin_14, zin_15, zkc_16, zin_17, zin_18, zkc_19, zin_20, zin_21, zin_22, zin_23, zin_24, zin_25, zin_26, zin_27, zin_28, zaa_28, zkc_29, zin_30, zin_31, zkc_32, zin_33, zin_34, zkc_35, zin_36, zin_37, zkc_38, zin_39, zin_40, zin_41, zin_42, zin_43, zin_44, zin_45, zin_46, zin_47, zaa_47, zkc_48, zin_49, zin_50, zkc_51, zin_52, zin_53, zkc_54, zin_55, zin_56, zkc_209, zkc_210, zin_211, zaa_211, zkc_212, zin_213, zkc_214, zkc_215, zin_216, zin_217, zkc_218, zin_219, zin_220, zin_221, zkc_222, zin_223, zaa_223, zin_224, zin_225, zkc_226, zin_227, zin_228, zin_229, zin_230, zin_231, zin_232, zkc_233, zin_234, zaa_234, zin_235, zin_236, zin_237, zin_238, zin_239, zin_240, zin_241, zin_242, zin_243, zin_244, zin_245, zin_246, zin_247, zin_248, zin_249, zin_250, zkc_251, zin_252, zin_253, zkc_374, zin_375, zin_376, zin_377, zin_378, zin_379, zin_380, zin_381, zin_382, zin_383, zin_384, zin_385, zin_386, zin_387, hk0, Int.toNat_natCast, e1, e2, show ¬ (-1 : Int) ≥ 0 by omega, ↓reduceIte, ↓s_lay5 (d + 2) _ _ k _ hk9]
            exact skip _ _ _ (fun z => by unfold inl at z; rw [Bool.and_eq_true] at z; have := of_decide_eq_true z.2; omega) (by rw [hs]; exact RelR_lay hR1 (p := 5) (v := 2) hk9 (by omega)) (Gr_trans hG1 (Gr_up (by omega)))
          · have e1 : ∀ v, zup N 375 (12 + 6 * k + 4) v 380 k = s := fun v => by rw [zup_ne _ _ _ (by omega)]; exact g1
            have e2 : ∀ v u, zup (zup N 375 (12 + 6 * k + 4) v) 375 (12 + 6 * k + 5) u 380 k = s := fun v u => by rw [zup_ne _ _ _ (by omega)]; exact e1 v
            rw [if_neg (show ¬ pl k < 0 by omega)] at hs
            obtain ⟨c, hcN⟩ : ∃ c : Nat, X 1 k = c := ⟨(X 1 k).toNat, by omega⟩
            have hc120 := (hW.2.1 k hk9).2
            have hsr : -2147483648 ≤ (s : Int) ∧ (s : Int) < 2147483648 := ⟨by omega, by omega⟩
            have e3 : (120 * (s : Int) + (c : Int)).toNat = 120 * s + c := by omega
            have e4 : 0 ≤ 120 * (s : Int) + (c : Int) ∧ 120 * (s : Int) + (c : Int) < 1440 := ⟨by omega, by omega⟩
            have e5 : ∀ v u, zup (zup N 375 (12 + 6 * k + 4) v) 375 (12 + 6 * k + 5) u 375 (12 + 6 * k + 0) = c := fun v u => by rw [zup_off _ _ (by omega), zup_off _ _ (by omega), hcell, hcN]
            have hkey : key X pl k = dst (X 0) (pl k).toNat c := by unfold key; rw [hcN, Int.toNat_natCast]
            have e6 : ∀ v u, zup (zup N 375 (12 + 6 * k + 4) v) 375 (12 + 6 * k + 5) u 376 (120 * s + c) = key X pl k := fun v u => by rw [zup_ne _ _ _ (by omega), zup_ne _ _ _ (by omega), g7 c (by omega), hkey]
            have hkr := key_rng (S := X) (pl := pl) (j := k) g4
            have hin : inl X pl k = true ↔ ¬ key X pl k = 0 := by
              unfold inl
              rw [hf, Bool.true_and, decide_eq_true_eq, hkey]
              constructor
              · intro z y; have := dst_zero y; omega
              · intro z
                refine ⟨g3, fun y => z ?_⟩
                rw [show c = (pl k).toNat by omega]
                exact dst_self g5
            have hR2 : RelR (zup (zup N 375 (12 + 6 * k + 4) (X 5 k + 1)) 375 (12 + 6 * k + 5) 1) 0 (rX X pl (k + 1)) := by rw [hs]; exact RelR_lay hR1 (p := 5) (v := 1) hk9 (by omega)
            have hG2 : Gr N (zup (zup N 375 (12 + 6 * k + 4) (X 5 k + 1)) 375 (12 + 6 * k + 5) 1) := Gr_trans hG1 (Gr_up (by omega))
            simp only [↓e143, ↓e143_0, ↓e143_1, ↓e143_2, ↓e143_3, ↓e143_6, ↓e143_7, ↓e143_10, ↓e143_11, ↓e143_14, ↓e143_15, ↓e143_16, ↓e143_17, ↓e143_19, ↓e143_21, ↓e143_24, ↓e143_25, ↓e143_26, ↓e143_29, ↓e143_32, ↓e143_35, ↓e143_36, ↓e143_37, ↓e143_38, ↓e143_39, ↓e143_40, ↓e143_41, ↓e143_44, ↓e143_45, ↓e143_46, ↓e143_49, ↓e143_50, ↓e143_51, ↓e143_54, ↓e143_57, ↓e143_60, ↓e143_61, ↓e143_62, ↓e143_63, ↓e143_64, ↓e143_67, ↓e143_68, ↓e143_69, ↓e143_72, ↓e143_73, ↓e143_76, ↓e143_77, ↓e143_80, ↓e143_81, ↓e143_84, ↓e143_85, ↓e143_86, ↓e143_89, ↓e143_92, ↓e143_93, ↓e143_96, ↓e143_98, ↓e143_99, ↓e143_102, ↓e143_103, ↓e143_104, ↓e143_105, ↓e143_106, ↓e143_107, ↓e143_108, ↓e143_111, ↓e143_112, ↓e143_113, ↓e143_114, ↓e143_115, ↓e143_118, ↓e143_122, ↓e143_124, ↓e143_126, ↓e143_129, ↓e143_130, ↓e143_133, ↓e143_135, ↓e143_136, ↓e143_137, ↓e143_138, ↓e143_139, ↓e143_142, ↓e143_143, ↓e143_146, ↓e143_148, ↓e143_149, ↓e143_152, ↓e143_154, ↓e143_155, ↓e143_156, ↓e143_157, ↓e143_158, ↓e143_159, ↓e143_162, ↓e143_164, ↓e143_165, ↓e143_168, ↓e143_170, ↓e143_171, ↓e143_172, ↓e143_173, ↓e143_174, ↓e143_177, ↓e143_180, ↓e143_181, ↓e143_184, ↓e143_186, ↓e143_187, ↓e143_188, ↓e143_189, ↓e143_192, ↓e143_194, ↓e143_195, ↓e143_196, ↓e143_202, ↓e143_205, ↓e143_206, ↓e143_207, ↓e143_208, ↓e143_209, ↓e143_212, ↓e143_213, ↓e143_214, ↓e143_217, ↓e143_218, ↓e143_219, ↓e143_222, ↓e143_225, ↓e143_228, znl_i, znl_r, znl_n, zcs_0, zcs_1, zcs_2, zcs_3, zcat_0, zcat_1, zcat_2, zcat_3, zbl_0, zbl_1, true_and, and_true, ↓zret_some, ↓zret_none, Nat.reduceAdd, Nat.reduceLeDiff, Nat.reduceMul, eq_self, Int.reduceToNat, Int.reduceLE, Int.reduceLT, Int.reduceNeg, and_self, zrg, zkc_0, zin_1, zin_2, zin_3, zin_4, zin_5, zin_6, zin_7, zin_8, zin_9, zaa_9, zkc_10, zin_11, zin_12, zkc_13, zin_14, zin_15, zkc_16, zin_17, zin_18, zkc_19, zin_20, zin_21, zin_22, zin_23, zin_24, zin_25, zin_26, zin_27, zin_28, zaa_28, zkc_29, zin_30, zin_31, zkc_32, zin_33, zin_34, zkc_35, zin_36, zin_37, zkc_38, zin_39, zin_40, zin_41, zin_42, zin_43, zin_44, zin_45, zin_46, zin_47, zaa_47, zkc_48, zin_49, zin_50, zkc_51, zin_52, zin_53, zkc_54, zin_55, zin_56, zkc_209, zkc_210, zin_211, zaa_211, zkc_212, zin_213, zkc_214, zkc_215, zin_216, zin_217, zkc_218, zin_219, zin_220, zin_221, zkc_222, zin_223, zaa_223, zin_224, zin_225, zkc_226, zin_227, zin_228, zin_229, zin_230, zin_231, zin_232, zkc_233, zin_234, zaa_234, zin_235, zin_236, zin_237, zin_238, zin_239, zin_240, zin_241, zin_242, zin_243, zin_244, zin_245, zin_246, zin_247, zin_248, zin_249, zin_250, zkc_251, zin_252, zin_253, zkc_374, zin_375, zin_376, zin_377, zin_378, zin_379, zin_380, zin_381, zin_382, zin_383, zin_384, zin_385, zin_386, zin_387, hk0, Int.toNat_natCast, e1, e2, hsr, show (s : Int) ≥ 0 by omega, ↓reduceIte, ↓s_lay5 (d + 2) _ _ k _ hk9, ↓s_of0 (d + 2) _ _ k hk9, e5, e3, e4, e6, hkr, ne_eq, ite_not]
            generalize hP : zup (zup N 375 (12 + 6 * k + 4) (X 5 k + 1)) 375 (12 + 6 * k + 5) 1 = P at hR2 hG2 ⊢
            by_cases a3 : key X pl k = 0
            · rw [if_pos a3]
              exact skip P _ _ (fun z => (hin.mp z) a3) hR2 hG2
            · rw [if_neg a3]
              have hy := hin.mpr a3
              have hcr : -2147483648 ≤ ((lnc X pl k : Nat) : Int) ∧ ((lnc X pl k : Nat) : Int) < 2147483648 := ⟨by omega, by omega⟩
              have i4P : LnA P 382 383 (lnc X pl k) (lnf X pl k) (key X pl) := fun i hi => by rw [hG2.1 382 (by omega), hG2.1 383 (by omega)]; exact i4 i hi
              have stop : ∀ (p : Nat) (N' : zM), (∀ b, b ≠ 382 → b ≠ 383 → N' b = P b) → LnP N' 382 383 (lnc X pl k) p (lnf X pl k) (key X pl) (key X pl k) → ps (key X pl) (lnf X pl k) (key X pl k) p = p → RT (Sp (d + 3)) 143 Q 180 [some (.inr (.inr 374)), some (.inl ((lnc X pl k : Nat) : Int)), some (.inl (k : Int)), some (.inl (key X pl k)), some (.inl (p : Int))] [] N' := by
                intro p N' h1 h2 h3
                have hp : 0 ≤ (p : Int) ∧ (p : Int) < 10 := ⟨by omega, by have := h2.1; omega⟩
                have h9 := LnP_end (m := k) (show (382 : Nat) ≠ 383 by omega) h2 h3
                have h8 := next (zup (zup N' 382 p (k : Int)) 383 p (key X pl k)) (lnc X pl k + 1) (some (.inl (key X pl k))) (some (.inl (p : Int))) (by show _ = if inl X pl k = true then lnc X pl k + 1 else lnc X pl k; rw [if_pos hy]) ⟨RelR_congr (by rw [zup_ne _ _ _ (by omega), zup_ne _ _ _ (by omega), h1 375 (by omega) (by omega)]) hR2, fun b b1 b2 b3 => by rw [zup_ne _ _ _ b3, zup_ne _ _ _ b2, h1 b b2 b3, hG2.1 b b1]; exact i2 b b1 b2 b3, fun j hj => by rw [zup_ne _ _ _ (by omega), zup_ne _ _ _ (by omega), h1 375 (by omega) (by omega), hG2.2 j hj]; exact i3 j hj, by
                  unfold lnc lnf
                  rw [if_pos hy, if_pos hy]
                  exact h9⟩
                simp only [↓e143, ↓e143_0, ↓e143_1, ↓e143_2, ↓e143_3, ↓e143_6, ↓e143_7, ↓e143_10, ↓e143_11, ↓e143_14, ↓e143_15, ↓e143_16, ↓e143_17, ↓e143_19, ↓e143_21, ↓e143_24, ↓e143_25, ↓e143_26, ↓e143_29, ↓e143_32, ↓e143_35, ↓e143_36, ↓e143_37, ↓e143_38, ↓e143_39, ↓e143_40, ↓e143_41, ↓e143_44, ↓e143_45, ↓e143_46, ↓e143_49, ↓e143_50, ↓e143_51, ↓e143_54, ↓e143_57, ↓e143_60, ↓e143_61, ↓e143_62, ↓e143_63, ↓e143_64, ↓e143_67, ↓e143_68, ↓e143_69, ↓e143_72, ↓e143_73, ↓e143_76, ↓e143_77, ↓e143_80, ↓e143_81, ↓e143_84, ↓e143_85, ↓e143_86, ↓e143_89, ↓e143_92, ↓e143_93, ↓e143_96, ↓e143_98, ↓e143_99, ↓e143_102, ↓e143_103, ↓e143_104, ↓e143_105, ↓e143_106, ↓e143_107, ↓e143_108, ↓e143_111, ↓e143_112, ↓e143_113, ↓e143_114, ↓e143_115, ↓e143_118, ↓e143_121, ↓e143_122, ↓e143_124, ↓e143_126, ↓e143_129, ↓e143_130, ↓e143_133, ↓e143_135, ↓e143_136, ↓e143_137, ↓e143_138, ↓e143_139, ↓e143_142, ↓e143_143, ↓e143_146, ↓e143_148, ↓e143_149, ↓e143_152, ↓e143_154, ↓e143_155, ↓e143_156, ↓e143_157, ↓e143_158, ↓e143_159, ↓e143_162, ↓e143_164, ↓e143_165, ↓e143_168, ↓e143_170, ↓e143_171, ↓e143_172, ↓e143_173, ↓e143_174, ↓e143_177, ↓e143_180, ↓e143_181, ↓e143_184, ↓e143_186, ↓e143_187, ↓e143_188, ↓e143_189, ↓e143_192, ↓e143_194, ↓e143_195, ↓e143_196, ↓e143_202, ↓e143_205, ↓e143_206, ↓e143_207, ↓e143_208, ↓e143_209, ↓e143_212, ↓e143_213, ↓e143_214, ↓e143_217, ↓e143_218, ↓e143_219, ↓e143_222, ↓e143_225, ↓e143_228, znl_i, znl_r, znl_n, zcs_0, zcs_1, zcs_2, zcs_3, zcat_0, zcat_1, zcat_2, zcat_3, zbl_0, zbl_1, true_and, and_true, ↓zret_some, ↓zret_none, Nat.reduceAdd, Nat.reduceLeDiff, Nat.reduceMul, eq_self, Int.reduceToNat, Int.reduceLE, Int.reduceLT, Int.reduceNeg, and_self, zkc_0, zin_1, zin_2, zin_3, zin_4, zin_5, zin_6, zin_7, zin_8, zin_9, zaa_9, zkc_10, zin_11, zin_12, zkc_13, zin_14, zin_15, zkc_16, zin_17, zin_18, zkc_19, zin_20, zin_21, zin_22, zin_23, zin_24, zin_25, zin_26, zin_27, zin_28, zaa_28, zkc_29, zin_30, zin_31, zkc_32, zin_33, zin_34, zkc_35, zin_36, zin_37, zkc_38, zin_39, zin_40, zin_41, zin_42, zin_43, zin_44, zin_45, zin_46, zin_47, zaa_47, zkc_48, zin_49, zin_50, zkc_51, zin_52, zin_53, zkc_54, zin_55, zin_56, zkc_209, zkc_210, zin_211, zaa_211, zkc_212, zin_213, zkc_214, zkc_215, zin_216, zin_217, zkc_218, zin_219, zin_220, zin_221, zkc_222, zin_223, zaa_223, zin_224, zin_225, zkc_226, zin_227, zin_228, zin_229, zin_230, zin_231, zin_232, zkc_233, zin_234, zaa_234, zin_235, zin_236, zin_237, zin_238, zin_239, zin_240, zin_241, zin_242, zin_243, zin_244, zin_245, zin_246, zin_247, zin_248, zin_249, zin_250, zkc_251, zin_252, zin_253, zkc_374, zin_375, zin_376, zin_377, zin_378, zin_379, zin_380, zin_381, zin_382, zin_383, zin_384, zin_385, zin_386, zin_387, hp, Int.toNat_natCast]
                rw [show (((lnc X pl k : Nat) : Int) + 1) = ((lnc X pl k + 1 : Nat) : Int) by omega]
                exact h8
              have loop2 : ∀ (p : Nat) (N' : zM), (∀ b, b ≠ 382 → b ≠ 383 → N' b = P b) → LnP N' 382 383 (lnc X pl k) p (lnf X pl k) (key X pl) (key X pl k) → RT (Sp (d + 3)) 143 Q 124 [some (.inr (.inr 374)), some (.inl ((lnc X pl k : Nat) : Int)), some (.inl (k : Int)), some (.inl (key X pl k)), some (.inl (p : Int))] [] N' := by
                intro p
                induction p with
                | zero =>
                  intro N' h1 h2
                  have h9 := stop 0 N' h1 h2 rfl
                  rw [e143_124]
                  simp only [↓e143, ↓e143_0, ↓e143_1, ↓e143_2, ↓e143_3, ↓e143_6, ↓e143_7, ↓e143_10, ↓e143_11, ↓e143_14, ↓e143_15, ↓e143_16, ↓e143_17, ↓e143_18, ↓e143_19, ↓e143_21, ↓e143_24, ↓e143_25, ↓e143_26, ↓e143_29, ↓e143_32, ↓e143_35, ↓e143_36, ↓e143_37, ↓e143_38, ↓e143_39, ↓e143_40, ↓e143_41, ↓e143_44, ↓e143_45, ↓e143_46, ↓e143_49, ↓e143_50, ↓e143_51, ↓e143_54, ↓e143_57, ↓e143_60, ↓e143_61, ↓e143_62, ↓e143_63, ↓e143_64, ↓e143_67, ↓e143_68, ↓e143_69, ↓e143_72, ↓e143_73, ↓e143_76, ↓e143_77, ↓e143_80, ↓e143_81, ↓e143_84, ↓e143_85, ↓e143_86, ↓e143_89, ↓e143_92, ↓e143_93, ↓e143_96, ↓e143_98, ↓e143_99, ↓e143_102, ↓e143_103, ↓e143_104, ↓e143_105, ↓e143_106, ↓e143_107, ↓e143_108, ↓e143_111, ↓e143_112, ↓e143_113, ↓e143_114, ↓e143_115, ↓e143_118, ↓e143_121, ↓e143_122, ↓e143_126, ↓e143_129, ↓e143_130, ↓e143_133, ↓e143_135, ↓e143_136, ↓e143_137, ↓e143_138, ↓e143_139, ↓e143_142, ↓e143_143, ↓e143_146, ↓e143_148, ↓e143_149, ↓e143_152, ↓e143_154, ↓e143_155, ↓e143_156, ↓e143_157, ↓e143_158, ↓e143_159, ↓e143_162, ↓e143_164, ↓e143_165, ↓e143_168, ↓e143_170, ↓e143_171, ↓e143_172, ↓e143_173, ↓e143_174, ↓e143_177, ↓e143_181, ↓e143_184, ↓e143_186, ↓e143_187, ↓e143_188, ↓e143_189, ↓e143_192, ↓e143_194, ↓e143_195, ↓e143_196, ↓e143_199, ↓e143_202, ↓e143_205, ↓e143_206, ↓e143_207, ↓e143_208, ↓e143_209, ↓e143_212, ↓e143_213, ↓e143_214, ↓e143_217, ↓e143_218, ↓e143_219, ↓e143_222, ↓e143_225, ↓e143_228, znl_i, znl_r, znl_n, zcs_0, zcs_1, zcs_2, zcs_3, zcat_0, zcat_1, zcat_2, zcat_3, zbl_0, zbl_1, true_and, and_true, ↓zret_some, ↓zret_none, Nat.reduceAdd, Nat.reduceLeDiff, Nat.reduceMul, eq_self, Int.reduceToNat, Int.reduceLE, Int.reduceLT, Int.reduceNeg, and_self, zrg, Int.cast_ofNat_Int, Int.le_refl, ↓reduceIte]
                  exact h9
                | succ p ih2 =>
                  intro N' h1 h2
                  have hp9 := h2.1
                  obtain ⟨v1, v2⟩ := h2.2.1 p (by omega)
                  have hpk := ((ln_mem X pl k).1 p (by omega)).1
                  have hpl : pl (lnf X pl k p) < 120 := by
                    rcases hGN (lnf X pl k p) (by omega) with ⟨-, z⟩ | ⟨_, -, -, -, z, -⟩ <;> omega
                  have v3 := key_rng (S := X) (pl := pl) (j := lnf X pl k p) hpl
                  have hp : 0 ≤ (p : Int) ∧ (p : Int) < 10 := ⟨by omega, by omega⟩
                  have hp1 : 0 ≤ ((p + 1 : Nat) : Int) ∧ ((p + 1 : Nat) : Int) < 10 := ⟨by omega, by omega⟩
                  have hpr : -2147483648 ≤ ((p + 1 : Nat) : Int) ∧ ((p + 1 : Nat) : Int) < 2147483648 := ⟨by omega, by omega⟩
                  have e1 : ((p + 1 : Nat) : Int) - 1 = p := by omega
                  have e2 : ((p + 1 : Nat) : Int) + -1 = p := by omega
                  have e3 : ∀ x, zup N' 382 (p + 1) x 383 p = key X pl (lnf X pl k p) := fun x => by rw [zup_ne _ _ _ (by omega), v2]
                  have en : ¬ ((p + 1 : Nat) : Int) ≤ 0 := by omega
                  rw [e143_124]
                  simp only [↓e143, ↓e143_0, ↓e143_1, ↓e143_2, ↓e143_3, ↓e143_6, ↓e143_7, ↓e143_10, ↓e143_11, ↓e143_14, ↓e143_15, ↓e143_16, ↓e143_17, ↓e143_18, ↓e143_19, ↓e143_21, ↓e143_24, ↓e143_25, ↓e143_26, ↓e143_29, ↓e143_32, ↓e143_35, ↓e143_36, ↓e143_37, ↓e143_38, ↓e143_39, ↓e143_40, ↓e143_41, ↓e143_44, ↓e143_45, ↓e143_46, ↓e143_49, ↓e143_50, ↓e143_51, ↓e143_54, ↓e143_57, ↓e143_60, ↓e143_61, ↓e143_62, ↓e143_63, ↓e143_64, ↓e143_67, ↓e143_68, ↓e143_69, ↓e143_72, ↓e143_73, ↓e143_76, ↓e143_77, ↓e143_80, ↓e143_81, ↓e143_84, ↓e143_85, ↓e143_86, ↓e143_89, ↓e143_92, ↓e143_93, ↓e143_96, ↓e143_98, ↓e143_99, ↓e143_102, ↓e143_103, ↓e143_104, ↓e143_105, ↓e143_106, ↓e143_107, ↓e143_108, ↓e143_111, ↓e143_112, ↓e143_113, ↓e143_114, ↓e143_115, ↓e143_118, ↓e143_121, ↓e143_122, ↓e143_126, ↓e143_129, ↓e143_130, ↓e143_133, ↓e143_135, ↓e143_136, ↓e143_137, ↓e143_138, ↓e143_139, ↓e143_142, ↓e143_143, ↓e143_146, ↓e143_148, ↓e143_149, ↓e143_152, ↓e143_154, ↓e143_155, ↓e143_156, ↓e143_157, ↓e143_158, ↓e143_159, ↓e143_162, ↓e143_164, ↓e143_165, ↓e143_168, ↓e143_170, ↓e143_171, ↓e143_172, ↓e143_173, ↓e143_174, ↓e143_177, ↓e143_181, ↓e143_184, ↓e143_186, ↓e143_187, ↓e143_188, ↓e143_189, ↓e143_192, ↓e143_194, ↓e143_195, ↓e143_196, ↓e143_199, ↓e143_202, ↓e143_205, ↓e143_206, ↓e143_207, ↓e143_208, ↓e143_209, ↓e143_212, ↓e143_213, ↓e143_214, ↓e143_217, ↓e143_218, ↓e143_219, ↓e143_222, ↓e143_225, ↓e143_228, znl_i, znl_r, znl_n, zcs_0, zcs_1, zcs_2, zcs_3, zcat_0, zcat_1, zcat_2, zcat_3, zbl_0, zbl_1, true_and, and_true, ↓zret_some, ↓zret_none, Nat.reduceAdd, Nat.reduceLeDiff, Nat.reduceMul, eq_self, Int.reduceToNat, Int.reduceLE, Int.reduceLT, Int.reduceNeg, and_self, zrg, zkc_0, zin_1, zin_2, zin_3, zin_4, zin_5, zin_6, zin_7, zin_8, zin_9, zaa_9, zkc_10, zin_11, zin_12, zkc_13, zin_14, zin_15, zkc_16, zin_17, zin_18, zkc_19, zin_20, zin_21, zin_22, zin_23, zin_24, zin_25, zin_26, zin_27, zin_28, zaa_28, zkc_29, zin_30, zin_31, zkc_32, zin_33, zin_34, zkc_35, zin_36, zin_37, zkc_38, zin_39, zin_40, zin_41, zin_42, zin_43, zin_44, zin_45, zin_46, zin_47, zaa_47, zkc_48, zin_49, zin_50, zkc_51, zin_52, zin_53, zkc_54, zin_55, zin_56, zkc_209, zkc_210, zin_211, zaa_211, zkc_212, zin_213, zkc_214, zkc_215, zin_216, zin_217, zkc_218, zin_219, zin_220, zin_221, zkc_222, zin_223, zaa_223, zin_224, zin_225, zkc_226, zin_227, zin_228, zin_229, zin_230, zin_231, zin_232, zkc_233, zin_234, zaa_234, zin_235, zin_236, zin_237, zin_238, zin_239, zin_240, zin_241, zin_242, zin_243, zin_244, zin_245, zin_246, zin_247, zin_248, zin_249, zin_250, zkc_251, zin_252, zin_253, zkc_374, zin_375, zin_376, zin_377, zin_378, zin_379, zin_380, zin_381, zin_382, zin_383, zin_384, zin_385, zin_386, zin_387, en, ↓reduceIte, e1, e2, e3, hp, hp1, hpr, v1, v2, v3, hkr, Int.toNat_natCast]
                  by_cases z : key X pl (lnf X pl k p) ≥ key X pl k
                  · rw [if_pos z]
                    exact stop (p + 1) N' h1 h2 (by show (if key X pl (lnf X pl k p) < key X pl k then ps (key X pl) (lnf X pl k) (key X pl k) p else p + 1) = p + 1; rw [if_neg (by omega)])
                  · rw [if_neg z]
                    have h9 := LnP_step (show (382 : Nat) ≠ 383 by omega) h2 (by omega)
                    rw [v1, v2] at h9
                    exact ih2 _ (fun b b1 b2 => by rw [zup_ne _ _ _ b2, zup_ne _ _ _ b1, h1 b b1 b2]) h9
              have h9 := loop2 (lnc X pl k) P (fun _ _ _ => rfl) ⟨Nat.le_refl _, i4P, fun i h1 h2 => by omega, rfl⟩
              simp only [↓e143, ↓e143_0, ↓e143_1, ↓e143_2, ↓e143_3, ↓e143_6, ↓e143_7, ↓e143_10, ↓e143_11, ↓e143_14, ↓e143_15, ↓e143_16, ↓e143_17, ↓e143_19, ↓e143_21, ↓e143_24, ↓e143_25, ↓e143_26, ↓e143_29, ↓e143_32, ↓e143_35, ↓e143_36, ↓e143_37, ↓e143_38, ↓e143_39, ↓e143_40, ↓e143_41, ↓e143_44, ↓e143_45, ↓e143_46, ↓e143_49, ↓e143_50, ↓e143_51, ↓e143_54, ↓e143_57, ↓e143_60, ↓e143_61, ↓e143_62, ↓e143_63, ↓e143_64, ↓e143_67, ↓e143_68, ↓e143_69, ↓e143_72, ↓e143_73, ↓e143_76, ↓e143_77, ↓e143_80, ↓e143_81, ↓e143_84, ↓e143_85, ↓e143_86, ↓e143_89, ↓e143_92, ↓e143_93, ↓e143_96, ↓e143_98, ↓e143_99, ↓e143_102, ↓e143_103, ↓e143_104, ↓e143_105, ↓e143_106, ↓e143_107, ↓e143_108, ↓e143_111, ↓e143_112, ↓e143_113, ↓e143_114, ↓e143_115, ↓e143_118, ↓e143_121, ↓e143_122, ↓e143_126, ↓e143_129, ↓e143_130, ↓e143_133, ↓e143_135, ↓e143_136, ↓e143_137, ↓e143_138, ↓e143_139, ↓e143_142, ↓e143_143, ↓e143_146, ↓e143_148, ↓e143_149, ↓e143_152, ↓e143_154, ↓e143_155, ↓e143_156, ↓e143_157, ↓e143_158, ↓e143_159, ↓e143_162, ↓e143_164, ↓e143_165, ↓e143_168, ↓e143_170, ↓e143_171, ↓e143_172, ↓e143_173, ↓e143_174, ↓e143_177, ↓e143_180, ↓e143_181, ↓e143_184, ↓e143_186, ↓e143_187, ↓e143_188, ↓e143_189, ↓e143_192, ↓e143_194, ↓e143_195, ↓e143_196, ↓e143_202, ↓e143_205, ↓e143_206, ↓e143_207, ↓e143_208, ↓e143_209, ↓e143_212, ↓e143_213, ↓e143_214, ↓e143_217, ↓e143_218, ↓e143_219, ↓e143_222, ↓e143_225, ↓e143_228, znl_i, znl_r, znl_n, zcs_0, zcs_1, zcs_2, zcs_3, zcat_0, zcat_1, zcat_2, zcat_3, zbl_0, zbl_1, true_and, and_true, ↓zret_some, ↓zret_none, Nat.reduceAdd, Nat.reduceLeDiff, Nat.reduceMul, eq_self, Int.reduceToNat, Int.reduceLE, Int.reduceLT, Int.reduceNeg, and_self]
              exact h9
      · rw [show zb (isM (rX X pl k) k) = 0 from if_neg (fun z => a1 (hm.mp z)), if_neg (by omega)]
        rw [if_neg a1] at hs
        exact skip N _ _ (fun z => by unfold inl at z; rw [Bool.and_eq_true] at z; exact a1 (isF_mem z.1).1) (by rw [hs]; exact i1) (Gr_refl N)
  intro w3 w4
  have hX0 : rX X pl 0 = X := by
    funext b j
    by_cases b5 : b = 5
    · subst b5; rw [rX_5, if_neg (fun z => by omega)]
    · by_cases b6 : b = 6
      · subst b6; rw [rX_6, if_neg (fun z => by omega)]
      · rw [rX_ne X pl 0 b5 b6]
  exact loop 10 0 rfl M w3 w4 ⟨by rw [hX0]; exact hR, fun _ _ _ _ => rfl, fun _ _ => rfl, fun i hi => absurd hi (Nat.not_lt_zero i)⟩
