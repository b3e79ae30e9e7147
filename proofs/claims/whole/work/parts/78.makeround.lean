/-! ### Turns.countRound, Turns.makeRound -/
theorem cR_zero (S : zM) : cR S 0 = sacc S 0 := by
  funext b j
  by_cases z : b = 5
  · subst z; simp [cR, zrow, sacc, zup]
  · simp [cR, zrow, z]
theorem cR_succ (S : zM) (k : Nat) : cR S (k + 1) = if 0 ≤ S 1 k then zup (cR S k) 5 k (S 5 k + 1) else cR S k := by
  funext b j
  by_cases hb : b = 5
  · subst hb
    by_cases hj : j = k
    · subst hj
      by_cases a1 : 0 ≤ S 1 j
      · simp [cR, zrow, zup, a1]
      · simp [cR, zrow, a1]
    · have e : (j < k + 1) ↔ (j < k) := ⟨fun h => by omega, fun h => by omega⟩
      have e3 : cR S (k + 1) 5 j = cR S k 5 j := by unfold cR; rw [zrow_self, zrow_self]; simp only [e]
      rw [e3]
      split
      · simp [zup, hj]
      · rfl
  · have e3 : cR S (k + 1) b j = cR S k b j := by unfold cR; rw [zrow_ne _ _ hb, zrow_ne _ _ hb]
    rw [e3]
    split
    · simp [zup, hb]
    · rfl
theorem cR_ne (S : zM) (k : Nat) {b : Nat} (h1 : b ≠ 5) (h2 : b ≠ 7) : cR S k b = S b := by unfold cR sacc; rw [zrow_ne _ _ h1, zup_ne _ _ _ h2]
theorem s_countRound (d : Nat) (Q : zQ) (M S : zM) (hW : WfS S) (hR : RelC M 0 S) (hQ : ∀ N, RelC N 0 (cR S 10) → (∀ b, 19 ≤ b → N b = M b) → Q none N) : Sp (d + 2) 40 [.inr (.inr 251)] M Q := by
  have loop : ∀ n k : Nat, k + n = 10 → ∀ N, RelC N 0 (cR S k) → (∀ b, 19 ≤ b → N b = M b) → RT (Sp (d + 1)) 40 Q 15 [some (.inr (.inr 251)), some (.inl (k : Int))] [] N := by
    intro n
    induction n with
    | zero =>
      intro k hk N h1 h2
      obtain rfl : k = 10 := by omega
      rw [e40_15]
      simp only [↓e40, ↓e40_0, ↓e40_1, ↓e40_4, ↓e40_7, ↓e40_8, ↓e40_9, ↓e40_10, ↓e40_11, ↓e40_12, ↓e40_13, ↓e40_14, ↓e40_16, ↓e40_18, ↓e40_21, ↓e40_22, ↓e40_25, ↓e40_26, ↓e40_29, ↓e40_32, ↓e40_33, ↓e40_36, ↓e40_39, ↓e40_40, ↓e40_41, ↓e40_42, ↓e40_43, ↓e40_44, ↓e40_45, ↓e40_48, ↓e40_51, znl_i, znl_r, znl_n, zcs_0, zcs_1, zcs_2, zcs_3, zcat_0, zcat_1, zcat_2, zcat_3, zbl_0, zbl_1, true_and, and_true, ↓zret_some, ↓zret_none, Nat.reduceAdd, Nat.reduceLeDiff, Nat.reduceMul, eq_self, Int.reduceToNat, Int.reduceLE, Int.reduceLT, Int.reduceNeg, and_self, zrg, Int.cast_ofNat_Int, ge_iff_le, Int.le_refl, ↓reduceIte]
      exact hQ N h1 h2
    | succ n ih =>
      intro k hk N h1 h2
      have hk0 : 0 ≤ (k : Int) ∧ (k : Int) < 10 := ⟨by omega, by omega⟩
      have hk1 : ¬ (k : Int) ≥ 10 := by omega
      have hk2 : -2147483648 ≤ (k : Int) ∧ (k : Int) < 2147483648 := ⟨by omega, by omega⟩
      have hKp := cR_ok hW k
      have hs := cR_succ S k
      have hm : isM (cR S k) k ↔ 0 ≤ S 1 k := by
        unfold isM
        rw [cR_ne S k (by omega) (by omega), Int.toNat_natCast]
        exact ⟨fun h => h.2.2, fun h => ⟨by omega, by omega, h⟩⟩
      have hzz : -2147483648 ≤ zb (isM (cR S k) k) ∧ zb (isM (cR S k) k) < 2147483648 := by unfold zb; split <;> omega
      have h7 := h1.2.2.2.2.2.2.1 k (by omega)
      simp only [Nat.zero_add] at h7
      have e5 : cR S k 5 k = S 5 k := by unfold cR; rw [zrow_self, if_neg (fun z => by omega)]
      rw [e5] at h7
      have next : ∀ N', RelC N' 0 (cR S (k + 1)) → (∀ b, 19 ≤ b → N' b = M b) → RT (Sp (d + 1)) 40 Q 45 [some (.inr (.inr 251)), some (.inl (k : Int))] [] N' := fun N' g1 g2 => by
        have h9 := ih (k + 1) (by omega) N' g1 g2
        simp only [↓e40, ↓e40_0, ↓e40_1, ↓e40_4, ↓e40_7, ↓e40_8, ↓e40_9, ↓e40_10, ↓e40_11, ↓e40_12, ↓e40_13, ↓e40_14, ↓e40_16, ↓e40_18, ↓e40_21, ↓e40_22, ↓e40_25, ↓e40_26, ↓e40_29, ↓e40_32, ↓e40_33, ↓e40_36, ↓e40_39, ↓e40_40, ↓e40_41, ↓e40_42, ↓e40_43, ↓e40_44, ↓e40_45, ↓e40_48, ↓e40_51, znl_i, znl_r, znl_n, zcs_0, zcs_1, zcs_2, zcs_3, zcat_0, zcat_1, zcat_2, zcat_3, zbl_0, zbl_1, true_and, and_true, ↓zret_some, ↓zret_none, Nat.reduceAdd, Nat.reduceLeDiff, Nat.reduceMul, eq_self, Int.reduceToNat, Int.reduceLE, Int.reduceLT, Int.reduceNeg, and_self]
        rw [show ((k : Int) + 1) = ((k + 1 : Nat) : Int) by omega]
        exact h9
      rw [e40_15]
      simp only [↓e40, ↓e40_0, ↓e40_1, ↓e40_4, ↓e40_7, ↓e40_8, ↓e40_9, ↓e40_10, ↓e40_11, ↓e40_12, ↓e40_13, ↓e40_14, ↓e40_16, ↓e40_18, ↓e40_21, ↓e40_22, ↓e40_25, ↓e40_26, ↓e40_29, ↓e40_32, ↓e40_33, ↓e40_36, ↓e40_39, ↓e40_40, ↓e40_41, ↓e40_42, ↓e40_43, ↓e40_44, ↓e40_48, ↓e40_51, znl_i, znl_r, znl_n, zcs_0, zcs_1, zcs_2, zcs_3, zcat_0, zcat_1, zcat_2, zcat_3, zbl_0, zbl_1, true_and, and_true, ↓zret_some, ↓zret_none, Nat.reduceAdd, Nat.reduceLeDiff, Nat.reduceMul, eq_self, Int.reduceToNat, Int.reduceLE, Int.reduceLT, Int.reduceNeg, and_self, zrg, zkc_0, zin_1, zin_2, zin_3, zin_4, zin_5, zin_6, zin_7, zin_8, zin_9, zaa_9, zkc_10, zin_11, zin_12, zkc_13, zin_14, zin_15, zkc_16, zin_17, zin_18, zkc_19, zin_20, zin_21, zin_22, zin_23, zin_24, zin_25, zin_26, zin_27, zin_28, zaa_28, zkc_29, zin_30, zin_31, zkc_32, zin_33, zin_34, zkc_35, zin_36, zin_37, zkc_38, zin_39, zin_40, zin_41, zin_42, zin_43, zin_44, zin_45, zin_46, zin_47, zaa_47, zkc_48, zin_49, zin_50, zkc_51, zin_52, zin_53, zkc_54, zin_55, zin_56, zkc_209, zkc_210, zin_211, zaa_211, zkc_212, zin_213, zkc_214, zkc_215, zin_216, zin_217, zkc_218, zin_219, zin_220, zin_221, zkc_222, zin_223, zaa_223, zin_224, zin_225, zkc_226, zin_227, zin_228, zin_229, zin_230, zin_231, zin_232, zkc_233, zin_234, zaa_234, zin_235, zin_236, zin_237, zin_238, zin_239, zin_240, zin_241, zin_242, zin_243, zin_244, zin_245, zin_246, zin_247, zin_248, zin_249, zin_250, zkc_251, zin_252, zin_253, zkc_374, zin_375, zin_376, zin_377, zin_378, zin_379, zin_380, zin_381, zin_382, zin_383, zin_384, zin_385, zin_386, zin_387, hk1, hk2, hk0, ↓reduceIte, ↓s_hasMember d _ N _ 0 k zkc_0 h1 hKp.1 hk2, hzz, Int.toNat_natCast, h7]
      by_cases a2 : 0 ≤ S 1 k
      · have e1 : zb (isM (cR S k) k) = 1 := if_pos (hm.mpr a2)
        rw [e1, if_neg (by omega)]
        rw [if_pos a2] at hs
        exact next _ (by rw [hs]; exact RelC_num h1 (b := 7) (e := 5) (by omega)) (fun b hb => by rw [zup_ne _ _ _ (by omega)]; exact h2 b hb)
      · have e1 : zb (isM (cR S k) k) = 0 := if_neg (fun z => a2 (hm.mp z))
        rw [e1, if_pos rfl]
        rw [if_neg a2] at hs
        exact next N (by rw [hs]; exact h1) h2
  have h9 := loop 10 0 rfl (zup M 8 0 (M 8 0 + 1)) (by rw [cR_zero]; exact RelC_acc hR (by omega)) (fun b hb => zup_ne _ _ _ (by omega))
  simp only [↓e40, ↓e40_0, ↓e40_1, ↓e40_4, ↓e40_7, ↓e40_8, ↓e40_9, ↓e40_10, ↓e40_11, ↓e40_12, ↓e40_13, ↓e40_14, ↓e40_16, ↓e40_18, ↓e40_21, ↓e40_22, ↓e40_25, ↓e40_26, ↓e40_29, ↓e40_32, ↓e40_33, ↓e40_36, ↓e40_39, ↓e40_40, ↓e40_41, ↓e40_42, ↓e40_43, ↓e40_44, ↓e40_45, ↓e40_48, ↓e40_51, znl_i, znl_r, znl_n, zcs_0, zcs_1, zcs_2, zcs_3, zcat_0, zcat_1, zcat_2, zcat_3, zbl_0, zbl_1, true_and, and_true, ↓zret_some, ↓zret_none, Nat.reduceAdd, Nat.reduceLeDiff, Nat.reduceMul, eq_self, Int.reduceToNat, Int.reduceLE, Int.reduceLT, Int.reduceNeg, and_self, zkc_0, zin_1, zin_2, zin_3, zin_4, zin_5, zin_6, zin_7, zin_8, zin_9, zaa_9, zkc_10, zin_11, zin_12, zkc_13, zin_14, zin_15, zkc_16, zin_17, zin_18, zkc_19, zin_20, zin_21, zin_22, zin_23, zin_24, zin_25, zin_26, zin_27, zin_28, zaa_28, zkc_29, zin_30, zin_31, zkc_32, zin_33, zin_34, zkc_35, zin_36, zin_37, zkc_38, zin_39, zin_40, zin_41, zin_42, zin_43, zin_44, zin_45, zin_46, zin_47, zaa_47, zkc_48, zin_49, zin_50, zkc_51, zin_52, zin_53, zkc_54, zin_55, zin_56, zkc_209, zkc_210, zin_211, zaa_211, zkc_212, zin_213, zkc_214, zkc_215, zin_216, zin_217, zkc_218, zin_219, zin_220, zin_221, zkc_222, zin_223, zaa_223, zin_224, zin_225, zkc_226, zin_227, zin_228, zin_229, zin_230, zin_231, zin_232, zkc_233, zin_234, zaa_234, zin_235, zin_236, zin_237, zin_238, zin_239, zin_240, zin_241, zin_242, zin_243, zin_244, zin_245, zin_246, zin_247, zin_248, zin_249, zin_250, zkc_251, zin_252, zin_253, zkc_374, zin_375, zin_376, zin_377, zin_378, zin_379, zin_380, zin_381, zin_382, zin_383, zin_384, zin_385, zin_386, zin_387]
  exact h9
theorem plS_key {S : zM} (hW : WfS S) {j : Nat} (hj : j < 10) (h : 0 ≤ plS S j) : 0 ≤ key S (plS S) j := by
  unfold key plS at *
  rcases bT_cases hW hj with q | ⟨s, q1, q2, q3, q4, q5, q6, q7, q8, q9, -⟩
  · rw [if_pos (by omega)] at h; omega
  · rw [if_neg (by omega), q1, Int.toNat_natCast]
    exact q6
def Fr (M N : zM) : Prop := ∀ b, 19 ≤ b → (b < 224 ∨ 374 ≤ b) → N b = M b
theorem s_makeRound (d : Nat) (Q : zQ) (M S : zM) (B : Int) (hl : 0 ≤ ldr S) (hB0 : 0 ≤ B) (hB : Bw S B) (hB1 : B ≤ 1000000000) (hR : RelC M 0 S) (hW : WfS S) (hV : Wv M (S 0))
    (hQ : ∀ N, RelC N 0 (rnd S) → Fr M N → Wv N (S 0) → Q none N) : Sp (d + 6) 39 [.inr (.inr 251)] M Q := by
  obtain ⟨l1, l2, l3⟩ := ldr_rng hW
  have hlr : -2147483648 ≤ ldr S ∧ ldr S < 2147483648 := ⟨by omega, by omega⟩
  have k1 := ld_ok hW hl
  have b1 := ld_B hB0 hB
  unfold rnd at hQ
  simp only [↓e39, ↓e39_0, ↓e39_1, ↓e39_4, ↓e39_7, ↓e39_8, ↓e39_9, ↓e39_12, ↓e39_13, ↓e39_14, ↓e39_15, ↓e39_18, ↓e39_19, ↓e39_22, ↓e39_25, ↓e39_26, ↓e39_27, ↓e39_30, ↓e39_31, ↓e39_32, ↓e39_33, ↓e39_34, ↓e39_37, ↓e39_40, ↓e39_41, ↓e39_42, ↓e39_45, ↓e39_46, ↓e39_47, ↓e39_50, ↓e39_53, ↓e39_56, ↓e39_57, ↓e39_60, znl_i, znl_r, znl_n, zcs_0, zcs_1, zcs_2, zcs_3, zcat_0, zcat_1, zcat_2, zcat_3, zbl_0, zbl_1, true_and, and_true, ↓zret_some, ↓zret_none, Nat.reduceAdd, Nat.reduceLeDiff, Nat.reduceMul, eq_self, Int.reduceToNat, Int.reduceLE, Int.reduceLT, Int.reduceNeg, and_self, zrg, zkc_0, zin_1, zin_2, zin_3, zin_4, zin_5, zin_6, zin_7, zin_8, zin_9, zaa_9, zkc_10, zin_11, zin_12, zkc_13, zin_14, zin_15, zkc_16, zin_17, zin_18, zkc_19, zin_20, zin_21, zin_22, zin_23, zin_24, zin_25, zin_26, zin_27, zin_28, zaa_28, zkc_29, zin_30, zin_31, zkc_32, zin_33, zin_34, zkc_35, zin_36, zin_37, zkc_38, zin_39, zin_40, zin_41, zin_42, zin_43, zin_44, zin_45, zin_46, zin_47, zaa_47, zkc_48, zin_49, zin_50, zkc_51, zin_52, zin_53, zkc_54, zin_55, zin_56, zkc_209, zkc_210, zin_211, zaa_211, zkc_212, zin_213, zkc_214, zkc_215, zin_216, zin_217, zkc_218, zin_219, zin_220, zin_221, zkc_222, zin_223, zaa_223, zin_224, zin_225, zkc_226, zin_227, zin_228, zin_229, zin_230, zin_231, zin_232, zkc_233, zin_234, zaa_234, zin_235, zin_236, zin_237, zin_238, zin_239, zin_240, zin_241, zin_242, zin_243, zin_244, zin_245, zin_246, zin_247, zin_248, zin_249, zin_250, zkc_251, zin_252, zin_253, zkc_374, zin_375, zin_376, zin_377, zin_378, zin_379, zin_380, zin_381, zin_382, zin_383, zin_384, zin_385, zin_386, zin_387, ↓s_leader (d + 3) _ M S 0 zkc_0 hR hW, if_neg (show ¬ ldr S < 0 by omega), hlr, show ldr S ≥ 0 by omega, ↓reduceIte]
  refine s_moveLeader (d + 2) _ M S hl hR hW hV (fun N1 u1 u2 u3 => ?_)
  rw [zret_none]
  simp only [↓e39, ↓e39_0, ↓e39_1, ↓e39_4, ↓e39_7, ↓e39_8, ↓e39_9, ↓e39_12, ↓e39_13, ↓e39_14, ↓e39_15, ↓e39_18, ↓e39_19, ↓e39_22, ↓e39_25, ↓e39_26, ↓e39_27, ↓e39_30, ↓e39_31, ↓e39_32, ↓e39_33, ↓e39_34, ↓e39_37, ↓e39_40, ↓e39_41, ↓e39_42, ↓e39_45, ↓e39_46, ↓e39_47, ↓e39_50, ↓e39_53, ↓e39_56, ↓e39_57, ↓e39_60, znl_i, znl_r, znl_n, zcs_0, zcs_1, zcs_2, zcs_3, zcat_0, zcat_1, zcat_2, zcat_3, zbl_0, zbl_1, true_and, and_true, ↓zret_some, ↓zret_none, Nat.reduceAdd, Nat.reduceLeDiff, Nat.reduceMul, eq_self, Int.reduceToNat, Int.reduceLE, Int.reduceLT, Int.reduceNeg, and_self, zrg, zkc_0, zin_1, zin_2, zin_3, zin_4, zin_5, zin_6, zin_7, zin_8, zin_9, zaa_9, zkc_10, zin_11, zin_12, zkc_13, zin_14, zin_15, zkc_16, zin_17, zin_18, zkc_19, zin_20, zin_21, zin_22, zin_23, zin_24, zin_25, zin_26, zin_27, zin_28, zaa_28, zkc_29, zin_30, zin_31, zkc_32, zin_33, zin_34, zkc_35, zin_36, zin_37, zkc_38, zin_39, zin_40, zin_41, zin_42, zin_43, zin_44, zin_45, zin_46, zin_47, zaa_47, zkc_48, zin_49, zin_50, zkc_51, zin_52, zin_53, zkc_54, zin_55, zin_56, zkc_209, zkc_210, zin_211, zaa_211, zkc_212, zin_213, zkc_214, zkc_215, zin_216, zin_217, zkc_218, zin_219, zin_220, zin_221, zkc_222, zin_223, zaa_223, zin_224, zin_225, zkc_226, zin_227, zin_228, zin_229, zin_230, zin_231, zin_232, zkc_233, zin_234, zaa_234, zin_235, zin_236, zin_237, zin_238, zin_239, zin_240, zin_241, zin_242, zin_243, zin_244, zin_245, zin_246, zin_247, zin_248, zin_249, zin_250, zkc_251, zin_252, zin_253, zkc_374, zin_375, zin_376, zin_377, zin_378, zin_379, zin_380, zin_381, zin_382, zin_383, zin_384, zin_385, zin_386, zin_387]
  have e0 : ldS S 0 = S 0 := k1.2.2.2.1
  rw [← e0] at u3
  refine s_renew d _ N1 (ldS S) u1 k1.1 u3 (fun N2 v1 v2 => ?_)
  rw [zret_none]
  obtain ⟨w1, w2, w3, w4, w5, w6, w7⟩ := v2
  have hR2 : RelC N2 0 (ldS S) := RelC_congr (fun b hb => v1 b (by omega)) u1
  have hP2 : PlR N2 (plS (ldS S)) := fun j hj => by
    have h1 := bT_fol k1.1 hj
    refine ⟨?_, h1.1, h1.2.1⟩
    rw [w2 j hj]
    unfold m5
    by_cases z : bT (ldS S) j < 0
    · rw [if_pos z]
      have : plS (ldS S) j = -1 := if_pos z
      rw [this]; rfl
    · rw [if_neg z]
      rcases bT_cases k1.1 hj with q | ⟨s, q1, q2, q3, q4, q5, q6, q7, q8, q9, -⟩
      · omega
      · have : plS (ldS S) j = plc (ldS S) (bT (ldS S) j).toNat := if_neg z
        rw [this, if_neg (by rw [q1, Int.toNat_natCast]; omega)]
  simp only [↓e39, ↓e39_0, ↓e39_1, ↓e39_4, ↓e39_7, ↓e39_8, ↓e39_9, ↓e39_12, ↓e39_13, ↓e39_14, ↓e39_15, ↓e39_18, ↓e39_19, ↓e39_22, ↓e39_25, ↓e39_26, ↓e39_27, ↓e39_30, ↓e39_31, ↓e39_32, ↓e39_33, ↓e39_34, ↓e39_37, ↓e39_40, ↓e39_41, ↓e39_42, ↓e39_45, ↓e39_46, ↓e39_47, ↓e39_50, ↓e39_53, ↓e39_56, ↓e39_57, ↓e39_60, znl_i, znl_r, znl_n, zcs_0, zcs_1, zcs_2, zcs_3, zcat_0, zcat_1, zcat_2, zcat_3, zbl_0, zbl_1, true_and, and_true, ↓zret_some, ↓zret_none, Nat.reduceAdd, Nat.reduceLeDiff, Nat.reduceMul, eq_self, Int.reduceToNat, Int.reduceLE, Int.reduceLT, Int.reduceNeg, and_self, zrg, zkc_0, zin_1, zin_2, zin_3, zin_4, zin_5, zin_6, zin_7, zin_8, zin_9, zaa_9, zkc_10, zin_11, zin_12, zkc_13, zin_14, zin_15, zkc_16, zin_17, zin_18, zkc_19, zin_20, zin_21, zin_22, zin_23, zin_24, zin_25, zin_26, zin_27, zin_28, zaa_28, zkc_29, zin_30, zin_31, zkc_32, zin_33, zin_34, zkc_35, zin_36, zin_37, zkc_38, zin_39, zin_40, zin_41, zin_42, zin_43, zin_44, zin_45, zin_46, zin_47, zaa_47, zkc_48, zin_49, zin_50, zkc_51, zin_52, zin_53, zkc_54, zin_55, zin_56, zkc_209, zkc_210, zin_211, zaa_211, zkc_212, zin_213, zkc_214, zkc_215, zin_216, zin_217, zkc_218, zin_219, zin_220, zin_221, zkc_222, zin_223, zaa_223, zin_224, zin_225, zkc_226, zin_227, zin_228, zin_229, zin_230, zin_231, zin_232, zkc_233, zin_234, zaa_234, zin_235, zin_236, zin_237, zin_238, zin_239, zin_240, zin_241, zin_242, zin_243, zin_244, zin_245, zin_246, zin_247, zin_248, zin_249, zin_250, zkc_251, zin_252, zin_253, zkc_374, zin_375, zin_376, zin_377, zin_378, zin_379, zin_380, zin_381, zin_382, zin_383, zin_384, zin_385, zin_386, zin_387]
  rw [← k1.2.1]
  refine s_lineUp (d + 1) _ N2 (ldS S) (plS (ldS S)) k1.1 hR2 w7 hP2 (fun j hj h => plS_key k1.1 hj h) (fun N3 t1 => ?_)
  rw [zret_none]
  obtain ⟨i1, i2, i3, i4, i5⟩ := t1
  have k2 := lu_ok k1.1 (plS (ldS S)) 10
  have b2 : Bw (luS (ldS S) (plS (ldS S)) 10) B := fun j hj => by unfold luS; rw [zrow_ne _ _ (by omega)]; exact b1 j hj
  have hN := fun t ht => actN_ok k1.1 k2 b2 t ht
  have hcl := lnc_le (ldS S) (plS (ldS S)) 10
  generalize hT : luS (ldS S) (plS (ldS S)) 10 = T at *
  generalize hpl : plS (ldS S) = pl at *
  have hP3 : PlR N3 pl := fun j hj => by rw [i3 228 (by omega) (by omega) (by omega) (by omega) (by omega) (by omega) (by omega)]; exact hP2 j hj
  have frame3 : Fr M N3 := fun b hb hb2 => by
    rw [i3 b hb (by omega) (by omega) (by omega) (by omega) (by omega) (by omega), v1 b (by omega)]
    exact u2 b hb (by omega) (by omega) (by omega)
  have hcr : -2147483648 ≤ ((lnc (ldS S) pl 10 : Nat) : Int) ∧ ((lnc (ldS S) pl 10 : Nat) : Int) < 2147483648 := ⟨by omega, by omega⟩
  have loop : ∀ n t : Nat, t + n = lnc (ldS S) pl 10 → ∀ N, RelC N 0 (actN pl T (lnf (ldS S) pl 10) t) → Fw N3 N → Wv N (ldS S 0) → RT (Sp (d + 5)) 39 Q 32 [some (.inr (.inr 251)), some (.inl (ldr S)), some (.inl (t : Int))] [] N := by
    intro n
    induction n with
    | zero =>
      intro t ht N g1 g2 g3
      obtain rfl : t = lnc (ldS S) pl 10 := by omega
      have h5 : N 251 5 = (lnc (ldS S) pl 10 : Nat) := by rw [g2 251 (by omega) (by omega) (by omega) (by omega)]; exact i4
      rw [e39_32]
      simp only [↓e39, ↓e39_0, ↓e39_1, ↓e39_4, ↓e39_7, ↓e39_8, ↓e39_9, ↓e39_12, ↓e39_13, ↓e39_14, ↓e39_15, ↓e39_18, ↓e39_19, ↓e39_22, ↓e39_25, ↓e39_26, ↓e39_27, ↓e39_30, ↓e39_31, ↓e39_33, ↓e39_34, ↓e39_37, ↓e39_40, ↓e39_41, ↓e39_42, ↓e39_45, ↓e39_46, ↓e39_47, ↓e39_50, ↓e39_53, ↓e39_56, ↓e39_57, ↓e39_60, znl_i, znl_r, znl_n, zcs_0, zcs_1, zcs_2, zcs_3, zcat_0, zcat_1, zcat_2, zcat_3, zbl_0, zbl_1, true_and, and_true, ↓zret_some, ↓zret_none, Nat.reduceAdd, Nat.reduceLeDiff, Nat.reduceMul, eq_self, Int.reduceToNat, Int.reduceLE, Int.reduceLT, Int.reduceNeg, and_self, zrg, zkc_0, zin_1, zin_2, zin_3, zin_4, zin_5, zin_6, zin_7, zin_8, zin_9, zaa_9, zkc_10, zin_11, zin_12, zkc_13, zin_14, zin_15, zkc_16, zin_17, zin_18, zkc_19, zin_20, zin_21, zin_22, zin_23, zin_24, zin_25, zin_26, zin_27, zin_28, zaa_28, zkc_29, zin_30, zin_31, zkc_32, zin_33, zin_34, zkc_35, zin_36, zin_37, zkc_38, zin_39, zin_40, zin_41, zin_42, zin_43, zin_44, zin_45, zin_46, zin_47, zaa_47, zkc_48, zin_49, zin_50, zkc_51, zin_52, zin_53, zkc_54, zin_55, zin_56, zkc_209, zkc_210, zin_211, zaa_211, zkc_212, zin_213, zkc_214, zkc_215, zin_216, zin_217, zkc_218, zin_219, zin_220, zin_221, zkc_222, zin_223, zaa_223, zin_224, zin_225, zkc_226, zin_227, zin_228, zin_229, zin_230, zin_231, zin_232, zkc_233, zin_234, zaa_234, zin_235, zin_236, zin_237, zin_238, zin_239, zin_240, zin_241, zin_242, zin_243, zin_244, zin_245, zin_246, zin_247, zin_248, zin_249, zin_250, zkc_251, zin_252, zin_253, zkc_374, zin_375, zin_376, zin_377, zin_378, zin_379, zin_380, zin_381, zin_382, zin_383, zin_384, zin_385, zin_386, zin_387, h5, hcr, ge_iff_le, Int.le_refl, ↓reduceIte]
      refine s_countRound (d + 3) _ N _ (hN _ (Nat.le_refl _)).1.1 g1 (fun N' y1 y2 => ?_)
      rw [zret_none]
      simp only [↓e39, ↓e39_0, ↓e39_1, ↓e39_4, ↓e39_7, ↓e39_8, ↓e39_9, ↓e39_12, ↓e39_13, ↓e39_14, ↓e39_15, ↓e39_18, ↓e39_19, ↓e39_22, ↓e39_25, ↓e39_26, ↓e39_27, ↓e39_30, ↓e39_31, ↓e39_33, ↓e39_34, ↓e39_37, ↓e39_40, ↓e39_41, ↓e39_42, ↓e39_45, ↓e39_46, ↓e39_47, ↓e39_50, ↓e39_53, ↓e39_56, ↓e39_57, ↓e39_60, znl_i, znl_r, znl_n, zcs_0, zcs_1, zcs_2, zcs_3, zcat_0, zcat_1, zcat_2, zcat_3, zbl_0, zbl_1, true_and, and_true, ↓zret_some, ↓zret_none, Nat.reduceAdd, Nat.reduceLeDiff, Nat.reduceMul, eq_self, Int.reduceToNat, Int.reduceLE, Int.reduceLT, Int.reduceNeg, and_self]
      refine hQ N' y1 (fun b hb hb2 => ?_) ?_
      · rw [y2 b hb, g2 b hb (by omega) (by omega) (by omega)]
        exact frame3 b hb hb2
      · rw [← e0]
        exact Wv_cong y2 g3
    | succ n ih =>
      intro t ht N g1 g2 g3
      obtain ⟨g5, g6⟩ := (ln_mem (ldS S) pl 10).1 t (by omega)
      have g7 := i5 t (by omega)
      have htr : -2147483648 ≤ (t : Int) ∧ (t : Int) < 2147483648 := ⟨by omega, by omega⟩
      have ht0 : 0 ≤ (t : Int) ∧ (t : Int) < 10 := ⟨by omega, by omega⟩
      have hge : ¬ (t : Int) ≥ ((lnc (ldS S) pl 10 : Nat) : Int) := by omega
      have h5 : N 251 5 = (lnc (ldS S) pl 10 : Nat) := by rw [g2 251 (by omega) (by omega) (by omega) (by omega)]; exact i4
      have h6 : N 252 t = (lnf (ldS S) pl 10 t : Nat) := by rw [g2 252 (by omega) (by omega) (by omega) (by omega)]; exact g7.1
      unfold inl at g6
      rw [Bool.and_eq_true] at g6
      have g8 := (isF_mem g6.1).1
      have g9 := of_decide_eq_true g6.2
      obtain ⟨c1, c2⟩ := hN t (by omega)
      have c3 := c2 _ g5
      have e1 : actN pl T (lnf (ldS S) pl 10) t 0 = ldS S 0 := c1.2.2.2.1
      rw [e39_32]
      simp only [↓e39, ↓e39_0, ↓e39_1, ↓e39_4, ↓e39_7, ↓e39_8, ↓e39_9, ↓e39_12, ↓e39_13, ↓e39_14, ↓e39_15, ↓e39_18, ↓e39_19, ↓e39_22, ↓e39_25, ↓e39_26, ↓e39_27, ↓e39_30, ↓e39_31, ↓e39_33, ↓e39_34, ↓e39_37, ↓e39_40, ↓e39_41, ↓e39_42, ↓e39_45, ↓e39_46, ↓e39_47, ↓e39_50, ↓e39_53, ↓e39_56, ↓e39_57, ↓e39_60, znl_i, znl_r, znl_n, zcs_0, zcs_1, zcs_2, zcs_3, zcat_0, zcat_1, zcat_2, zcat_3, zbl_0, zbl_1, true_and, and_true, ↓zret_some, ↓zret_none, Nat.reduceAdd, Nat.reduceLeDiff, Nat.reduceMul, eq_self, Int.reduceToNat, Int.reduceLE, Int.reduceLT, Int.reduceNeg, and_self, zrg, zkc_0, zin_1, zin_2, zin_3, zin_4, zin_5, zin_6, zin_7, zin_8, zin_9, zaa_9, zkc_10, zin_11, zin_12, zkc_13, zin_14, zin_15, zkc_16, zin_17, zin_18, zkc_19, zin_20, zin_21, zin_22, zin_23, zin_24, zin_25, zin_26, zin_27, zin_28, zaa_28, zkc_29, zin_30, zin_31, zkc_32, zin_33, zin_34, zkc_35, zin_36, zin_37, zkc_38, zin_39, zin_40, zin_41, zin_42, zin_43, zin_44, zin_45, zin_46, zin_47, zaa_47, zkc_48, zin_49, zin_50, zkc_51, zin_52, zin_53, zkc_54, zin_55, zin_56, zkc_209, zkc_210, zin_211, zaa_211, zkc_212, zin_213, zkc_214, zkc_215, zin_216, zin_217, zkc_218, zin_219, zin_220, zin_221, zkc_222, zin_223, zaa_223, zin_224, zin_225, zkc_226, zin_227, zin_228, zin_229, zin_230, zin_231, zin_232, zkc_233, zin_234, zaa_234, zin_235, zin_236, zin_237, zin_238, zin_239, zin_240, zin_241, zin_242, zin_243, zin_244, zin_245, zin_246, zin_247, zin_248, zin_249, zin_250, zkc_251, zin_252, zin_253, zkc_374, zin_375, zin_376, zin_377, zin_378, zin_379, zin_380, zin_381, zin_382, zin_383, zin_384, zin_385, zin_386, zin_387, h5, h6, hcr, htr, ht0, hge, ↓reduceIte, Int.toNat_natCast]
      refine s_act (d + 1) _ N _ pl _ g5 ((c1.2.2.1 _ g5).mpr g8) ⟨c3.1, by omega⟩ g9.1 g1 c1.1 (by rw [e1]; exact g3) (fun j hj => by rw [g2 228 (by omega) (by omega) (by omega) (by omega)]; exact hP3 j hj) (fun N' y1 y2 y3 => ?_)
      rw [zret_none]
      have h9 := ih (t + 1) (by omega) N' y1 (fun b q1 q2 q3 q4 => (y2 b q1 q2 q3 q4).trans (g2 b q1 q2 q3 q4)) (by rw [e1] at y3; exact y3)
      simp only [↓e39, ↓e39_0, ↓e39_1, ↓e39_4, ↓e39_7, ↓e39_8, ↓e39_9, ↓e39_12, ↓e39_13, ↓e39_14, ↓e39_15, ↓e39_18, ↓e39_19, ↓e39_22, ↓e39_25, ↓e39_26, ↓e39_27, ↓e39_30, ↓e39_31, ↓e39_33, ↓e39_34, ↓e39_37, ↓e39_40, ↓e39_41, ↓e39_42, ↓e39_45, ↓e39_46, ↓e39_47, ↓e39_50, ↓e39_53, ↓e39_56, ↓e39_57, ↓e39_60, znl_i, znl_r, znl_n, zcs_0, zcs_1, zcs_2, zcs_3, zcat_0, zcat_1, zcat_2, zcat_3, zbl_0, zbl_1, true_and, and_true, ↓zret_some, ↓zret_none, Nat.reduceAdd, Nat.reduceLeDiff, Nat.reduceMul, eq_self, Int.reduceToNat, Int.reduceLE, Int.reduceLT, Int.reduceNeg, and_self]
      rw [show ((t : Int) + 1) = ((t + 1 : Nat) : Int) by omega]
      exact h9
  have h9 := loop _ 0 (Nat.zero_add _) N3 i1 (fun _ _ _ _ _ => rfl) i2
  simp only [↓e39, ↓e39_0, ↓e39_1, ↓e39_4, ↓e39_7, ↓e39_8, ↓e39_9, ↓e39_12, ↓e39_13, ↓e39_14, ↓e39_15, ↓e39_18, ↓e39_19, ↓e39_22, ↓e39_25, ↓e39_26, ↓e39_27, ↓e39_30, ↓e39_31, ↓e39_33, ↓e39_34, ↓e39_37, ↓e39_40, ↓e39_41, ↓e39_42, ↓e39_45, ↓e39_46, ↓e39_47, ↓e39_50, ↓e39_53, ↓e39_56, ↓e39_57, ↓e39_60, znl_i, znl_r, znl_n, zcs_0, zcs_1, zcs_2, zcs_3, zcat_0, zcat_1, zcat_2, zcat_3, zbl_0, zbl_1, true_and, and_true, ↓zret_some, ↓zret_none, Nat.reduceAdd, Nat.reduceLeDiff, Nat.reduceMul, eq_self, Int.reduceToNat, Int.reduceLE, Int.reduceLT, Int.reduceNeg, and_self]
  rw [k1.2.1]
  exact h9
