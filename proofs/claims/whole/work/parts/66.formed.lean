/-! ### formed; the reference's again -/
abbrev frm (S : zM) : Prop := 0 ≤ ldr S ∧ gvs S = 0 ∧ (0 < gvn S ∨ nsl S = 1)
theorem s_cFormed (d : Nat) (Q : zQ) (M S : zM) (hR : RelC M 0 S) (hW : WfS S) (h4 : M 226 4 = gvn S) (h5 : M 226 5 = gvs S) : Sp (d + 3) 6 [.inr (.inr 226)] M Q = Q (some (.inl (zb (frm S)))) M := by
  obtain ⟨p1, p2⟩ := pj_rng hW
  have h8 := hR.2.2.2.2.2.2.2.2.2.2.1
  have hp : M 0 11 = pj S := by rw [h8]; exact p2
  have hsh := (hR.2.2.2.2.2.2.2.2.2.2.2 (pj S) p1).1
  simp only [Nat.zero_add] at hsh
  have ha : zkc (10 + 3 * pj S) = 5 := by
    have := zkcWS (a := 0) (j := pj S) zkc_0 p1
    simpa using this
  have hsh : M (10 + 3 * pj S) 2 = nsl S := hsh
  obtain ⟨l1, l2, l3⟩ := ldr_rng hW
  have hlr : -2147483648 ≤ (if ldr S < 0 then -5 else ldr S) ∧ (if ldr S < 0 then -5 else ldr S) < 2147483648 := by constructor <;> split <;> omega
  have hg := gv_rng hW
  have g1 : -2147483648 ≤ gvn S ∧ gvn S < 2147483648 := ⟨by omega, by omega⟩
  have g2 : -2147483648 ≤ gvs S ∧ gvs S < 2147483648 := ⟨by omega, by omega⟩
  have g3 := nsl_rng hW
  have g4 : -2147483648 ≤ nsl S ∧ nsl S < 2147483648 := ⟨by omega, by omega⟩
  simp only [↓e6, ↓e6_0, ↓e6_1, ↓e6_4, ↓e6_7, ↓e6_10, ↓e6_11, ↓e6_12, ↓e6_15, ↓e6_18, ↓e6_21, ↓e6_22, ↓e6_25, ↓e6_28, ↓e6_29, ↓e6_32, ↓e6_35, ↓e6_36, ↓e6_37, ↓e6_40, ↓e6_41, ↓e6_44, ↓e6_45, znl_i, znl_r, znl_n, zcs_0, zcs_1, zcs_2, zcs_3, zcat_0, zcat_1, zcat_2, zcat_3, zbl_0, zbl_1, true_and, and_true, ↓zret_some, ↓zret_none, Nat.reduceAdd, Nat.reduceLeDiff, Nat.reduceMul, eq_self, Int.reduceToNat, Int.reduceLE, Int.reduceLT, Int.reduceNeg, and_self, zrg, zkc_0, zin_1, zin_2, zin_3, zin_4, zin_5, zin_6, zin_7, zin_8, zin_9, zaa_9, zkc_10, zin_11, zin_12, zkc_13, zin_14, zin_15, zkc_16, zin_17, zin_18, zkc_19, zin_20, zin_21, zin_22, zin_23, zin_24, zin_25, zin_26, zin_27, zin_28, zaa_28, zkc_29, zin_30, zin_31, zkc_32, zin_33, zin_34, zkc_35, zin_36, zin_37, zkc_38, zin_39, zin_40, zin_41, zin_42, zin_43, zin_44, zin_45, zin_46, zin_47, zaa_47, zkc_48, zin_49, zin_50, zkc_51, zin_52, zin_53, zkc_54, zin_55, zin_56, zkc_209, zkc_210, zin_211, zaa_211, zkc_212, zin_213, zkc_214, zkc_215, zin_216, zin_217, zkc_218, zin_219, zin_220, zin_221, zkc_222, zin_223, zaa_223, zin_224, zin_225, zkc_226, zin_227, zin_228, zin_229, zin_230, zin_231, zin_232, zkc_233, zin_234, zaa_234, zin_235, zin_236, zin_237, zin_238, zin_239, zin_240, zin_241, zin_242, zin_243, zin_244, zin_245, zin_246, zin_247, zin_248, zin_249, zin_250, zkc_251, zin_252, zin_253, zkc_374, zin_375, zin_376, zin_377, zin_378, zin_379, zin_380, zin_381, zin_382, zin_383, zin_384, zin_385, zin_386, zin_387, ↓s_presentShape (d + 1) _ M (by rw [hp]; omega), hp, Int.toNat_natCast, ha, hsh, ↓s_leader d _ M S 0 zkc_0 hR hW, hlr, h4, h5, g1, g2, g4]
  unfold zb frm
  by_cases a1 : ldr S < 0
  · rw [if_pos (by rw [if_pos a1]; omega), if_neg (fun z => by omega)]
  · rw [if_neg (by rw [if_neg a1]; exact a1)]
    by_cases a2 : gvs S = 0
    · rw [if_neg (by omega)]
      by_cases a3 : gvn S > 0
      · rw [if_pos a3, if_pos ⟨by omega, a2, Or.inl a3⟩]
      · rw [if_neg a3]
        by_cases a4 : nsl S = 1
        · rw [if_neg (by omega), if_pos ⟨by omega, a2, Or.inr a4⟩]
        · rw [if_pos a4, if_neg (fun z => by omega)]
    · rw [if_pos a2, if_neg (fun z => a2 z.2.1)]
theorem gvs_zero {S : zM} (hW : WfS S) : gvs S = 0 ↔ ∀ m : Nat, m < 10 → 0 ≤ bT S m → S 1 m = plc S (bT S m).toNat := by
  have hnn : ∀ m : Nat, m < 10 → 0 ≤ (fun m => if bT S m < 0 then (0 : Int) else dm S m (bT S m).toNat) m := fun m hm => by
    show 0 ≤ if bT S m < 0 then (0 : Int) else dm S m (bT S m).toNat
    rcases bT_cases hW hm with q | ⟨s, q1, q2, q3, q4, q5, q6, -⟩
    · rw [if_pos (by omega)]; exact Int.le_refl _
    · rw [if_neg (by omega), q1, Int.toNat_natCast]; exact q6
  constructor
  · intro h m hm h0
    have h1 := (smN_ge 10 hnn).2 m hm
    have h2 := hnn m hm
    have h3 : smN (fun m => if bT S m < 0 then (0 : Int) else dm S m (bT S m).toNat) 10 = 0 := h
    rw [h3] at h1
    have h4 : (if bT S m < 0 then (0 : Int) else dm S m (bT S m).toNat) = 0 := Int.le_antisymm h1 h2
    rw [if_neg (by omega)] at h4
    rcases bT_cases hW hm with q | ⟨s, q1, q2, q3, q4, q5, q6, q7, q8, q9, q10, -⟩
    · omega
    · rw [q1, Int.toNat_natCast] at h4 ⊢
      have := dst_zero h4
      omega
  · intro h
    unfold gvs
    rw [smN_congr (g := fun _ => 0) 10 (fun m hm => by
      show (if bT S m < 0 then (0 : Int) else dm S m (bT S m).toNat) = 0
      rcases bT_cases hW hm with q | ⟨s, q1, q2, q3, q4, q5, q6, q7, q8, q9, q10, -⟩
      · rw [if_pos (by omega)]
      · have h2 := h m hm (by omega)
        rw [if_neg (by omega), q1, Int.toNat_natCast]
        rw [q1, Int.toNat_natCast] at h2
        unfold dm
        rw [h2]
        exact dst_self (plc_rng q8).2.1), smN_zero]
theorem s_rAgain (d : Nat) (Q : zQ) (M S : zM) (hR : RelR M 0 S) (hW : WfS S) (hQ : ∀ N, Rf M N → RgP S N → Q (some (.inl (gvs S))) N) : Sp (d + 6) 177 [.inr (.inr 374)] M Q := by
  simp only [↓e177, ↓e177_0, ↓e177_1, ↓e177_5, ↓e177_8, znl_i, znl_r, znl_n, zcs_0, zcs_1, zcs_2, zcs_3, zcat_0, zcat_1, zcat_2, zcat_3, zbl_0, zbl_1, true_and, and_true, ↓zret_some, ↓zret_none, Nat.reduceAdd, Nat.reduceLeDiff, Nat.reduceMul, eq_self, Int.reduceToNat, Int.reduceLE, Int.reduceLT, Int.reduceNeg, and_self, zkc_0, zin_1, zin_2, zin_3, zin_4, zin_5, zin_6, zin_7, zin_8, zin_9, zaa_9, zkc_10, zin_11, zin_12, zkc_13, zin_14, zin_15, zkc_16, zin_17, zin_18, zkc_19, zin_20, zin_21, zin_22, zin_23, zin_24, zin_25, zin_26, zin_27, zin_28, zaa_28, zkc_29, zin_30, zin_31, zkc_32, zin_33, zin_34, zkc_35, zin_36, zin_37, zkc_38, zin_39, zin_40, zin_41, zin_42, zin_43, zin_44, zin_45, zin_46, zin_47, zaa_47, zkc_48, zin_49, zin_50, zkc_51, zin_52, zin_53, zkc_54, zin_55, zin_56, zkc_209, zkc_210, zin_211, zaa_211, zkc_212, zin_213, zkc_214, zkc_215, zin_216, zin_217, zkc_218, zin_219, zin_220, zin_221, zkc_222, zin_223, zaa_223, zin_224, zin_225, zkc_226, zin_227, zin_228, zin_229, zin_230, zin_231, zin_232, zkc_233, zin_234, zaa_234, zin_235, zin_236, zin_237, zin_238, zin_239, zin_240, zin_241, zin_242, zin_243, zin_244, zin_245, zin_246, zin_247, zin_248, zin_249, zin_250, zkc_251, zin_252, zin_253, zkc_374, zin_375, zin_376, zin_377, zin_378, zin_379, zin_380, zin_381, zin_382, zin_383, zin_384, zin_385, zin_386, zin_387]
  refine s_gives d _ M S hR hW (fun N h1 h2 => ?_)
  rw [zret_none]
  simp only [↓e177, ↓e177_0, ↓e177_1, ↓e177_4, ↓e177_5, ↓e177_8, znl_i, znl_r, znl_n, zcs_0, zcs_1, zcs_2, zcs_3, zcat_0, zcat_1, zcat_2, zcat_3, zbl_0, zbl_1, true_and, and_true, ↓zret_some, ↓zret_none, Nat.reduceAdd, Nat.reduceLeDiff, Nat.reduceMul, eq_self, Int.reduceToNat, Int.reduceLE, Int.reduceLT, Int.reduceNeg, and_self, zkc_0, zin_1, zin_2, zin_3, zin_4, zin_5, zin_6, zin_7, zin_8, zin_9, zaa_9, zkc_10, zin_11, zin_12, zkc_13, zin_14, zin_15, zkc_16, zin_17, zin_18, zkc_19, zin_20, zin_21, zin_22, zin_23, zin_24, zin_25, zin_26, zin_27, zin_28, zaa_28, zkc_29, zin_30, zin_31, zkc_32, zin_33, zin_34, zkc_35, zin_36, zin_37, zkc_38, zin_39, zin_40, zin_41, zin_42, zin_43, zin_44, zin_45, zin_46, zin_47, zaa_47, zkc_48, zin_49, zin_50, zkc_51, zin_52, zin_53, zkc_54, zin_55, zin_56, zkc_209, zkc_210, zin_211, zaa_211, zkc_212, zin_213, zkc_214, zkc_215, zin_216, zin_217, zkc_218, zin_219, zin_220, zin_221, zkc_222, zin_223, zaa_223, zin_224, zin_225, zkc_226, zin_227, zin_228, zin_229, zin_230, zin_231, zin_232, zkc_233, zin_234, zaa_234, zin_235, zin_236, zin_237, zin_238, zin_239, zin_240, zin_241, zin_242, zin_243, zin_244, zin_245, zin_246, zin_247, zin_248, zin_249, zin_250, zkc_251, zin_252, zin_253, zkc_374, zin_375, zin_376, zin_377, zin_378, zin_379, zin_380, zin_381, zin_382, zin_383, zin_384, zin_385, zin_386, zin_387, h2.2.2.1]
  exact hQ N h1 h2
theorem Rf_RelR {M N S : zM} {o : Nat} (h : Rf M N) (hR : RelR M o S) : RelR N o S := RelR_congr (h.1 375 (by omega) (by omega)) hR
theorem s_rFormed (d : Nat) (Q : zQ) (M S : zM) (hR : RelR M 0 S) (hW : WfS S) (hQ : ∀ N, Rf M N → RgP S N → Q (some (.inl (zb (frm S)))) N) : Sp (d + 6) 134 [.inr (.inr 374)] M Q := by
  obtain ⟨p1, p2⟩ := pj_rng hW
  obtain ⟨l1, l2, l3⟩ := ldr_rng hW
  have hlr : -2147483648 ≤ ldr S ∧ ldr S < 2147483648 := ⟨by omega, by omega⟩
  have hg := gv_rng hW
  have g1 : -2147483648 ≤ gvn S ∧ gvn S < 2147483648 := ⟨by omega, by omega⟩
  have g3 := nsl_rng hW
  have g4 : -2147483648 ≤ nsl S ∧ nsl S < 2147483648 := ⟨by omega, by omega⟩
  simp only [↓e134, ↓e134_0, ↓e134_1, ↓e134_5, ↓e134_8, ↓e134_9, ↓e134_10, ↓e134_11, ↓e134_12, ↓e134_15, ↓e134_18, ↓e134_19, ↓e134_22, ↓e134_25, ↓e134_26, ↓e134_27, ↓e134_30, ↓e134_31, ↓e134_34, ↓e134_35, ↓e134_36, ↓e134_37, ↓e134_38, ↓e134_39, ↓e134_41, ↓e134_44, ↓e134_45, ↓e134_48, ↓e134_49, ↓e134_50, ↓e134_53, ↓e134_54, ↓e134_55, ↓e134_56, ↓e134_59, ↓e134_60, ↓e134_63, ↓e134_64, ↓e134_67, ↓e134_68, ↓e134_69, ↓e134_70, ↓e134_73, ↓e134_74, ↓e134_75, ↓e134_78, ↓e134_81, ↓e134_82, znl_i, znl_r, znl_n, zcs_0, zcs_1, zcs_2, zcs_3, zcat_0, zcat_1, zcat_2, zcat_3, zbl_0, zbl_1, true_and, and_true, ↓zret_some, ↓zret_none, Nat.reduceAdd, Nat.reduceLeDiff, Nat.reduceMul, eq_self, Int.reduceToNat, Int.reduceLE, Int.reduceLT, Int.reduceNeg, and_self, zkc_0, zin_1, zin_2, zin_3, zin_4, zin_5, zin_6, zin_7, zin_8, zin_9, zaa_9, zkc_10, zin_11, zin_12, zkc_13, zin_14, zin_15, zkc_16, zin_17, zin_18, zkc_19, zin_20, zin_21, zin_22, zin_23, zin_24, zin_25, zin_26, zin_27, zin_28, zaa_28, zkc_29, zin_30, zin_31, zkc_32, zin_33, zin_34, zkc_35, zin_36, zin_37, zkc_38, zin_39, zin_40, zin_41, zin_42, zin_43, zin_44, zin_45, zin_46, zin_47, zaa_47, zkc_48, zin_49, zin_50, zkc_51, zin_52, zin_53, zkc_54, zin_55, zin_56, zkc_209, zkc_210, zin_211, zaa_211, zkc_212, zin_213, zkc_214, zkc_215, zin_216, zin_217, zkc_218, zin_219, zin_220, zin_221, zkc_222, zin_223, zaa_223, zin_224, zin_225, zkc_226, zin_227, zin_228, zin_229, zin_230, zin_231, zin_232, zkc_233, zin_234, zaa_234, zin_235, zin_236, zin_237, zin_238, zin_239, zin_240, zin_241, zin_242, zin_243, zin_244, zin_245, zin_246, zin_247, zin_248, zin_249, zin_250, zkc_251, zin_252, zin_253, zkc_374, zin_375, zin_376, zin_377, zin_378, zin_379, zin_380, zin_381, zin_382, zin_383, zin_384, zin_385, zin_386, zin_387]
  refine s_gives d _ M S hR hW (fun N h1 h2 => ?_)
  have hRN := Rf_RelR h1 hR
  obtain ⟨r1, r2, r3⟩ := hRN.2.2.2.2 (pj S) p1
  simp only [Nat.zero_add] at r1
  have r1 : N 375 (192 + 22 * pj S) = nsl S := r1
  have hN3 : N 375 3 = pj S := by
    have := hRN.1.2.2.2
    simp only [Nat.zero_add] at this
    rw [this]; exact p2
  obtain ⟨k1, k2, k3, k4⟩ := id h2
  have done : 0 ≤ ldr S → (0 < gvn S ∨ nsl S = 1) → RT (Sp (d + 5)) 134 Q 36 [some (.inr (.inr 374)), some (.inl (pj S : Int)), none] [] N := by
    intro c1 c2
    have loop : ∀ q m : Nat, m + q = 10 → (∀ i : Nat, i < m → 0 ≤ bT S i → S 1 i = plc S (bT S i).toNat) → RT (Sp (d + 5)) 134 Q 38 [some (.inr (.inr 374)), some (.inl (pj S : Int)), some (.inl (m : Int))] [] N := by
      intro q
      induction q with
      | zero =>
        intro m hm h
        obtain rfl : m = 10 := by omega
        have h9 := hQ N h1 h2
        rw [show zb (frm S) = 1 from if_pos ⟨c1, (gvs_zero hW).mpr (fun i hi => h i hi), c2⟩] at h9
        rw [e134_38]
        simp only [↓e134, ↓e134_0, ↓e134_1, ↓e134_4, ↓e134_5, ↓e134_8, ↓e134_9, ↓e134_10, ↓e134_11, ↓e134_12, ↓e134_15, ↓e134_18, ↓e134_19, ↓e134_22, ↓e134_25, ↓e134_26, ↓e134_27, ↓e134_30, ↓e134_31, ↓e134_34, ↓e134_35, ↓e134_36, ↓e134_37, ↓e134_39, ↓e134_41, ↓e134_44, ↓e134_45, ↓e134_48, ↓e134_49, ↓e134_50, ↓e134_53, ↓e134_54, ↓e134_55, ↓e134_56, ↓e134_59, ↓e134_60, ↓e134_63, ↓e134_64, ↓e134_67, ↓e134_68, ↓e134_69, ↓e134_70, ↓e134_73, ↓e134_74, ↓e134_75, ↓e134_78, ↓e134_81, ↓e134_82, znl_i, znl_r, znl_n, zcs_0, zcs_1, zcs_2, zcs_3, zcat_0, zcat_1, zcat_2, zcat_3, zbl_0, zbl_1, true_and, and_true, ↓zret_some, ↓zret_none, Nat.reduceAdd, Nat.reduceLeDiff, Nat.reduceMul, eq_self, Int.reduceToNat, Int.reduceLE, Int.reduceLT, Int.reduceNeg, and_self, zrg, Int.cast_ofNat_Int, ge_iff_le, Int.le_refl, ↓reduceIte]
        exact h9
      | succ q ih =>
        intro m hm h
        have hmr : -2147483648 ≤ (m : Int) ∧ (m : Int) < 2147483648 := ⟨by omega, by omega⟩
        have hm0 : 0 ≤ (m : Int) ∧ (m : Int) < 10 := ⟨by omega, by omega⟩
        have em : ¬ (m : Int) ≥ 10 := by omega
        have next : (0 ≤ bT S m → S 1 m = plc S (bT S m).toNat) → RT (Sp (d + 5)) 134 Q 75 [some (.inr (.inr 374)), some (.inl (pj S : Int)), some (.inl (m : Int))] [] N := fun hy => by
          have h9 := ih (m + 1) (by omega) (fun i hi => by
            by_cases z : i = m
            · subst z; exact hy
            · exact h i (by omega))
          simp only [↓e134, ↓e134_0, ↓e134_1, ↓e134_4, ↓e134_5, ↓e134_8, ↓e134_9, ↓e134_10, ↓e134_11, ↓e134_12, ↓e134_15, ↓e134_18, ↓e134_19, ↓e134_22, ↓e134_25, ↓e134_26, ↓e134_27, ↓e134_30, ↓e134_31, ↓e134_34, ↓e134_35, ↓e134_36, ↓e134_37, ↓e134_39, ↓e134_41, ↓e134_44, ↓e134_45, ↓e134_48, ↓e134_49, ↓e134_50, ↓e134_53, ↓e134_54, ↓e134_55, ↓e134_56, ↓e134_59, ↓e134_60, ↓e134_63, ↓e134_64, ↓e134_67, ↓e134_68, ↓e134_69, ↓e134_70, ↓e134_73, ↓e134_74, ↓e134_75, ↓e134_78, ↓e134_81, ↓e134_82, znl_i, znl_r, znl_n, zcs_0, zcs_1, zcs_2, zcs_3, zcat_0, zcat_1, zcat_2, zcat_3, zbl_0, zbl_1, true_and, and_true, ↓zret_some, ↓zret_none, Nat.reduceAdd, Nat.reduceLeDiff, Nat.reduceMul, eq_self, Int.reduceToNat, Int.reduceLE, Int.reduceLT, Int.reduceNeg, and_self]
          rw [show ((m : Int) + 1) = ((m + 1 : Nat) : Int) by omega]
          exact h9
        rcases bT_cases hW (m := m) (by omega) with b | ⟨s, q1, q2, q3, q4, q5, q6, q7, q8, q9, q10, q11⟩
        · rw [e134_38]
          simp only [↓e134, ↓e134_0, ↓e134_1, ↓e134_4, ↓e134_5, ↓e134_8, ↓e134_9, ↓e134_10, ↓e134_11, ↓e134_12, ↓e134_15, ↓e134_18, ↓e134_19, ↓e134_22, ↓e134_25, ↓e134_26, ↓e134_27, ↓e134_30, ↓e134_31, ↓e134_34, ↓e134_35, ↓e134_36, ↓e134_37, ↓e134_39, ↓e134_41, ↓e134_44, ↓e134_45, ↓e134_48, ↓e134_49, ↓e134_50, ↓e134_53, ↓e134_54, ↓e134_55, ↓e134_56, ↓e134_59, ↓e134_60, ↓e134_63, ↓e134_64, ↓e134_67, ↓e134_68, ↓e134_69, ↓e134_70, ↓e134_73, ↓e134_74, ↓e134_78, ↓e134_81, ↓e134_82, znl_i, znl_r, znl_n, zcs_0, zcs_1, zcs_2, zcs_3, zcat_0, zcat_1, zcat_2, zcat_3, zbl_0, zbl_1, true_and, and_true, ↓zret_some, ↓zret_none, Nat.reduceAdd, Nat.reduceLeDiff, Nat.reduceMul, eq_self, Int.reduceToNat, Int.reduceLE, Int.reduceLT, Int.reduceNeg, and_self, zrg, zkc_0, zin_1, zin_2, zin_3, zin_4, zin_5, zin_6, zin_7, zin_8, zin_9, zaa_9, zkc_10, zin_11, zin_12, zkc_13, zin_14, zin_15, zkc_16, zin_17, zin_18, zkc_19, zin_20, zin_21, zin_22, zin_23, zin_24, zin_25, zin_26, zin_27, zin_28, zaa_28, zkc_29, zin_30, zin_31, zkc_32, zin_33, zin_34, zkc_35, zin_36, zin_37, zkc_38, zin_39, zin_40, zin_41, zin_42, zin_43, zin_44, zin_45, zin_46, zin_47, zaa_47, zkc_48, zin_49, zin_50, zkc_51, zin_52, zin_53, zkc_54, zin_55, zin_56, zkc_209, zkc_210, zin_211, zaa_211, zkc_212, zin_213, zkc_214, zkc_215, zin_216, zin_217, zkc_218, zin_219, zin_220, zin_221, zkc_222, zin_223, zaa_223, zin_224, zin_225, zkc_226, zin_227, zin_228, zin_229, zin_230, zin_231, zin_232, zkc_233, zin_234, zaa_234, zin_235, zin_236, zin_237, zin_238, zin_239, zin_240, zin_241, zin_242, zin_243, zin_244, zin_245, zin_246, zin_247, zin_248, zin_249, zin_250, zkc_251, zin_252, zin_253, zkc_374, zin_375, zin_376, zin_377, zin_378, zin_379, zin_380, zin_381, zin_382, zin_383, zin_384, zin_385, zin_386, zin_387, hmr, hm0, em, k1 m (by omega), b, ↓reduceIte, Int.toNat_natCast, show (-1 : Int) < 0 by omega]
          exact next (fun z => by omega)
        · have ho := fun Q' => s_of (d + 4) Q' N m 0 (by omega) (by omega)
          have hmS : (m : Int) < S 7 7 := by
            rcases Int.lt_or_le (m : Int) (S 7 7) with z | z
            · exact z
            · have := (hW.2.2.1 m (by omega) z).1; omega
          have hcell := (hRN.2.2.1 m (by omega) hmS).1
          simp only [Nat.zero_add] at hcell
          simp only [Int.natCast_zero, Nat.add_zero, hcell] at ho
          have hpl := (k4 s (by omega)).1 q5
          have hs0 : 0 ≤ (s : Int) ∧ (s : Int) < 10 := ⟨by omega, by omega⟩
          have hsr : -2147483648 ≤ (s : Int) ∧ (s : Int) < 2147483648 := ⟨by omega, by omega⟩
          have es : ¬ (s : Int) < 0 := by omega
          have hc := hW.2.1 m (by omega)
          have hcr : -2147483648 ≤ S 1 m ∧ S 1 m < 2147483648 := ⟨by omega, by omega⟩
          have hpr : -2147483648 ≤ plc S s ∧ plc S s < 2147483648 := ⟨by omega, by omega⟩
          rw [e134_38]
          simp only [↓e134, ↓e134_0, ↓e134_1, ↓e134_4, ↓e134_5, ↓e134_8, ↓e134_9, ↓e134_10, ↓e134_11, ↓e134_12, ↓e134_15, ↓e134_18, ↓e134_19, ↓e134_22, ↓e134_25, ↓e134_26, ↓e134_27, ↓e134_30, ↓e134_31, ↓e134_34, ↓e134_35, ↓e134_36, ↓e134_37, ↓e134_39, ↓e134_41, ↓e134_44, ↓e134_45, ↓e134_48, ↓e134_49, ↓e134_50, ↓e134_53, ↓e134_54, ↓e134_55, ↓e134_56, ↓e134_59, ↓e134_60, ↓e134_63, ↓e134_64, ↓e134_67, ↓e134_68, ↓e134_69, ↓e134_70, ↓e134_73, ↓e134_74, ↓e134_78, ↓e134_81, ↓e134_82, znl_i, znl_r, znl_n, zcs_0, zcs_1, zcs_2, zcs_3, zcat_0, zcat_1, zcat_2, zcat_3, zbl_0, zbl_1, true_and, and_true, ↓zret_some, ↓zret_none, Nat.reduceAdd, Nat.reduceLeDiff, Nat.reduceMul, eq_self, Int.reduceToNat, Int.reduceLE, Int.reduceLT, Int.reduceNeg, and_self, zrg, zkc_0, zin_1, zin_2, zin_3, zin_4, zin_5, zin_6, zin_7, zin_8, zin_9, zaa_9, zkc_10, zin_11, zin_12, zkc_13, zin_14, zin_15, zkc_16, zin_17, zin_18, zkc_19, zin_20, zin_21, zin_22, zin_23, zin_24, zin_25, zin_26, zin_27, zin_28, zaa_28, zkc_29, zin_30, zin_31, zkc_32, zin_33, zin_34, zkc_35, zin_36, zin_37, zkc_38, zin_39, zin_40, zin_41, zin_42, zin_43, zin_44, zin_45, zin_46, zin_47, zaa_47, zkc_48, zin_49, zin_50, zkc_51, zin_52, zin_53, zkc_54, zin_55, zin_56, zkc_209, zkc_210, zin_211, zaa_211, zkc_212, zin_213, zkc_214, zkc_215, zin_216, zin_217, zkc_218, zin_219, zin_220, zin_221, zkc_222, zin_223, zaa_223, zin_224, zin_225, zkc_226, zin_227, zin_228, zin_229, zin_230, zin_231, zin_232, zkc_233, zin_234, zaa_234, zin_235, zin_236, zin_237, zin_238, zin_239, zin_240, zin_241, zin_242, zin_243, zin_244, zin_245, zin_246, zin_247, zin_248, zin_249, zin_250, zkc_251, zin_252, zin_253, zkc_374, zin_375, zin_376, zin_377, zin_378, zin_379, zin_380, zin_381, zin_382, zin_383, zin_384, zin_385, zin_386, zin_387, hmr, hm0, em, k1 m (by omega), q1, hs0, hsr, es, ↓ho, hpl.1, hcr, hpr, ↓reduceIte, Int.toNat_natCast]
          by_cases hy : S 1 m = plc S s
          · rw [if_pos hy]
            exact next (fun _ => by rw [q1, Int.toNat_natCast]; exact hy)
          · rw [if_neg hy]
            have h9 := hQ N h1 h2
            rw [show zb (frm S) = 0 from if_neg (fun z => hy (by
              have := (gvs_zero hW).mp z.2.1 m (by omega) (by omega)
              rw [q1, Int.toNat_natCast] at this
              exact this))] at h9
            exact h9
    have h9 := loop 10 0 rfl (fun i hi => absurd hi (Nat.not_lt_zero i))
    simp only [↓e134, ↓e134_0, ↓e134_1, ↓e134_4, ↓e134_5, ↓e134_8, ↓e134_9, ↓e134_10, ↓e134_11, ↓e134_12, ↓e134_15, ↓e134_18, ↓e134_19, ↓e134_22, ↓e134_25, ↓e134_26, ↓e134_27, ↓e134_30, ↓e134_31, ↓e134_34, ↓e134_35, ↓e134_36, ↓e134_37, ↓e134_39, ↓e134_41, ↓e134_44, ↓e134_45, ↓e134_48, ↓e134_49, ↓e134_50, ↓e134_53, ↓e134_54, ↓e134_55, ↓e134_56, ↓e134_59, ↓e134_60, ↓e134_63, ↓e134_64, ↓e134_67, ↓e134_68, ↓e134_69, ↓e134_70, ↓e134_73, ↓e134_74, ↓e134_75, ↓e134_78, ↓e134_81, ↓e134_82, znl_i, znl_r, znl_n, zcs_0, zcs_1, zcs_2, zcs_3, zcat_0, zcat_1, zcat_2, zcat_3, zbl_0, zbl_1, true_and, and_true, ↓zret_some, ↓zret_none, Nat.reduceAdd, Nat.reduceLeDiff, Nat.reduceMul, eq_self, Int.reduceToNat, Int.reduceLE, Int.reduceLT, Int.reduceNeg, and_self, zkc_0, zin_1, zin_2, zin_3, zin_4, zin_5, zin_6, zin_7, zin_8, zin_9, zaa_9, zkc_10, zin_11, zin_12, zkc_13, zin_14, zin_15, zkc_16, zin_17, zin_18, zkc_19, zin_20, zin_21, zin_22, zin_23, zin_24, zin_25, zin_26, zin_27, zin_28, zaa_28, zkc_29, zin_30, zin_31, zkc_32, zin_33, zin_34, zkc_35, zin_36, zin_37, zkc_38, zin_39, zin_40, zin_41, zin_42, zin_43, zin_44, zin_45, zin_46, zin_47, zaa_47, zkc_48, zin_49, zin_50, zkc_51, zin_52, zin_53, zkc_54, zin_55, zin_56, zkc_209, zkc_210, zin_211, zaa_211, zkc_212, zin_213, zkc_214, zkc_215, zin_216, zin_217, zkc_218, zin_219, zin_220, zin_221, zkc_222, zin_223, zaa_223, zin_224, zin_225, zkc_226, zin_227, zin_228, zin_229, zin_230, zin_231, zin_232, zkc_233, zin_234, zaa_234, zin_235, zin_236, zin_237, zin_238, zin_239, zin_240, zin_241, zin_242, zin_243, zin_244, zin_245, zin_246, zin_247, zin_248, zin_249, zin_250, zkc_251, zin_252, zin_253, zkc_374, zin_375, zin_376, zin_377, zin_378, zin_379, zin_380, zin_381, zin_382, zin_383, zin_384, zin_385, zin_386, zin_387]
    exact h9
  have no : ¬ frm S → Q (some (.inl 0)) N := fun hf => by
    have h9 := hQ N h1 h2
    rw [show zb (frm S) = 0 from if_neg hf] at h9
    exact h9
  rw [zret_none]
  simp only [↓e134, ↓e134_0, ↓e134_1, ↓e134_4, ↓e134_5, ↓e134_8, ↓e134_9, ↓e134_10, ↓e134_11, ↓e134_12, ↓e134_15, ↓e134_18, ↓e134_19, ↓e134_22, ↓e134_25, ↓e134_26, ↓e134_27, ↓e134_30, ↓e134_31, ↓e134_34, ↓e134_35, ↓e134_37, ↓e134_38, ↓e134_39, ↓e134_41, ↓e134_44, ↓e134_45, ↓e134_48, ↓e134_49, ↓e134_50, ↓e134_53, ↓e134_54, ↓e134_55, ↓e134_56, ↓e134_59, ↓e134_60, ↓e134_63, ↓e134_64, ↓e134_67, ↓e134_68, ↓e134_69, ↓e134_70, ↓e134_73, ↓e134_74, ↓e134_75, ↓e134_78, ↓e134_81, ↓e134_82, znl_i, znl_r, znl_n, zcs_0, zcs_1, zcs_2, zcs_3, zcat_0, zcat_1, zcat_2, zcat_3, zbl_0, zbl_1, true_and, and_true, ↓zret_some, ↓zret_none, Nat.reduceAdd, Nat.reduceLeDiff, Nat.reduceMul, eq_self, Int.reduceToNat, Int.reduceLE, Int.reduceLT, Int.reduceNeg, and_self, zrg, zkc_0, zin_1, zin_2, zin_3, zin_4, zin_5, zin_6, zin_7, zin_8, zin_9, zaa_9, zkc_10, zin_11, zin_12, zkc_13, zin_14, zin_15, zkc_16, zin_17, zin_18, zkc_19, zin_20, zin_21, zin_22, zin_23, zin_24, zin_25, zin_26, zin_27, zin_28, zaa_28, zkc_29, zin_30, zin_31, zkc_32, zin_33, zin_34, zkc_35, zin_36, zin_37, zkc_38, zin_39, zin_40, zin_41, zin_42, zin_43, zin_44, zin_45, zin_46, zin_47, zaa_47, zkc_48, zin_49, zin_50, zkc_51, zin_52, zin_53, zkc_54, zin_55, zin_56, zkc_209, zkc_210, zin_211, zaa_211, zkc_212, zin_213, zkc_214, zkc_215, zin_216, zin_217, zkc_218, zin_219, zin_220, zin_221, zkc_222, zin_223, zaa_223, zin_224, zin_225, zkc_226, zin_227, zin_228, zin_229, zin_230, zin_231, zin_232, zkc_233, zin_234, zaa_234, zin_235, zin_236, zin_237, zin_238, zin_239, zin_240, zin_241, zin_242, zin_243, zin_244, zin_245, zin_246, zin_247, zin_248, zin_249, zin_250, zkc_251, zin_252, zin_253, zkc_374, zin_375, zin_376, zin_377, zin_378, zin_379, zin_380, zin_381, zin_382, zin_383, zin_384, zin_385, zin_386, zin_387, hN3, ↓s_rLeader (d + 2) _ N S hRN hW, hlr, k2, g1, ↓s_slots (d + 3) _ N (pj S) p1, r1, g4]
  by_cases a1 : ldr S < 0
  · rw [if_pos a1]
    exact no (fun z => by have := z.1; omega)
  · rw [if_neg a1]
    by_cases a2 : gvn S = 0
    · rw [if_neg (by omega)]
      by_cases a3 : nsl S = 1
      · rw [if_pos a3]
        exact done (by omega) (Or.inr a3)
      · rw [if_neg a3]
        exact no (fun z => by have := z.2.2; omega)
    · rw [if_pos a2]
      exact done (by omega) (Or.inl (by omega))
