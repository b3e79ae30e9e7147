/-! ### the reference's worths -/
theorem RelR_congr {M N S : zM} {o : Nat} (h : N 375 = M 375) (hR : RelR M o S) : RelR N o S := by
  unfold RelR at *
  rw [h]
  exact hR
/-- the places and the searches of the open slots below k -/
def PlI (S M : zM) (k : Nat) : Prop := ∀ s : Nat, s < k → (isO S s = true → M 378 s = plc S s ∧ ∀ c : Nat, c < 120 → M 376 (120 * s + c) = dst (S 0) (plc S s).toNat c) ∧ (isO S s = false → M 378 s = -1)
theorem isO_plc {S : zM} {s : Nat} (h : isO S s = true) : 0 ≤ plc S s ∧ plc S s < 120 ∧ S 0 (plc S s).toNat ≠ 1 := by
  unfold isO at h
  have h2 := (of_decide_eq_true h).2
  have h3 := plc_rng h2
  exact ⟨h2, h3.1, h3.2.1⟩
theorem s_reckons (d : Nat) (Q : zQ) (M S : zM) (n : Nat) (hn : n ≤ 10) (hR : RelR M 0 S) (hW : WfS S) (hP : PlI S M n)
    (hQ : ∀ N, (∀ b, b ≠ 381 → N b = M b) → (∀ m s : Nat, m < 10 → s < n → N 381 (10 * m + s) = wo S m s) → Q none N) : Sp (d + 4) 132 [.inr (.inr 374), .inl (n : Int)] M Q := by
  obtain ⟨l1, l2, l3⟩ := ldr_rng hW
  have hlr : -2147483648 ≤ ldr S ∧ ldr S < 2147483648 := ⟨by omega, by omega⟩
  have hnr : -2147483648 ≤ (n : Int) ∧ (n : Int) < 2147483648 := ⟨by omega, by omega⟩
  have inner : ∀ m : Nat, m < 10 → (∀ (N : zM) (w5 : Option zV), (∀ b, b ≠ 381 → N b = M b) → (∀ i s : Nat, i < m + 1 → s < n → N 381 (10 * i + s) = wo S i s) → znl w5 → RT (Sp (d + 3)) 132 Q 7 [some (.inr (.inr 374)), some (.inl (n : Int)), some (.inl (ldr S)), some (.inl ((m + 1 : Nat) : Int)), some (.inl (n : Int)), w5] [] N) →
      ∀ q s : Nat, s + q = n → ∀ (N : zM) (w5 : Option zV), (∀ b, b ≠ 381 → N b = M b) → (∀ i e : Nat, i < m + 1 → e < n → (i < m ∨ e < s) → N 381 (10 * i + e) = wo S i e) → znl w5 →
      RT (Sp (d + 3)) 132 Q 16 [some (.inr (.inr 374)), some (.inl (n : Int)), some (.inl (ldr S)), some (.inl (m : Int)), some (.inl (s : Int)), w5] [] N := by
    intro m hm hO q
    have hmr : -2147483648 ≤ (m : Int) ∧ (m : Int) < 2147483648 := ⟨by omega, by omega⟩
    induction q with
    | zero =>
      intro s hs N w5 h1 h2 h3
      obtain rfl : s = n := by omega
      have h9 := hO N w5 h1 (fun i e i1 e1 => h2 i e i1 e1 (Or.inr e1)) h3
      rw [e132_16]
      simp only [↓e132, ↓e132_0, ↓e132_1, ↓e132_4, ↓e132_5, ↓e132_6, ↓e132_8, ↓e132_10, ↓e132_13, ↓e132_14, ↓e132_18, ↓e132_19, ↓e132_22, ↓e132_23, ↓e132_24, ↓e132_27, ↓e132_30, ↓e132_31, ↓e132_32, ↓e132_35, ↓e132_36, ↓e132_39, ↓e132_41, ↓e132_42, ↓e132_45, ↓e132_46, ↓e132_49, ↓e132_51, ↓e132_53, ↓e132_54, ↓e132_55, ↓e132_56, ↓e132_57, ↓e132_60, ↓e132_61, ↓e132_62, ↓e132_65, ↓e132_66, ↓e132_68, ↓e132_69, ↓e132_72, ↓e132_74, ↓e132_75, ↓e132_76, ↓e132_78, ↓e132_79, ↓e132_81, ↓e132_84, ↓e132_85, ↓e132_88, ↓e132_91, ↓e132_93, ↓e132_94, ↓e132_95, ↓e132_98, ↓e132_101, ↓e132_104, ↓e132_107, znl_i, znl_r, znl_n, zcs_0, zcs_1, zcs_2, zcs_3, zcat_0, zcat_1, zcat_2, zcat_3, zbl_0, zbl_1, true_and, and_true, ↓zret_some, ↓zret_none, Nat.reduceAdd, Nat.reduceLeDiff, Nat.reduceMul, eq_self, Int.reduceToNat, Int.reduceLE, Int.reduceLT, Int.reduceNeg, and_self, zrg, hnr, ge_iff_le, Int.le_refl, ↓reduceIte]
      rw [show ((m : Int) + 1) = ((m + 1 : Nat) : Int) by omega]
      exact h9
    | succ q ih =>
      intro s hs N w5 h1 h2 h3
      have hRN : RelR N 0 S := RelR_congr (h1 375 (by omega)) hR
      have hsr : -2147483648 ≤ (s : Int) ∧ (s : Int) < 2147483648 := ⟨by omega, by omega⟩
      have hs0 : 0 ≤ (s : Int) ∧ (s : Int) < 10 := ⟨by omega, by omega⟩
      have e1 : ¬ (s : Int) ≥ n := by omega
      have hzz : -2147483648 ≤ zb (isM S m) ∧ zb (isM S m) < 2147483648 := by unfold zb; split <;> omega
      obtain ⟨p1, p2⟩ := hP s (by omega)
      have hpr : -2147483648 ≤ M 378 s ∧ M 378 s < 2147483648 := by
        by_cases z : isO S s = true
        · have := isO_plc z; rw [(p1 z).1]; omega
        · rw [p2 (by simpa using z)]; omega
      have ix1 : (10 * (m : Int) + s).toNat = 10 * m + s := by omega
      have ix2 : 0 ≤ 10 * (m : Int) + s ∧ 10 * (m : Int) + s < 100 := ⟨by omega, by omega⟩
      have fin : ∀ v : Int, -2147483648 ≤ v ∧ v < 2147483648 → (if v < 0 then 0 else 10000 - v) = wo S m s → RT (Sp (d + 3)) 132 Q 66 [some (.inr (.inr 374)), some (.inl (n : Int)), some (.inl (ldr S)), some (.inl (m : Int)), some (.inl (s : Int)), w5] [.inl v] N := by
        intro v hv hw
        have h9 := ih (s + 1) (by omega) (zup N 381 (10 * m + s) (wo S m s)) (some (.inl v)) (fun b b1 => by rw [zup_ne _ _ _ b1]; exact h1 b b1) (fun i e i1 e1' hie => by
          by_cases z : 10 * i + e = 10 * m + s
          · obtain rfl : i = m := by omega
            obtain rfl : e = s := by omega
            simp [zup]
          · simp only [zup, z, and_false, if_false]
            exact h2 i e i1 e1' (by omega)) trivial
        simp only [↓e132, ↓e132_0, ↓e132_1, ↓e132_4, ↓e132_5, ↓e132_6, ↓e132_7, ↓e132_8, ↓e132_10, ↓e132_13, ↓e132_14, ↓e132_18, ↓e132_19, ↓e132_22, ↓e132_23, ↓e132_24, ↓e132_27, ↓e132_30, ↓e132_31, ↓e132_32, ↓e132_35, ↓e132_36, ↓e132_39, ↓e132_41, ↓e132_42, ↓e132_45, ↓e132_46, ↓e132_49, ↓e132_51, ↓e132_53, ↓e132_54, ↓e132_55, ↓e132_56, ↓e132_57, ↓e132_60, ↓e132_61, ↓e132_62, ↓e132_65, ↓e132_66, ↓e132_68, ↓e132_69, ↓e132_72, ↓e132_74, ↓e132_75, ↓e132_76, ↓e132_78, ↓e132_79, ↓e132_81, ↓e132_84, ↓e132_85, ↓e132_88, ↓e132_91, ↓e132_93, ↓e132_94, ↓e132_95, ↓e132_98, ↓e132_101, ↓e132_104, ↓e132_107, znl_i, znl_r, znl_n, zcs_0, zcs_1, zcs_2, zcs_3, zcat_0, zcat_1, zcat_2, zcat_3, zbl_0, zbl_1, true_and, and_true, ↓zret_some, ↓zret_none, Nat.reduceAdd, Nat.reduceLeDiff, Nat.reduceMul, eq_self, Int.reduceToNat, Int.reduceLE, Int.reduceLT, Int.reduceNeg, and_self, zrg, zkc_0, zin_1, zin_2, zin_3, zin_4, zin_5, zin_6, zin_7, zin_8, zin_9, zaa_9, zkc_10, zin_11, zin_12, zkc_13, zin_14, zin_15, zkc_16, zin_17, zin_18, zkc_19, zin_20, zin_21, zin_22, zin_23, zin_24, zin_25, zin_26, zin_27, zin_28, zaa_28, zkc_29, zin_30, zin_31, zkc_32, zin_33, zin_34, zkc_35, zin_36, zin_37, zkc_38, zin_39, zin_40, zin_41, zin_42, zin_43, zin_44, zin_45, zin_46, zin_47, zaa_47, zkc_48, zin_49, zin_50, zkc_51, zin_52, zin_53, zkc_54, zin_55, zin_56, zkc_209, zkc_210, zin_211, zaa_211, zkc_212, zin_213, zkc_214, zkc_215, zin_216, zin_217, zkc_218, zin_219, zin_220, zin_221, zkc_222, zin_223, zaa_223, zin_224, zin_225, zkc_226, zin_227, zin_228, zin_229, zin_230, zin_231, zin_232, zkc_233, zin_234, zaa_234, zin_235, zin_236, zin_237, zin_238, zin_239, zin_240, zin_241, zin_242, zin_243, zin_244, zin_245, zin_246, zin_247, zin_248, zin_249, zin_250, zkc_251, zin_252, zin_253, zkc_374, zin_375, zin_376, zin_377, zin_378, zin_379, zin_380, zin_381, zin_382, zin_383, zin_384, zin_385, zin_386, zin_387, h3, hv, ix1, ix2]
        rw [show ((s : Int) + 1) = ((s + 1 : Nat) : Int) by omega]
        by_cases z : v < 0
        · rw [if_pos z] at hw
          rw [if_neg (by omega), hw]
          exact h9
        · rw [if_neg z] at hw
          rw [if_pos (by omega), hw]
          exact h9
      have ho := fun Q' => s_of (d + 2) Q' N m 0 hm (by omega)
      simp only [Int.natCast_zero, Nat.add_zero] at ho
      have e378 : N 378 = M 378 := h1 378 (by omega)
      have e376 : N 376 = M 376 := h1 376 (by omega)
      have wz : (¬ isF S m = true ∨ isO S s = false) → wo S m s = 0 := fun z => by
        unfold wo
        rw [if_neg (fun y => by rcases z with z | z; exact z y.1; rw [z] at y; exact absurd y.2.1 (by decide))]
      rw [e132_16]
      simp only [↓e132, ↓e132_0, ↓e132_1, ↓e132_4, ↓e132_5, ↓e132_6, ↓e132_8, ↓e132_10, ↓e132_13, ↓e132_14, ↓e132_18, ↓e132_19, ↓e132_22, ↓e132_23, ↓e132_24, ↓e132_27, ↓e132_30, ↓e132_31, ↓e132_32, ↓e132_35, ↓e132_36, ↓e132_39, ↓e132_41, ↓e132_42, ↓e132_46, ↓e132_49, ↓e132_51, ↓e132_53, ↓e132_54, ↓e132_55, ↓e132_56, ↓e132_57, ↓e132_60, ↓e132_61, ↓e132_62, ↓e132_65, ↓e132_68, ↓e132_69, ↓e132_72, ↓e132_74, ↓e132_75, ↓e132_76, ↓e132_78, ↓e132_79, ↓e132_81, ↓e132_84, ↓e132_85, ↓e132_88, ↓e132_91, ↓e132_93, ↓e132_94, ↓e132_95, ↓e132_98, ↓e132_101, ↓e132_104, ↓e132_107, znl_i, znl_r, znl_n, zcs_0, zcs_1, zcs_2, zcs_3, zcat_0, zcat_1, zcat_2, zcat_3, zbl_0, zbl_1, true_and, and_true, ↓zret_some, ↓zret_none, Nat.reduceAdd, Nat.reduceLeDiff, Nat.reduceMul, eq_self, Int.reduceToNat, Int.reduceLE, Int.reduceLT, Int.reduceNeg, and_self, zrg, zkc_0, zin_1, zin_2, zin_3, zin_4, zin_5, zin_6, zin_7, zin_8, zin_9, zaa_9, zkc_10, zin_11, zin_12, zkc_13, zin_14, zin_15, zkc_16, zin_17, zin_18, zkc_19, zin_20, zin_21, zin_22, zin_23, zin_24, zin_25, zin_26, zin_27, zin_28, zaa_28, zkc_29, zin_30, zin_31, zkc_32, zin_33, zin_34, zkc_35, zin_36, zin_37, zkc_38, zin_39, zin_40, zin_41, zin_42, zin_43, zin_44, zin_45, zin_46, zin_47, zaa_47, zkc_48, zin_49, zin_50, zkc_51, zin_52, zin_53, zkc_54, zin_55, zin_56, zkc_209, zkc_210, zin_211, zaa_211, zkc_212, zin_213, zkc_214, zkc_215, zin_216, zin_217, zkc_218, zin_219, zin_220, zin_221, zkc_222, zin_223, zaa_223, zin_224, zin_225, zkc_226, zin_227, zin_228, zin_229, zin_230, zin_231, zin_232, zkc_233, zin_234, zaa_234, zin_235, zin_236, zin_237, zin_238, zin_239, zin_240, zin_241, zin_242, zin_243, zin_244, zin_245, zin_246, zin_247, zin_248, zin_249, zin_250, zkc_251, zin_252, zin_253, zkc_374, zin_375, zin_376, zin_377, zin_378, zin_379, zin_380, zin_381, zin_382, zin_383, zin_384, zin_385, zin_386, zin_387, hnr, hsr, hmr, hlr, e1, ↓reduceIte, ↓s_isMember (d + 1) _ N S m hRN hW hmr, hzz, hs0, Int.toNat_natCast, e378, hpr]
      by_cases g1 : isM S m
      · rw [show zb (isM S m) = 1 from if_pos g1, if_neg (by omega)]
        have g1' := g1.2.2
        simp only [Int.toNat_natCast] at g1'
        by_cases g2 : (m : Int) = ldr S
        · rw [if_pos g2]
          exact fin (-1) (by omega) (by rw [wz (Or.inl (by unfold isF; simp [g2]))]; rfl)
        · rw [if_neg g2]
          have hF : isF S m = true := by unfold isF; exact decide_eq_true ⟨g2, g1'⟩
          by_cases g3 : isO S s = true
          · obtain ⟨q1, q2⟩ := p1 g3
            obtain ⟨o1, o2, o3⟩ := isO_plc g3
            rw [if_neg (by rw [q1]; omega)]
            have hmS : (m : Int) < S 7 7 := by
              rcases Int.lt_or_le (m : Int) (S 7 7) with z | z
              · exact z
              · have := (hW.2.2.1 m hm z).1; omega
            have hcell := (hRN.2.2.1 m hm hmS).1
            simp only [Nat.zero_add] at hcell
            obtain ⟨c, hc⟩ : ∃ c : Nat, S 1 m = c := ⟨(S 1 m).toNat, by omega⟩
            have hc2 := (hW.2.1 m hm).2
            have ix3 : (120 * (s : Int) + c).toNat = 120 * s + c := by omega
            have ix4 : 0 ≤ 120 * (s : Int) + c ∧ 120 * (s : Int) + c < 1440 := ⟨by omega, by omega⟩
            have hfar := q2 c (by omega)
            have hd1 := dst_rng (S 0) (plc S s).toNat c
            have hd2 := dst_lt (w := S 0) (a := (plc S s).toNat) (c := c) (by omega)
            simp only [↓e132, ↓e132_0, ↓e132_1, ↓e132_4, ↓e132_5, ↓e132_6, ↓e132_8, ↓e132_10, ↓e132_13, ↓e132_14, ↓e132_18, ↓e132_19, ↓e132_22, ↓e132_23, ↓e132_24, ↓e132_27, ↓e132_30, ↓e132_31, ↓e132_32, ↓e132_35, ↓e132_36, ↓e132_39, ↓e132_41, ↓e132_42, ↓e132_45, ↓e132_46, ↓e132_49, ↓e132_51, ↓e132_53, ↓e132_54, ↓e132_55, ↓e132_56, ↓e132_57, ↓e132_60, ↓e132_61, ↓e132_62, ↓e132_65, ↓e132_68, ↓e132_69, ↓e132_72, ↓e132_74, ↓e132_75, ↓e132_76, ↓e132_78, ↓e132_79, ↓e132_81, ↓e132_84, ↓e132_85, ↓e132_88, ↓e132_91, ↓e132_93, ↓e132_94, ↓e132_95, ↓e132_98, ↓e132_101, ↓e132_104, ↓e132_107, znl_i, znl_r, znl_n, zcs_0, zcs_1, zcs_2, zcs_3, zcat_0, zcat_1, zcat_2, zcat_3, zbl_0, zbl_1, true_and, and_true, ↓zret_some, ↓zret_none, Nat.reduceAdd, Nat.reduceLeDiff, Nat.reduceMul, eq_self, Int.reduceToNat, Int.reduceLE, Int.reduceLT, Int.reduceNeg, and_self, zrg, zkc_0, zin_1, zin_2, zin_3, zin_4, zin_5, zin_6, zin_7, zin_8, zin_9, zaa_9, zkc_10, zin_11, zin_12, zkc_13, zin_14, zin_15, zkc_16, zin_17, zin_18, zkc_19, zin_20, zin_21, zin_22, zin_23, zin_24, zin_25, zin_26, zin_27, zin_28, zaa_28, zkc_29, zin_30, zin_31, zkc_32, zin_33, zin_34, zkc_35, zin_36, zin_37, zkc_38, zin_39, zin_40, zin_41, zin_42, zin_43, zin_44, zin_45, zin_46, zin_47, zaa_47, zkc_48, zin_49, zin_50, zkc_51, zin_52, zin_53, zkc_54, zin_55, zin_56, zkc_209, zkc_210, zin_211, zaa_211, zkc_212, zin_213, zkc_214, zkc_215, zin_216, zin_217, zkc_218, zin_219, zin_220, zin_221, zkc_222, zin_223, zaa_223, zin_224, zin_225, zkc_226, zin_227, zin_228, zin_229, zin_230, zin_231, zin_232, zkc_233, zin_234, zaa_234, zin_235, zin_236, zin_237, zin_238, zin_239, zin_240, zin_241, zin_242, zin_243, zin_244, zin_245, zin_246, zin_247, zin_248, zin_249, zin_250, zkc_251, zin_252, zin_253, zkc_374, zin_375, zin_376, zin_377, zin_378, zin_379, zin_380, zin_381, zin_382, zin_383, zin_384, zin_385, zin_386, zin_387, ↓ho, hcell, hc, ix3, ix4, e376, hfar]
            refine fin _ ⟨by omega, by omega⟩ ?_
            have hdm : dm S m s = dst (S 0) (plc S s).toNat c := by unfold dm; rw [hc, Int.toNat_natCast]
            unfold wo
            rw [hdm]
            by_cases z : dst (S 0) (plc S s).toNat c < 0
            · rw [if_pos z, if_neg (fun y => by omega)]
            · rw [if_neg z, if_pos ⟨hF, g3, by omega⟩]
          · rw [p2 (by simpa using g3), if_pos (by omega)]
            exact fin (-1) (by omega) (by rw [wz (Or.inr (by simpa using g3))]; rfl)
      · rw [show zb (isM S m) = 0 from if_neg g1, if_pos rfl]
        have hF : ¬ isF S m = true := fun z => g1 (by
          unfold isF at z
          have := (of_decide_eq_true z).2
          exact ⟨by omega, by omega, by simpa using this⟩)
        exact fin (-1) (by omega) (by rw [wz (Or.inl hF)]; rfl)
  have outer : ∀ q m : Nat, m + q = 10 → ∀ (N : zM) (w4 w5 : Option zV), (∀ b, b ≠ 381 → N b = M b) → (∀ i s : Nat, i < m → s < n → N 381 (10 * i + s) = wo S i s) → znl w4 → znl w5 →
      RT (Sp (d + 3)) 132 Q 7 [some (.inr (.inr 374)), some (.inl (n : Int)), some (.inl (ldr S)), some (.inl (m : Int)), w4, w5] [] N := by
    intro q
    induction q with
    | zero =>
      intro m hm N w4 w5 h1 h2 _ _
      obtain rfl : m = 10 := by omega
      rw [e132_7]
      simp only [↓e132, ↓e132_0, ↓e132_1, ↓e132_4, ↓e132_5, ↓e132_6, ↓e132_8, ↓e132_10, ↓e132_13, ↓e132_14, ↓e132_16, ↓e132_18, ↓e132_19, ↓e132_22, ↓e132_23, ↓e132_24, ↓e132_27, ↓e132_30, ↓e132_31, ↓e132_32, ↓e132_35, ↓e132_36, ↓e132_39, ↓e132_41, ↓e132_42, ↓e132_45, ↓e132_46, ↓e132_49, ↓e132_51, ↓e132_53, ↓e132_54, ↓e132_55, ↓e132_56, ↓e132_57, ↓e132_60, ↓e132_61, ↓e132_62, ↓e132_65, ↓e132_66, ↓e132_68, ↓e132_69, ↓e132_72, ↓e132_74, ↓e132_75, ↓e132_76, ↓e132_78, ↓e132_79, ↓e132_81, ↓e132_84, ↓e132_85, ↓e132_88, ↓e132_91, ↓e132_93, ↓e132_94, ↓e132_95, ↓e132_98, ↓e132_101, ↓e132_104, ↓e132_107, znl_i, znl_r, znl_n, zcs_0, zcs_1, zcs_2, zcs_3, zcat_0, zcat_1, zcat_2, zcat_3, zbl_0, zbl_1, true_and, and_true, ↓zret_some, ↓zret_none, Nat.reduceAdd, Nat.reduceLeDiff, Nat.reduceMul, eq_self, Int.reduceToNat, Int.reduceLE, Int.reduceLT, Int.reduceNeg, and_self, zrg]
      simp
      exact hQ N h1 h2
    | succ q ih =>
      intro m hm N w4 w5 h1 h2 h4 h5
      have hmr : -2147483648 ≤ (m : Int) ∧ (m : Int) < 2147483648 := ⟨by omega, by omega⟩
      have e1 : ¬ (m : Int) ≥ 10 := by omega
      have h9 := inner m (by omega) (fun N' w5' g1 g2 g3 => ih (m + 1) (by omega) N' _ w5' g1 g2 trivial g3) n 0 (by omega) N w5 h1 (fun i e i1 e1 hie => h2 i e (by omega) e1) h5
      rw [e132_7]
      simp only [↓e132, ↓e132_0, ↓e132_1, ↓e132_4, ↓e132_5, ↓e132_6, ↓e132_8, ↓e132_10, ↓e132_13, ↓e132_14, ↓e132_18, ↓e132_19, ↓e132_22, ↓e132_23, ↓e132_24, ↓e132_27, ↓e132_30, ↓e132_31, ↓e132_32, ↓e132_35, ↓e132_36, ↓e132_39, ↓e132_41, ↓e132_42, ↓e132_45, ↓e132_46, ↓e132_49, ↓e132_51, ↓e132_53, ↓e132_54, ↓e132_55, ↓e132_56, ↓e132_57, ↓e132_60, ↓e132_61, ↓e132_62, ↓e132_65, ↓e132_66, ↓e132_68, ↓e132_69, ↓e132_72, ↓e132_74, ↓e132_75, ↓e132_76, ↓e132_78, ↓e132_79, ↓e132_81, ↓e132_84, ↓e132_85, ↓e132_88, ↓e132_91, ↓e132_93, ↓e132_94, ↓e132_95, ↓e132_98, ↓e132_101, ↓e132_104, ↓e132_107, znl_i, znl_r, znl_n, zcs_0, zcs_1, zcs_2, zcs_3, zcat_0, zcat_1, zcat_2, zcat_3, zbl_0, zbl_1, true_and, and_true, ↓zret_some, ↓zret_none, Nat.reduceAdd, Nat.reduceLeDiff, Nat.reduceMul, eq_self, Int.reduceToNat, Int.reduceLE, Int.reduceLT, Int.reduceNeg, and_self, zrg, hmr, e1, ↓reduceIte, h4]
      exact h9
  have h9 := outer 10 0 rfl M none none (fun _ _ => rfl) (fun i s hi => absurd hi (Nat.not_lt_zero i)) trivial trivial
  simp only [↓e132, ↓e132_0, ↓e132_1, ↓e132_4, ↓e132_5, ↓e132_6, ↓e132_8, ↓e132_10, ↓e132_13, ↓e132_14, ↓e132_16, ↓e132_18, ↓e132_19, ↓e132_22, ↓e132_23, ↓e132_24, ↓e132_27, ↓e132_30, ↓e132_31, ↓e132_32, ↓e132_35, ↓e132_36, ↓e132_39, ↓e132_41, ↓e132_42, ↓e132_45, ↓e132_46, ↓e132_49, ↓e132_51, ↓e132_53, ↓e132_54, ↓e132_55, ↓e132_56, ↓e132_57, ↓e132_60, ↓e132_61, ↓e132_62, ↓e132_65, ↓e132_66, ↓e132_68, ↓e132_69, ↓e132_72, ↓e132_74, ↓e132_75, ↓e132_76, ↓e132_78, ↓e132_79, ↓e132_81, ↓e132_84, ↓e132_85, ↓e132_88, ↓e132_91, ↓e132_93, ↓e132_94, ↓e132_95, ↓e132_98, ↓e132_101, ↓e132_104, ↓e132_107, znl_i, znl_r, znl_n, zcs_0, zcs_1, zcs_2, zcs_3, zcat_0, zcat_1, zcat_2, zcat_3, zbl_0, zbl_1, true_and, and_true, ↓zret_some, ↓zret_none, Nat.reduceAdd, Nat.reduceLeDiff, Nat.reduceMul, eq_self, Int.reduceToNat, Int.reduceLE, Int.reduceLT, Int.reduceNeg, and_self, zkc_0, zin_1, zin_2, zin_3, zin_4, zin_5, zin_6, zin_7, zin_8, zin_9, zaa_9, zkc_10, zin_11, zin_12, zkc_13, zin_14, zin_15, zkc_16, zin_17, zin_18, zkc_19, zin_20, zin_21, zin_22, zin_23, zin_24, zin_25, zin_26, zin_27, zin_28, zaa_28, zkc_29, zin_30, zin_31, zkc_32, zin_33, zin_34, zkc_35, zin_36, zin_37, zkc_38, zin_39, zin_40, zin_41, zin_42, zin_43, zin_44, zin_45, zin_46, zin_47, zaa_47, zkc_48, zin_49, zin_50, zkc_51, zin_52, zin_53, zkc_54, zin_55, zin_56, zkc_209, zkc_210, zin_211, zaa_211, zkc_212, zin_213, zkc_214, zkc_215, zin_216, zin_217, zkc_218, zin_219, zin_220, zin_221, zkc_222, zin_223, zaa_223, zin_224, zin_225, zkc_226, zin_227, zin_228, zin_229, zin_230, zin_231, zin_232, zkc_233, zin_234, zaa_234, zin_235, zin_236, zin_237, zin_238, zin_239, zin_240, zin_241, zin_242, zin_243, zin_244, zin_245, zin_246, zin_247, zin_248, zin_249, zin_250, zkc_251, zin_252, zin_253, zkc_374, zin_375, zin_376, zin_377, zin_378, zin_379, zin_380, zin_381, zin_382, zin_383, zin_384, zin_385, zin_386, zin_387, ↓s_rLeader d _ M S hR hW]
  exact h9
