/-! ### the reference: its slot at o among 'all' (375) tells the abstract world S -/
def RelR (M : zM) (o : Nat) (S : zM) : Prop :=
  (M 375 o = S 7 7 ∧ M 375 (o + 1) = S 8 0 ∧ M 375 (o + 2) = S 8 1 ∧ M 375 (o + 3) = S 8 2) ∧
  (∀ k : Nat, k < 8 → k ≠ 5 → k ≠ 6 → M 375 (o + 4 + k) = S 7 k) ∧
  (∀ m : Nat, m < 10 → (m : Int) < S 7 7 → M 375 (o + 12 + 6 * m) = S 1 m ∧ M 375 (o + 12 + 6 * m + 1) = S 2 m ∧ M 375 (o + 12 + 6 * m + 2) = S 3 m ∧ M 375 (o + 12 + 6 * m + 3) = S 4 m ∧ M 375 (o + 12 + 6 * m + 4) = S 5 m ∧ M 375 (o + 12 + 6 * m + 5) = S 6 m) ∧
  (∀ c : Nat, c < 120 → M 375 (o + 72 + c) = S 0 c) ∧
  (∀ j : Nat, j < 3 → M 375 (o + 192 + 22 * j) = S (9 + j) 0 ∧ (0 < S (9 + j) 0 → M 375 (o + 193 + 22 * j) = S (9 + j) 1) ∧
    ∀ s : Nat, (s : Int) < S (9 + j) 0 → M 375 (o + 194 + 22 * j + 2 * s) = S (12 + j) s ∧ M 375 (o + 195 + 22 * j + 2 * s) = S (15 + j) s)
theorem s_in (d : Nat) (Q : zQ) (M : zM) (x lo hi : Int) (h1 : zrg x) (h2 : zrg lo) (h3 : zrg hi) : Sp (d + 1) 111 [.inl x, .inl lo, .inl hi] M Q = Q (some (.inl (zb (lo ≤ x ∧ x ≤ hi)))) M := by
  simp only [↓e111, ↓e111_0, ↓e111_1, ↓e111_2, ↓e111_5, ↓e111_6, ↓e111_7, ↓e111_10, ↓e111_11, ↓e111_14, ↓e111_15, znl_i, znl_r, znl_n, zcs_0, zcs_1, zcs_2, zcs_3, zcat_0, zcat_1, zcat_2, zcat_3, zbl_0, zbl_1, true_and, and_true, ↓zret_some, ↓zret_none, Nat.reduceAdd, Nat.reduceLeDiff, Nat.reduceMul, eq_self, Int.reduceToNat, zrg, zb] at h1 h2 h3 ⊢
  grind
theorem s_rIsCell (d : Nat) (Q : zQ) (M : zM) (c : Int) (h1 : zrg c) : Sp (d + 2) 117 [.inl c] M Q = Q (some (.inl (zb (0 ≤ c ∧ c < 120)))) M := by
  have e : (0 ≤ c ∧ c ≤ 119) ↔ (0 ≤ c ∧ c < 120) := ⟨fun h => ⟨h.1, by omega⟩, fun h => ⟨h.1, by omega⟩⟩
  have hb : zbl (zb (0 ≤ c ∧ c < 120)) := by unfold zb zbl; split <;> simp
  simp only [↓e117, ↓e117_0, ↓e117_1, ↓e117_2, ↓e117_4, ↓e117_7, znl_i, znl_r, znl_n, zcs_0, zcs_1, zcs_2, zcs_3, zcat_0, zcat_1, zcat_2, zcat_3, zbl_0, zbl_1, true_and, and_true, ↓zret_some, ↓zret_none, Nat.reduceAdd, Nat.reduceLeDiff, Nat.reduceMul, eq_self, Int.reduceToNat, ↓s_in d _ M c 0 119 h1 ⟨by omega, by omega⟩ ⟨by omega, by omega⟩, zb, e]
  simp only [zb] at hb
  simp [hb]
theorem s_of (d : Nat) (Q : zQ) (M : zM) (m p : Nat) (hm : m < 10) (hp : p < 6) : Sp (d + 1) 114 [.inr (.inr 374), .inl (m : Int), .inl (p : Int)] M Q = Q (some (.inl (M 375 (12 + 6 * m + p)))) M := by
  have e1 : (12 + 6 * (m : Int) + p).toNat = 12 + 6 * m + p := by omega
  have e2 : 0 ≤ 12 + 6 * (m : Int) + p ∧ 12 + 6 * (m : Int) + p < 2838 := ⟨by omega, by omega⟩
  simp only [↓e114, ↓e114_0, ↓e114_1, ↓e114_4, ↓e114_6, ↓e114_8, ↓e114_9, ↓e114_10, ↓e114_11, ↓e114_12, ↓e114_13, ↓e114_14, znl_i, znl_r, znl_n, zcs_0, zcs_1, zcs_2, zcs_3, zcat_0, zcat_1, zcat_2, zcat_3, zbl_0, zbl_1, true_and, and_true, ↓zret_some, ↓zret_none, Nat.reduceAdd, Nat.reduceLeDiff, Nat.reduceMul, eq_self, Int.reduceToNat, zkc_0, zin_1, zin_2, zin_3, zin_4, zin_5, zin_6, zin_7, zin_8, zin_9, zaa_9, zkc_10, zin_11, zin_12, zkc_13, zin_14, zin_15, zkc_16, zin_17, zin_18, zkc_19, zin_20, zin_21, zin_22, zin_23, zin_24, zin_25, zin_26, zin_27, zin_28, zaa_28, zkc_29, zin_30, zin_31, zkc_32, zin_33, zin_34, zkc_35, zin_36, zin_37, zkc_38, zin_39, zin_40, zin_41, zin_42, zin_43, zin_44, zin_45, zin_46, zin_47, zaa_47, zkc_48, zin_49, zin_50, zkc_51, zin_52, zin_53, zkc_54, zin_55, zin_56, zkc_209, zkc_210, zin_211, zaa_211, zkc_212, zin_213, zkc_214, zkc_215, zin_216, zin_217, zkc_218, zin_219, zin_220, zin_221, zkc_222, zin_223, zaa_223, zin_224, zin_225, zkc_226, zin_227, zin_228, zin_229, zin_230, zin_231, zin_232, zkc_233, zin_234, zaa_234, zin_235, zin_236, zin_237, zin_238, zin_239, zin_240, zin_241, zin_242, zin_243, zin_244, zin_245, zin_246, zin_247, zin_248, zin_249, zin_250, zkc_251, zin_252, zin_253, zkc_374, zin_375, zin_376, zin_377, zin_378, zin_379, zin_380, zin_381, zin_382, zin_383, zin_384, zin_385, zin_386, zin_387, e1, e2]
theorem s_lays (d : Nat) (Q : zQ) (M : zM) (m p : Nat) (v : Int) (hm : m < 10) (hp : p < 6) : Sp (d + 1) 115 [.inr (.inr 374), .inl (m : Int), .inl (p : Int), .inl v] M Q = Q none (zup M 375 (12 + 6 * m + p) v) := by
  have e1 : (12 + 6 * (m : Int) + p).toNat = 12 + 6 * m + p := by omega
  have e2 : 0 ≤ 12 + 6 * (m : Int) + p ∧ 12 + 6 * (m : Int) + p < 2838 := ⟨by omega, by omega⟩
  simp only [↓e115, ↓e115_0, ↓e115_1, ↓e115_4, ↓e115_6, ↓e115_8, ↓e115_9, ↓e115_10, ↓e115_11, ↓e115_12, ↓e115_13, ↓e115_14, ↓e115_15, znl_i, znl_r, znl_n, zcs_0, zcs_1, zcs_2, zcs_3, zcat_0, zcat_1, zcat_2, zcat_3, zbl_0, zbl_1, true_and, and_true, ↓zret_some, ↓zret_none, Nat.reduceAdd, Nat.reduceLeDiff, Nat.reduceMul, eq_self, Int.reduceToNat, zkc_0, zin_1, zin_2, zin_3, zin_4, zin_5, zin_6, zin_7, zin_8, zin_9, zaa_9, zkc_10, zin_11, zin_12, zkc_13, zin_14, zin_15, zkc_16, zin_17, zin_18, zkc_19, zin_20, zin_21, zin_22, zin_23, zin_24, zin_25, zin_26, zin_27, zin_28, zaa_28, zkc_29, zin_30, zin_31, zkc_32, zin_33, zin_34, zkc_35, zin_36, zin_37, zkc_38, zin_39, zin_40, zin_41, zin_42, zin_43, zin_44, zin_45, zin_46, zin_47, zaa_47, zkc_48, zin_49, zin_50, zkc_51, zin_52, zin_53, zkc_54, zin_55, zin_56, zkc_209, zkc_210, zin_211, zaa_211, zkc_212, zin_213, zkc_214, zkc_215, zin_216, zin_217, zkc_218, zin_219, zin_220, zin_221, zkc_222, zin_223, zaa_223, zin_224, zin_225, zkc_226, zin_227, zin_228, zin_229, zin_230, zin_231, zin_232, zkc_233, zin_234, zaa_234, zin_235, zin_236, zin_237, zin_238, zin_239, zin_240, zin_241, zin_242, zin_243, zin_244, zin_245, zin_246, zin_247, zin_248, zin_249, zin_250, zkc_251, zin_252, zin_253, zkc_374, zin_375, zin_376, zin_377, zin_378, zin_379, zin_380, zin_381, zin_382, zin_383, zin_384, zin_385, zin_386, zin_387, e1, e2]
theorem s_isMember (d : Nat) (Q : zQ) (M S : zM) (m : Int) (hR : RelR M 0 S) (hW : WfS S) (hm : zrg m) : Sp (d + 2) 116 [.inr (.inr 374), .inl m] M Q = Q (some (.inl (zb (isM S m)))) M := by
  have h77 := hW.2.2.2.2.2.1
  have r0 : M 375 0 = S 7 7 := hR.1.1
  have z1 : zrg (S 7 7 - 1) := ⟨by omega, by omega⟩
  simp only [↓e116, ↓e116_0, ↓e116_1, ↓e116_2, ↓e116_3, ↓e116_6, ↓e116_7, ↓e116_8, ↓e116_9, ↓e116_10, ↓e116_13, ↓e116_16, ↓e116_17, ↓e116_18, ↓e116_19, ↓e116_22, ↓e116_25, ↓e116_26, ↓e116_29, ↓e116_30, znl_i, znl_r, znl_n, zcs_0, zcs_1, zcs_2, zcs_3, zcat_0, zcat_1, zcat_2, zcat_3, zbl_0, zbl_1, true_and, and_true, ↓zret_some, ↓zret_none, Nat.reduceAdd, Nat.reduceLeDiff, Nat.reduceMul, eq_self, Int.reduceToNat, zkc_0, zin_1, zin_2, zin_3, zin_4, zin_5, zin_6, zin_7, zin_8, zin_9, zaa_9, zkc_10, zin_11, zin_12, zkc_13, zin_14, zin_15, zkc_16, zin_17, zin_18, zkc_19, zin_20, zin_21, zin_22, zin_23, zin_24, zin_25, zin_26, zin_27, zin_28, zaa_28, zkc_29, zin_30, zin_31, zkc_32, zin_33, zin_34, zkc_35, zin_36, zin_37, zkc_38, zin_39, zin_40, zin_41, zin_42, zin_43, zin_44, zin_45, zin_46, zin_47, zaa_47, zkc_48, zin_49, zin_50, zkc_51, zin_52, zin_53, zkc_54, zin_55, zin_56, zkc_209, zkc_210, zin_211, zaa_211, zkc_212, zin_213, zkc_214, zkc_215, zin_216, zin_217, zkc_218, zin_219, zin_220, zin_221, zkc_222, zin_223, zaa_223, zin_224, zin_225, zkc_226, zin_227, zin_228, zin_229, zin_230, zin_231, zin_232, zkc_233, zin_234, zaa_234, zin_235, zin_236, zin_237, zin_238, zin_239, zin_240, zin_241, zin_242, zin_243, zin_244, zin_245, zin_246, zin_247, zin_248, zin_249, zin_250, zkc_251, zin_252, zin_253, zkc_374, zin_375, zin_376, zin_377, zin_378, zin_379, zin_380, zin_381, zin_382, zin_383, zin_384, zin_385, zin_386, zin_387, r0, zrg, ↓s_in d _ M m 0 (S 7 7 - 1) hm ⟨by omega, by omega⟩ z1, zb]
  by_cases h1 : 0 ≤ m ∧ m ≤ S 7 7 - 1
  · obtain ⟨n, rfl⟩ : ∃ n : Nat, m = n := ⟨m.toNat, by omega⟩
    have h2 := (hR.2.2.1 n (by omega) (by omega)).1
    have h3 := hW.2.1 n (by omega)
    simp only [Nat.zero_add] at h2
    have h4 := s_of d (fun r M1 => zret (Sp (d + 1)) 116 Q 22 [some (.inr (.inr 374)), some (.inl (n : Int))] [] r M1) M n 0 (by omega) (by omega)
    simp only [Int.natCast_zero, Nat.add_zero, h2] at h4
    simp [h1, h4]
    simp only [↓e116, ↓e116_0, ↓e116_1, ↓e116_2, ↓e116_3, ↓e116_6, ↓e116_7, ↓e116_8, ↓e116_9, ↓e116_10, ↓e116_13, ↓e116_16, ↓e116_17, ↓e116_18, ↓e116_19, ↓e116_22, ↓e116_25, ↓e116_26, ↓e116_29, ↓e116_30, znl_i, znl_r, znl_n, zcs_0, zcs_1, zcs_2, zcs_3, zcat_0, zcat_1, zcat_2, zcat_3, zbl_0, zbl_1, true_and, and_true, ↓zret_some, ↓zret_none, Nat.reduceAdd, Nat.reduceLeDiff, Nat.reduceMul, eq_self, Int.reduceToNat, zrg, isM, Int.toNat_natCast]
    grind
  · have h4 : ¬ isM S m := fun q => by
      have h5 := hW.2.2.1 m.toNat (by omega)
      have := q.2.2
      by_cases z : S 7 7 ≤ m.toNat
      · have := (h5 z).1; omega
      · exact h1 ⟨q.1, by omega⟩
    simp [h1, h4]
theorem s_isBlocked (d : Nat) (Q : zQ) (M : zM) (S : zM) (c : Nat) (hc : c < 120) (hR : RelR M 0 S) (hW : WfS S) : Sp (d + 1) 118 [.inr (.inr 374), .inl (c : Int)] M Q = Q (some (.inl (S 0 c))) M := by
  have e1 : (72 + (c : Int)).toNat = 72 + c := by omega
  have e2 : 0 ≤ 72 + (c : Int) ∧ 72 + (c : Int) < 2838 := ⟨by omega, by omega⟩
  have h1 := hR.2.2.2.1 c hc
  simp only [Nat.zero_add] at h1
  have h2 := hW.1 c hc
  simp only [↓e118, ↓e118_0, ↓e118_1, ↓e118_4, ↓e118_6, ↓e118_7, ↓e118_8, ↓e118_9, ↓e118_10, ↓e118_13, ↓e118_14, ↓e118_17, ↓e118_18, znl_i, znl_r, znl_n, zcs_0, zcs_1, zcs_2, zcs_3, zcat_0, zcat_1, zcat_2, zcat_3, zbl_0, zbl_1, true_and, and_true, ↓zret_some, ↓zret_none, Nat.reduceAdd, Nat.reduceLeDiff, Nat.reduceMul, eq_self, Int.reduceToNat, zkc_0, zin_1, zin_2, zin_3, zin_4, zin_5, zin_6, zin_7, zin_8, zin_9, zaa_9, zkc_10, zin_11, zin_12, zkc_13, zin_14, zin_15, zkc_16, zin_17, zin_18, zkc_19, zin_20, zin_21, zin_22, zin_23, zin_24, zin_25, zin_26, zin_27, zin_28, zaa_28, zkc_29, zin_30, zin_31, zkc_32, zin_33, zin_34, zkc_35, zin_36, zin_37, zkc_38, zin_39, zin_40, zin_41, zin_42, zin_43, zin_44, zin_45, zin_46, zin_47, zaa_47, zkc_48, zin_49, zin_50, zkc_51, zin_52, zin_53, zkc_54, zin_55, zin_56, zkc_209, zkc_210, zin_211, zaa_211, zkc_212, zin_213, zkc_214, zkc_215, zin_216, zin_217, zkc_218, zin_219, zin_220, zin_221, zkc_222, zin_223, zaa_223, zin_224, zin_225, zkc_226, zin_227, zin_228, zin_229, zin_230, zin_231, zin_232, zkc_233, zin_234, zaa_234, zin_235, zin_236, zin_237, zin_238, zin_239, zin_240, zin_241, zin_242, zin_243, zin_244, zin_245, zin_246, zin_247, zin_248, zin_249, zin_250, zkc_251, zin_252, zin_253, zkc_374, zin_375, zin_376, zin_377, zin_378, zin_379, zin_380, zin_381, zin_382, zin_383, zin_384, zin_385, zin_386, zin_387, e1, e2, h1, zrg]
  rcases h2 with h2 | h2 <;> simp [h2]
def nbR (c k : Int) : Int := if 0 ≤ nb c k then nb c k else -1
theorem s_beside (d : Nat) (Q : zQ) (M : zM) (c k : Int) (hc : 0 ≤ c ∧ c < 120) (hk : 0 ≤ k ∧ k < 4) : Sp (d + 2) 123 [.inl c, .inl k] M Q = Q (some (.inl (nbR c k))) M := by
  have hx : ∀ x : Int, -1 ≤ x ∧ x ≤ 20 → zrg x := fun x h => ⟨by omega, by omega⟩
  have r1 : zrg c := ⟨by omega, by omega⟩
  have r2 : zrg k := ⟨by omega, by omega⟩
  have h4 : k = 0 ∨ k = 1 ∨ k = 2 ∨ k = 3 := by omega
  have m1 : 0 ≤ c % 12 ∧ c % 12 < 12 := by omega
  have m2 : 0 ≤ c / 12 ∧ c / 12 < 10 := by omega
  have a1 : zrg (c % 12 + 1) := hx _ (by omega)
  have a2 : zrg (c / 12 + 0) := hx _ (by omega)
  have a3 : zrg (c % 12 + 0) := hx _ (by omega)
  have a4 : zrg (c / 12 + 1) := hx _ (by omega)
  have a5 : zrg (c % 12 + -1) := hx _ (by omega)
  have a6 : zrg (c / 12 + -1) := hx _ (by omega)
  have zz : ∀ p : Prop, [Decidable p] → -2147483648 ≤ zb p ∧ zb p < 2147483648 := fun p _ => by unfold zb; split <;> omega
  rcases h4 with rfl | rfl | rfl | rfl
  · simp only [↓e123, ↓e123_0, ↓e123_1, ↓e123_3, ↓e123_4, ↓e123_5, ↓e123_8, ↓e123_9, ↓e123_12, ↓e123_13, ↓e123_14, ↓e123_17, ↓e123_18, ↓e123_21, ↓e123_22, ↓e123_23, ↓e123_24, ↓e123_25, ↓e123_27, ↓e123_28, ↓e123_29, ↓e123_30, ↓e123_33, ↓e123_34, ↓e123_37, ↓e123_38, ↓e123_39, ↓e123_42, ↓e123_43, ↓e123_46, ↓e123_47, ↓e123_48, ↓e123_49, ↓e123_50, ↓e123_51, ↓e123_53, ↓e123_56, ↓e123_59, ↓e123_60, ↓e123_61, ↓e123_63, ↓e123_66, ↓e123_69, ↓e123_71, ↓e123_72, ↓e123_73, ↓e123_74, ↓e123_75, ↓e123_78, ↓e123_79, znl_i, znl_r, znl_n, zcs_0, zcs_1, zcs_2, zcs_3, zcat_0, zcat_1, zcat_2, zcat_3, zbl_0, zbl_1, true_and, and_true, ↓zret_some, ↓zret_none, Nat.reduceAdd, Nat.reduceLeDiff, Nat.reduceMul, eq_self, Int.reduceToNat, zrg, hc, r1.1, r1.2, ↓s_in d _ M (c % 12 + 1) 0 11 a1 (hx _ (by omega)) (hx _ (by omega)), ↓s_in d _ M (c / 12 + 0) 0 9 a2 (hx _ (by omega)) (hx _ (by omega)), zb, nbR, nb]
    grind
  · simp only [↓e123, ↓e123_0, ↓e123_1, ↓e123_3, ↓e123_4, ↓e123_5, ↓e123_8, ↓e123_9, ↓e123_12, ↓e123_13, ↓e123_14, ↓e123_17, ↓e123_18, ↓e123_21, ↓e123_22, ↓e123_23, ↓e123_24, ↓e123_25, ↓e123_27, ↓e123_28, ↓e123_29, ↓e123_30, ↓e123_33, ↓e123_34, ↓e123_37, ↓e123_38, ↓e123_39, ↓e123_42, ↓e123_43, ↓e123_46, ↓e123_47, ↓e123_48, ↓e123_49, ↓e123_50, ↓e123_51, ↓e123_53, ↓e123_56, ↓e123_59, ↓e123_60, ↓e123_61, ↓e123_63, ↓e123_66, ↓e123_69, ↓e123_71, ↓e123_72, ↓e123_73, ↓e123_74, ↓e123_75, ↓e123_78, ↓e123_79, znl_i, znl_r, znl_n, zcs_0, zcs_1, zcs_2, zcs_3, zcat_0, zcat_1, zcat_2, zcat_3, zbl_0, zbl_1, true_and, and_true, ↓zret_some, ↓zret_none, Nat.reduceAdd, Nat.reduceLeDiff, Nat.reduceMul, eq_self, Int.reduceToNat, zrg, hc, r1.1, r1.2, ↓s_in d _ M (c % 12 + 0) 0 11 a3 (hx _ (by omega)) (hx _ (by omega)), ↓s_in d _ M (c / 12 + 1) 0 9 a4 (hx _ (by omega)) (hx _ (by omega)), zb, nbR, nb]
    grind
  · simp only [↓e123, ↓e123_0, ↓e123_1, ↓e123_3, ↓e123_4, ↓e123_5, ↓e123_8, ↓e123_9, ↓e123_12, ↓e123_13, ↓e123_14, ↓e123_17, ↓e123_18, ↓e123_21, ↓e123_22, ↓e123_23, ↓e123_24, ↓e123_25, ↓e123_27, ↓e123_28, ↓e123_29, ↓e123_30, ↓e123_33, ↓e123_34, ↓e123_37, ↓e123_38, ↓e123_39, ↓e123_42, ↓e123_43, ↓e123_46, ↓e123_47, ↓e123_48, ↓e123_49, ↓e123_50, ↓e123_51, ↓e123_53, ↓e123_56, ↓e123_59, ↓e123_60, ↓e123_61, ↓e123_63, ↓e123_66, ↓e123_69, ↓e123_71, ↓e123_72, ↓e123_73, ↓e123_74, ↓e123_75, ↓e123_78, ↓e123_79, znl_i, znl_r, znl_n, zcs_0, zcs_1, zcs_2, zcs_3, zcat_0, zcat_1, zcat_2, zcat_3, zbl_0, zbl_1, true_and, and_true, ↓zret_some, ↓zret_none, Nat.reduceAdd, Nat.reduceLeDiff, Nat.reduceMul, eq_self, Int.reduceToNat, zrg, hc, r1.1, r1.2, ↓s_in d _ M (c % 12 + -1) 0 11 a5 (hx _ (by omega)) (hx _ (by omega)), ↓s_in d _ M (c / 12 + 0) 0 9 a2 (hx _ (by omega)) (hx _ (by omega)), zb, nbR, nb]
    grind
  · simp only [↓e123, ↓e123_0, ↓e123_1, ↓e123_3, ↓e123_4, ↓e123_5, ↓e123_8, ↓e123_9, ↓e123_12, ↓e123_13, ↓e123_14, ↓e123_17, ↓e123_18, ↓e123_21, ↓e123_22, ↓e123_23, ↓e123_24, ↓e123_25, ↓e123_27, ↓e123_28, ↓e123_29, ↓e123_30, ↓e123_33, ↓e123_34, ↓e123_37, ↓e123_38, ↓e123_39, ↓e123_42, ↓e123_43, ↓e123_46, ↓e123_47, ↓e123_48, ↓e123_49, ↓e123_50, ↓e123_51, ↓e123_53, ↓e123_56, ↓e123_59, ↓e123_60, ↓e123_61, ↓e123_63, ↓e123_66, ↓e123_69, ↓e123_71, ↓e123_72, ↓e123_73, ↓e123_74, ↓e123_75, ↓e123_78, ↓e123_79, znl_i, znl_r, znl_n, zcs_0, zcs_1, zcs_2, zcs_3, zcat_0, zcat_1, zcat_2, zcat_3, zbl_0, zbl_1, true_and, and_true, ↓zret_some, ↓zret_none, Nat.reduceAdd, Nat.reduceLeDiff, Nat.reduceMul, eq_self, Int.reduceToNat, zrg, hc, r1.1, r1.2, ↓s_in d _ M (c % 12 + 0) 0 11 a3 (hx _ (by omega)) (hx _ (by omega)), ↓s_in d _ M (c / 12 + -1) 0 9 a6 (hx _ (by omega)) (hx _ (by omega)), zb, nbR, nb]
    grind
theorem s_on (d : Nat) (Q : zQ) (M S : zM) (c : Int) (hR : RelR M 0 S) (hW : WfS S) (hc : 0 ≤ c ∧ c < 120) : Sp (d + 3) 120 [.inr (.inr 374), .inl c] M Q = Q (some (.inl (onS S c))) M := by
  have hcr : -2147483648 ≤ c ∧ c < 2147483648 := by omega
  have loop : ∀ n k : Nat, k + n = 10 → RT (Sp (d + 2)) 120 Q 2 [some (.inr (.inr 374)), some (.inl c), some (.inl (k : Int))] [] M = Q (some (.inl (zfst (fun m => decide (S 1 m = c)) n k))) M := by
    intro n
    induction n with
    | zero =>
      intro k hk
      obtain rfl : k = 10 := by omega
      simp only [↓e120, ↓e120_0, ↓e120_1, ↓e120_2, ↓e120_3, ↓e120_5, ↓e120_8, ↓e120_9, ↓e120_10, ↓e120_13, ↓e120_16, ↓e120_17, ↓e120_18, ↓e120_19, ↓e120_22, ↓e120_23, ↓e120_26, ↓e120_27, ↓e120_28, ↓e120_31, ↓e120_34, ↓e120_35, znl_i, znl_r, znl_n, zcs_0, zcs_1, zcs_2, zcs_3, zcat_0, zcat_1, zcat_2, zcat_3, zbl_0, zbl_1, true_and, and_true, ↓zret_some, ↓zret_none, Nat.reduceAdd, Nat.reduceLeDiff, Nat.reduceMul, eq_self, Int.reduceToNat, zrg, zfst]
      simp
    | succ n ih =>
      intro k hk
      have hz : zrg (k : Int) := ⟨by omega, by omega⟩
      have h1 := ih (k + 1) (by omega)
      have hzz : -2147483648 ≤ zb (isM S k) ∧ zb (isM S k) < 2147483648 := by unfold zb; split <;> omega
      have h4 := s_of (d + 1) (fun r M1 => zret (Sp (d + 2)) 120 Q 22 [some (.inr (.inr 374)), some (.inl c), some (.inl (k : Int))] [] r M1) M k 0 (by omega) (by omega)
      simp only [Int.natCast_zero, Nat.add_zero] at h4
      have e1 : ¬ (k : Int) ≥ 10 := by omega
      rw [e120_2]
      simp only [↓e120, ↓e120_0, ↓e120_1, ↓e120_3, ↓e120_5, ↓e120_8, ↓e120_9, ↓e120_10, ↓e120_13, ↓e120_16, ↓e120_17, ↓e120_18, ↓e120_19, ↓e120_23, ↓e120_26, ↓e120_27, ↓e120_28, ↓e120_31, ↓e120_34, ↓e120_35, znl_i, znl_r, znl_n, zcs_0, zcs_1, zcs_2, zcs_3, zcat_0, zcat_1, zcat_2, zcat_3, zbl_0, zbl_1, true_and, and_true, ↓zret_some, ↓zret_none, Nat.reduceAdd, Nat.reduceLeDiff, Nat.reduceMul, eq_self, Int.reduceToNat, zrg, zkc_0, zin_1, zin_2, zin_3, zin_4, zin_5, zin_6, zin_7, zin_8, zin_9, zaa_9, zkc_10, zin_11, zin_12, zkc_13, zin_14, zin_15, zkc_16, zin_17, zin_18, zkc_19, zin_20, zin_21, zin_22, zin_23, zin_24, zin_25, zin_26, zin_27, zin_28, zaa_28, zkc_29, zin_30, zin_31, zkc_32, zin_33, zin_34, zkc_35, zin_36, zin_37, zkc_38, zin_39, zin_40, zin_41, zin_42, zin_43, zin_44, zin_45, zin_46, zin_47, zaa_47, zkc_48, zin_49, zin_50, zkc_51, zin_52, zin_53, zkc_54, zin_55, zin_56, zkc_209, zkc_210, zin_211, zaa_211, zkc_212, zin_213, zkc_214, zkc_215, zin_216, zin_217, zkc_218, zin_219, zin_220, zin_221, zkc_222, zin_223, zaa_223, zin_224, zin_225, zkc_226, zin_227, zin_228, zin_229, zin_230, zin_231, zin_232, zkc_233, zin_234, zaa_234, zin_235, zin_236, zin_237, zin_238, zin_239, zin_240, zin_241, zin_242, zin_243, zin_244, zin_245, zin_246, zin_247, zin_248, zin_249, zin_250, zkc_251, zin_252, zin_253, zkc_374, zin_375, zin_376, zin_377, zin_378, zin_379, zin_380, zin_381, zin_382, zin_383, zin_384, zin_385, zin_386, zin_387, ↓s_isMember d _ M S k hR hW hz, hz.1, hz.2, e1, ↓reduceIte, hzz]
      rw [h4]
      simp only [↓e120, ↓e120_0, ↓e120_1, ↓e120_3, ↓e120_5, ↓e120_8, ↓e120_9, ↓e120_10, ↓e120_13, ↓e120_16, ↓e120_17, ↓e120_18, ↓e120_19, ↓e120_22, ↓e120_23, ↓e120_26, ↓e120_27, ↓e120_28, ↓e120_31, ↓e120_34, ↓e120_35, znl_i, znl_r, znl_n, zcs_0, zcs_1, zcs_2, zcs_3, zcat_0, zcat_1, zcat_2, zcat_3, zbl_0, zbl_1, true_and, and_true, ↓zret_some, ↓zret_none, Nat.reduceAdd, Nat.reduceLeDiff, Nat.reduceMul, eq_self, Int.reduceToNat, zrg, zkc_0, zin_1, zin_2, zin_3, zin_4, zin_5, zin_6, zin_7, zin_8, zin_9, zaa_9, zkc_10, zin_11, zin_12, zkc_13, zin_14, zin_15, zkc_16, zin_17, zin_18, zkc_19, zin_20, zin_21, zin_22, zin_23, zin_24, zin_25, zin_26, zin_27, zin_28, zaa_28, zkc_29, zin_30, zin_31, zkc_32, zin_33, zin_34, zkc_35, zin_36, zin_37, zkc_38, zin_39, zin_40, zin_41, zin_42, zin_43, zin_44, zin_45, zin_46, zin_47, zaa_47, zkc_48, zin_49, zin_50, zkc_51, zin_52, zin_53, zkc_54, zin_55, zin_56, zkc_209, zkc_210, zin_211, zaa_211, zkc_212, zin_213, zkc_214, zkc_215, zin_216, zin_217, zkc_218, zin_219, zin_220, zin_221, zkc_222, zin_223, zaa_223, zin_224, zin_225, zkc_226, zin_227, zin_228, zin_229, zin_230, zin_231, zin_232, zkc_233, zin_234, zaa_234, zin_235, zin_236, zin_237, zin_238, zin_239, zin_240, zin_241, zin_242, zin_243, zin_244, zin_245, zin_246, zin_247, zin_248, zin_249, zin_250, zkc_251, zin_252, zin_253, zkc_374, zin_375, zin_376, zin_377, zin_378, zin_379, zin_380, zin_381, zin_382, zin_383, zin_384, zin_385, zin_386, zin_387, hcr, hz.1, hz.2, e1, ↓reduceIte]
      rw [show ((k : Int) + 1) = ((k + 1 : Nat) : Int) by omega, h1]
      have h5 := hW.2.1 k (by omega)
      have h7 := hW.2.2.1 k (by omega)
      have h6 : (k : Int) < S 7 7 → M 375 (12 + 6 * k) = S 1 k := fun q => by
        have := (hR.2.2.1 k (by omega) q).1
        simpa using this
      unfold zb
      simp only [zfst, isM, Int.toNat_natCast, decide_eq_true_eq]
      grind
  simp only [↓e120, ↓e120_0, ↓e120_1, ↓e120_3, ↓e120_5, ↓e120_8, ↓e120_9, ↓e120_10, ↓e120_13, ↓e120_16, ↓e120_17, ↓e120_18, ↓e120_19, ↓e120_22, ↓e120_23, ↓e120_26, ↓e120_27, ↓e120_28, ↓e120_31, ↓e120_34, ↓e120_35, znl_i, znl_r, znl_n, zcs_0, zcs_1, zcs_2, zcs_3, zcat_0, zcat_1, zcat_2, zcat_3, zbl_0, zbl_1, true_and, and_true, ↓zret_some, ↓zret_none, Nat.reduceAdd, Nat.reduceLeDiff, Nat.reduceMul, eq_self, Int.reduceToNat]
  exact loop 10 0 rfl
theorem s_rLeader (d : Nat) (Q : zQ) (M S : zM) (hR : RelR M 0 S) (hW : WfS S) : Sp (d + 3) 121 [.inr (.inr 374)] M Q = Q (some (.inl (ldr S))) M := by
  have loop : ∀ n k : Nat, k + n = 10 → RT (Sp (d + 2)) 121 Q 31 [some (.inr (.inr 374)), some (.inl (k : Int))] [] M = Q (some (.inl (zfst (fun m => decide (0 ≤ S 1 m)) n k))) M := by
    intro n
    induction n with
    | zero =>
      intro k hk
      obtain rfl : k = 10 := by omega
      simp only [↓e121, ↓e121_0, ↓e121_1, ↓e121_4, ↓e121_5, ↓e121_6, ↓e121_9, ↓e121_10, ↓e121_11, ↓e121_14, ↓e121_15, ↓e121_16, ↓e121_19, ↓e121_22, ↓e121_23, ↓e121_26, ↓e121_27, ↓e121_28, ↓e121_29, ↓e121_30, ↓e121_31, ↓e121_32, ↓e121_34, ↓e121_37, ↓e121_38, ↓e121_39, ↓e121_42, ↓e121_45, ↓e121_46, ↓e121_47, ↓e121_50, ↓e121_53, ↓e121_54, znl_i, znl_r, znl_n, zcs_0, zcs_1, zcs_2, zcs_3, zcat_0, zcat_1, zcat_2, zcat_3, zbl_0, zbl_1, true_and, and_true, ↓zret_some, ↓zret_none, Nat.reduceAdd, Nat.reduceLeDiff, Nat.reduceMul, eq_self, Int.reduceToNat, zrg, zfst]
      simp
    | succ n ih =>
      intro k hk
      have hz : zrg (k : Int) := ⟨by omega, by omega⟩
      have h1 := ih (k + 1) (by omega)
      have hzz : -2147483648 ≤ zb (isM S k) ∧ zb (isM S k) < 2147483648 := by unfold zb; split <;> omega
      have e1 : ¬ (k : Int) ≥ 10 := by omega
      rw [e121_31]
      simp only [↓e121, ↓e121_0, ↓e121_1, ↓e121_4, ↓e121_5, ↓e121_6, ↓e121_9, ↓e121_10, ↓e121_11, ↓e121_14, ↓e121_15, ↓e121_16, ↓e121_19, ↓e121_22, ↓e121_23, ↓e121_26, ↓e121_27, ↓e121_28, ↓e121_29, ↓e121_30, ↓e121_32, ↓e121_34, ↓e121_37, ↓e121_38, ↓e121_39, ↓e121_42, ↓e121_45, ↓e121_46, ↓e121_47, ↓e121_50, ↓e121_53, ↓e121_54, znl_i, znl_r, znl_n, zcs_0, zcs_1, zcs_2, zcs_3, zcat_0, zcat_1, zcat_2, zcat_3, zbl_0, zbl_1, true_and, and_true, ↓zret_some, ↓zret_none, Nat.reduceAdd, Nat.reduceLeDiff, Nat.reduceMul, eq_self, Int.reduceToNat, zrg, zkc_0, zin_1, zin_2, zin_3, zin_4, zin_5, zin_6, zin_7, zin_8, zin_9, zaa_9, zkc_10, zin_11, zin_12, zkc_13, zin_14, zin_15, zkc_16, zin_17, zin_18, zkc_19, zin_20, zin_21, zin_22, zin_23, zin_24, zin_25, zin_26, zin_27, zin_28, zaa_28, zkc_29, zin_30, zin_31, zkc_32, zin_33, zin_34, zkc_35, zin_36, zin_37, zkc_38, zin_39, zin_40, zin_41, zin_42, zin_43, zin_44, zin_45, zin_46, zin_47, zaa_47, zkc_48, zin_49, zin_50, zkc_51, zin_52, zin_53, zkc_54, zin_55, zin_56, zkc_209, zkc_210, zin_211, zaa_211, zkc_212, zin_213, zkc_214, zkc_215, zin_216, zin_217, zkc_218, zin_219, zin_220, zin_221, zkc_222, zin_223, zaa_223, zin_224, zin_225, zkc_226, zin_227, zin_228, zin_229, zin_230, zin_231, zin_232, zkc_233, zin_234, zaa_234, zin_235, zin_236, zin_237, zin_238, zin_239, zin_240, zin_241, zin_242, zin_243, zin_244, zin_245, zin_246, zin_247, zin_248, zin_249, zin_250, zkc_251, zin_252, zin_253, zkc_374, zin_375, zin_376, zin_377, zin_378, zin_379, zin_380, zin_381, zin_382, zin_383, zin_384, zin_385, zin_386, zin_387, ↓s_isMember d _ M S k hR hW hz, hz.1, hz.2, e1, ↓reduceIte, hzz]
      rw [show ((k : Int) + 1) = ((k + 1 : Nat) : Int) by omega, h1]
      unfold zb
      simp only [zfst, isM, Int.toNat_natCast, decide_eq_true_eq]
      grind
  have r1 : M 375 1 = S 8 0 := hR.1.2.1
  have hn := hW.2.2.2.2.2.2.1
  have hz : zrg (S 8 0) := ⟨by omega, by omega⟩
  have hzz : -2147483648 ≤ zb (isM S (S 8 0)) ∧ zb (isM S (S 8 0)) < 2147483648 := by unfold zb; split <;> omega
  have l0 : RT (Sp (d + 2)) 121 Q 31 [some (.inr (.inr 374)), some (.inl 0)] [] M = _ := loop 10 0 rfl
  simp only [↓e121, ↓e121_0, ↓e121_1, ↓e121_4, ↓e121_5, ↓e121_6, ↓e121_9, ↓e121_10, ↓e121_11, ↓e121_14, ↓e121_15, ↓e121_16, ↓e121_19, ↓e121_22, ↓e121_23, ↓e121_26, ↓e121_27, ↓e121_28, ↓e121_29, ↓e121_30, ↓e121_32, ↓e121_34, ↓e121_37, ↓e121_38, ↓e121_39, ↓e121_42, ↓e121_45, ↓e121_46, ↓e121_47, ↓e121_50, ↓e121_53, ↓e121_54, znl_i, znl_r, znl_n, zcs_0, zcs_1, zcs_2, zcs_3, zcat_0, zcat_1, zcat_2, zcat_3, zbl_0, zbl_1, true_and, and_true, ↓zret_some, ↓zret_none, Nat.reduceAdd, Nat.reduceLeDiff, Nat.reduceMul, eq_self, Int.reduceToNat, zrg, zkc_0, zin_1, zin_2, zin_3, zin_4, zin_5, zin_6, zin_7, zin_8, zin_9, zaa_9, zkc_10, zin_11, zin_12, zkc_13, zin_14, zin_15, zkc_16, zin_17, zin_18, zkc_19, zin_20, zin_21, zin_22, zin_23, zin_24, zin_25, zin_26, zin_27, zin_28, zaa_28, zkc_29, zin_30, zin_31, zkc_32, zin_33, zin_34, zkc_35, zin_36, zin_37, zkc_38, zin_39, zin_40, zin_41, zin_42, zin_43, zin_44, zin_45, zin_46, zin_47, zaa_47, zkc_48, zin_49, zin_50, zkc_51, zin_52, zin_53, zkc_54, zin_55, zin_56, zkc_209, zkc_210, zin_211, zaa_211, zkc_212, zin_213, zkc_214, zkc_215, zin_216, zin_217, zkc_218, zin_219, zin_220, zin_221, zkc_222, zin_223, zaa_223, zin_224, zin_225, zkc_226, zin_227, zin_228, zin_229, zin_230, zin_231, zin_232, zkc_233, zin_234, zaa_234, zin_235, zin_236, zin_237, zin_238, zin_239, zin_240, zin_241, zin_242, zin_243, zin_244, zin_245, zin_246, zin_247, zin_248, zin_249, zin_250, zkc_251, zin_252, zin_253, zkc_374, zin_375, zin_376, zin_377, zin_378, zin_379, zin_380, zin_381, zin_382, zin_383, zin_384, zin_385, zin_386, zin_387, r1, ↓s_isMember d _ M S _ hR hW hz, hz.1, hz.2, hzz, l0]
  unfold ldr zb
  by_cases q : isM S (S 8 0)
  · have : ¬ S 8 0 < 0 := by have := q.1; omega
    simp [q, this]
    rw [if_pos q]
  · simp [q]
