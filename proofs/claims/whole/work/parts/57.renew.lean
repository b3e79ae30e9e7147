/-! ### Giving.renew -/
def Gf (M N : zM) : Prop := ∀ b, (b < 224 ∨ 374 ≤ b ∨ b = 232 ∨ (251 ≤ b ∧ b < 254)) → N b = M b
def GvP (S N : zM) : Prop := (∀ m : Nat, m < 10 → N 227 m = if bT S m < 0 then -5 else bT S m) ∧ (∀ m : Nat, m < 10 → N 228 m = if bT S m < 0 then -5 else plc S (bT S m).toNat) ∧ (∀ s : Nat, (s : Int) < nsl S → N 229 s = if plc S s < 0 then -5 else plc S s) ∧ N 226 3 = (opnN S (nsl S).toNat).length ∧ N 226 4 = gvn S ∧ N 226 5 = gvs S ∧ Wv N (S 0)
theorem fol_len9 {S : zM} (hW : WfS S) : (folN S 10).length < 10 := by
  have h1 : ∃ x ∈ List.range 10, ¬ isF S x = true := by
    by_cases z : 0 ≤ ldr S
    · obtain ⟨l1, l2, l3⟩ := ldr_rng hW
      refine ⟨(ldr S).toNat, List.mem_range.mpr (by omega), fun q => ?_⟩
      unfold isF at q
      have := (of_decide_eq_true q).1
      omega
    · refine ⟨0, List.mem_range.mpr (by omega), fun q => ?_⟩
      obtain ⟨i, hi⟩ := lst_idx (q := isF S) (k := 10) (a := 0) (by omega) q
      have := (fol_mem hW hi).2.2.2.2
      omega
  have h2 := List.length_filter_lt_length_iff_exists.mpr h1
  rw [List.length_range] at h2
  exact h2
theorem nsl_rng {S : zM} (hW : WfS S) : 0 ≤ nsl S ∧ nsl S ≤ 10 := by
  have h6 := hW.2.2.2.2.2.2.2.2.2 (pj S) (pj_rng hW).1
  exact ⟨h6.1, h6.2.1⟩
theorem opn_len9 {S : zM} (hW : WfS S) : (opnN S (nsl S).toNat).length < 10 := by
  have h0 := opnN_len S (nsl S).toNat
  have h6 := hW.2.2.2.2.2.2.2.2.2 (pj S) (pj_rng hW).1
  have hr := nsl_rng hW
  have hn : nsl S = S (9 + pj S) 0 := rfl
  by_cases z : nsl S = 10
  · have h7 := h6.2.2.2.1 (by omega)
    have h1 : ∃ x ∈ List.range (nsl S).toNat, ¬ isO S x = true := by
      refine ⟨(anc S).toNat, List.mem_range.mpr (by unfold anc; omega), fun q => ?_⟩
      unfold isO at q
      have := (of_decide_eq_true q).1
      unfold anc at this
      omega
    have h2 := List.length_filter_lt_length_iff_exists.mpr h1
    rw [List.length_range] at h2
    have h3 : (opnN S (nsl S).toNat).length < (nsl S).toNat := h2
    omega
  · omega
theorem no_fol {S : zM} (hW : WfS S) (h : (folN S 10).length = 0 ∨ (opnN S (nsl S).toNat).length = 0) : ∀ m : Nat, m < 10 → bT S m = -1 := by
  intro m hm
  rcases bT_cases hW hm with q | ⟨s, q1, q2, q3, q4, q5, -⟩
  · exact q
  · exfalso
    obtain ⟨i, hi⟩ := lst_idx (q := isF S) hm q4
    obtain ⟨j, hj⟩ := lst_idx (q := isO S) (k := (nsl S).toNat) (a := s) (by omega) q5
    have h1 := (List.getElem?_eq_some_iff.mp hi).1
    have h2 := (List.getElem?_eq_some_iff.mp hj).1
    have h3 : i < (folN S 10).length := h1
    have h4 : j < (opnN S (nsl S).toNat).length := h2
    omega
/-- the loop that gives: columns below c are given -/
def RnJ (S N0 N : zM) (k p c : Nat) : Prop :=
  (∀ b, b ≠ 224 → b ≠ 225 → b ≠ 226 → b ≠ 227 → b ≠ 228 → (b < 254 ∨ 374 ≤ b) → N b = N0 b) ∧ (∀ j, j ≠ 4 → j ≠ 5 → N 226 j = N0 226 j) ∧ Wv N (S 0) ∧
  (∀ i e : Nat, i < k → 1 ≤ e → e ≤ p + k → N0 235 e = ((i + 1 : Nat) : Int) → N 227 (fo S i) = if e < c then bT S (fo S i) else -5) ∧
  (∀ m : Nat, m < 10 → (∀ i, i < k → fo S i ≠ m) → N 227 m = -5) ∧
  (∀ m : Nat, m < 10 → N 228 m = if N 227 m < 0 then -5 else plc S (N 227 m).toNat) ∧
  N 226 4 = smN (fun m => if N 227 m < 0 then 0 else 1) 10 ∧ N 226 5 = smN (fun m => if N 227 m < 0 then 0 else dm S m (N 227 m).toNat) 10
theorem s_renew (d : Nat) (Q : zQ) (M S : zM) (hR : RelC M 0 S) (hW : WfS S) (hV : Wv M (S 0)) (hQ : ∀ N, Gf M N → GvP S N → Q none N) : Sp (d + 5) 5 [.inr (.inr 226)] M Q := by
  have hk9 := fol_len9 hW
  have hp9 := opn_len9 hW
  have hn10 := nsl_rng hW
  generalize hM0 : zup (zup (zfill (zfill M 227 10 (-5)) 228 10 (-5)) 226 4 0) 226 5 0 = M0
  have m0 : ∀ b, b ≠ 226 → b ≠ 227 → b ≠ 228 → M0 b = M b := fun b h1 h2 h3 => by
    rw [← hM0]
    unfold zfill
    rw [zup_ne _ _ _ h1, zup_ne _ _ _ h1, zrow_ne _ _ h3, zrow_ne _ _ h2]
  have m7 : ∀ m : Nat, m < 10 → M0 227 m = -5 ∧ M0 228 m = -5 := fun m hm => by
    rw [← hM0]
    unfold zfill
    rw [zup_ne _ _ _ (by omega), zup_ne _ _ _ (by omega), zup_ne _ _ _ (by omega), zup_ne _ _ _ (by omega), zrow_ne _ _ (by omega), zrow_self, zrow_self, if_pos hm, if_pos hm]
    exact ⟨rfl, rfl⟩
  have m4 : M0 226 4 = 0 ∧ M0 226 5 = 0 := by rw [← hM0]; simp [zup]
  have hR0 : RelC M0 0 S := RelC_congr (fun b hb => m0 b (by omega) (by omega) (by omega)) hR
  have zk227 : zk 227 = (0, 10, []) := by decide +kernel
  have zk228 : zk 228 = (0, 10, []) := by decide +kernel
  simp only [↓e5, ↓e5_0, ↓e5_1, ↓e5_4, ↓e5_6, ↓e5_9, ↓e5_10, ↓e5_13, ↓e5_15, ↓e5_18, ↓e5_19, ↓e5_20, ↓e5_23, ↓e5_24, ↓e5_25, ↓e5_28, ↓e5_29, ↓e5_33, ↓e5_36, ↓e5_37, ↓e5_40, ↓e5_43, ↓e5_44, ↓e5_47, ↓e5_50, ↓e5_51, ↓e5_52, ↓e5_55, ↓e5_56, ↓e5_59, ↓e5_60, ↓e5_63, ↓e5_64, ↓e5_67, ↓e5_68, ↓e5_71, ↓e5_72, ↓e5_75, ↓e5_76, ↓e5_77, ↓e5_78, ↓e5_79, ↓e5_82, ↓e5_85, ↓e5_86, ↓e5_89, ↓e5_92, ↓e5_93, ↓e5_94, ↓e5_97, ↓e5_98, ↓e5_99, ↓e5_102, ↓e5_103, ↓e5_104, ↓e5_105, ↓e5_106, ↓e5_107, ↓e5_110, ↓e5_111, ↓e5_114, ↓e5_117, ↓e5_118, ↓e5_119, ↓e5_120, ↓e5_121, ↓e5_122, ↓e5_125, ↓e5_128, ↓e5_131, znl_i, znl_r, znl_n, zcs_0, zcs_1, zcs_2, zcs_3, zcat_0, zcat_1, zcat_2, zcat_3, zbl_0, zbl_1, true_and, and_true, ↓zret_some, ↓zret_none, Nat.reduceAdd, Nat.reduceLeDiff, Nat.reduceMul, eq_self, Int.reduceToNat, Int.reduceLE, Int.reduceLT, Int.reduceNeg, and_self, zkc_0, zin_1, zin_2, zin_3, zin_4, zin_5, zin_6, zin_7, zin_8, zin_9, zaa_9, zkc_10, zin_11, zin_12, zkc_13, zin_14, zin_15, zkc_16, zin_17, zin_18, zkc_19, zin_20, zin_21, zin_22, zin_23, zin_24, zin_25, zin_26, zin_27, zin_28, zaa_28, zkc_29, zin_30, zin_31, zkc_32, zin_33, zin_34, zkc_35, zin_36, zin_37, zkc_38, zin_39, zin_40, zin_41, zin_42, zin_43, zin_44, zin_45, zin_46, zin_47, zaa_47, zkc_48, zin_49, zin_50, zkc_51, zin_52, zin_53, zkc_54, zin_55, zin_56, zkc_209, zkc_210, zin_211, zaa_211, zkc_212, zin_213, zkc_214, zkc_215, zin_216, zin_217, zkc_218, zin_219, zin_220, zin_221, zkc_222, zin_223, zaa_223, zin_224, zin_225, zkc_226, zin_227, zin_228, zin_229, zin_230, zin_231, zin_232, zkc_233, zin_234, zaa_234, zin_235, zin_236, zin_237, zin_238, zin_239, zin_240, zin_241, zin_242, zin_243, zin_244, zin_245, zin_246, zin_247, zin_248, zin_249, zin_250, zkc_251, zin_252, zin_253, zkc_374, zin_375, zin_376, zin_377, zin_378, zin_379, zin_380, zin_381, zin_382, zin_383, zin_384, zin_385, zin_386, zin_387, ↓s_fill _ _ _ 227 10 [] (-5) zk227 (by omega), ↓s_fill _ _ _ 228 10 [] (-5) zk228 (by omega), hM0]
  refine s_listFollowers (d + 1) _ M0 S hR0 hW (fun N1 f => ?_)
  obtain ⟨f1, f2, f3, f4⟩ := f
  have hR1 : RelC N1 0 S := RelC_congr (fun b hb => f1 b (by omega) (by omega)) hR0
  rw [zret_none]
  simp only [↓e5, ↓e5_0, ↓e5_1, ↓e5_4, ↓e5_6, ↓e5_9, ↓e5_10, ↓e5_13, ↓e5_15, ↓e5_18, ↓e5_19, ↓e5_20, ↓e5_23, ↓e5_24, ↓e5_25, ↓e5_28, ↓e5_29, ↓e5_32, ↓e5_33, ↓e5_37, ↓e5_40, ↓e5_43, ↓e5_44, ↓e5_47, ↓e5_50, ↓e5_51, ↓e5_52, ↓e5_55, ↓e5_56, ↓e5_59, ↓e5_60, ↓e5_63, ↓e5_64, ↓e5_67, ↓e5_68, ↓e5_71, ↓e5_72, ↓e5_75, ↓e5_76, ↓e5_77, ↓e5_78, ↓e5_79, ↓e5_82, ↓e5_85, ↓e5_86, ↓e5_89, ↓e5_92, ↓e5_93, ↓e5_94, ↓e5_97, ↓e5_98, ↓e5_99, ↓e5_102, ↓e5_103, ↓e5_104, ↓e5_105, ↓e5_106, ↓e5_107, ↓e5_110, ↓e5_111, ↓e5_114, ↓e5_117, ↓e5_118, ↓e5_119, ↓e5_120, ↓e5_121, ↓e5_122, ↓e5_125, ↓e5_128, ↓e5_131, znl_i, znl_r, znl_n, zcs_0, zcs_1, zcs_2, zcs_3, zcat_0, zcat_1, zcat_2, zcat_3, zbl_0, zbl_1, true_and, and_true, ↓zret_some, ↓zret_none, Nat.reduceAdd, Nat.reduceLeDiff, Nat.reduceMul, eq_self, Int.reduceToNat, Int.reduceLE, Int.reduceLT, Int.reduceNeg, and_self, zkc_0, zin_1, zin_2, zin_3, zin_4, zin_5, zin_6, zin_7, zin_8, zin_9, zaa_9, zkc_10, zin_11, zin_12, zkc_13, zin_14, zin_15, zkc_16, zin_17, zin_18, zkc_19, zin_20, zin_21, zin_22, zin_23, zin_24, zin_25, zin_26, zin_27, zin_28, zaa_28, zkc_29, zin_30, zin_31, zkc_32, zin_33, zin_34, zkc_35, zin_36, zin_37, zkc_38, zin_39, zin_40, zin_41, zin_42, zin_43, zin_44, zin_45, zin_46, zin_47, zaa_47, zkc_48, zin_49, zin_50, zkc_51, zin_52, zin_53, zkc_54, zin_55, zin_56, zkc_209, zkc_210, zin_211, zaa_211, zkc_212, zin_213, zkc_214, zkc_215, zin_216, zin_217, zkc_218, zin_219, zin_220, zin_221, zkc_222, zin_223, zaa_223, zin_224, zin_225, zkc_226, zin_227, zin_228, zin_229, zin_230, zin_231, zin_232, zkc_233, zin_234, zaa_234, zin_235, zin_236, zin_237, zin_238, zin_239, zin_240, zin_241, zin_242, zin_243, zin_244, zin_245, zin_246, zin_247, zin_248, zin_249, zin_250, zkc_251, zin_252, zin_253, zkc_374, zin_375, zin_376, zin_377, zin_378, zin_379, zin_380, zin_381, zin_382, zin_383, zin_384, zin_385, zin_386, zin_387]
  refine s_listOpen d _ N1 S hR1 hW (fun N2 g => ?_)
  obtain ⟨g1, g2, g3, g4, g5⟩ := g
  have hR2 : RelC N2 0 S := RelC_congr (fun b hb => g1 b (by omega) (by omega) (by omega)) hR1
  generalize hk : (folN S 10).length = k at *
  generalize hp : (opnN S (nsl S).toNat).length = p at *
  have hkr : -2147483648 ≤ (k : Int) ∧ (k : Int) < 2147483648 := ⟨by omega, by omega⟩
  have hpr : -2147483648 ≤ (p : Int) ∧ (p : Int) < 2147483648 := ⟨by omega, by omega⟩
  have n10 : N2 226 10 = k := by rw [g2 10 (by omega), f3]
  have n45 : N2 226 4 = 0 ∧ N2 226 5 = 0 := by rw [g2 4 (by omega), g2 5 (by omega), f2 4 (by omega), f2 5 (by omega)]; exact m4
  have n27 : ∀ m : Nat, m < 10 → N2 227 m = -5 ∧ N2 228 m = -5 := fun m hm => by
    rw [g1 227 (by omega) (by omega) (by omega), g1 228 (by omega) (by omega) (by omega), f1 227 (by omega) (by omega), f1 228 (by omega) (by omega)]; exact m7 m hm
  have nfr : ∀ b, b ≠ 226 → b ≠ 227 → b ≠ 228 → b ≠ 229 → b ≠ 230 → b ≠ 231 → N2 b = M b := fun b b1 b2 b3 b4 b5 b6 => by rw [g1 b b1 b4 b6, f1 b b1 b5, m0 b b1 b2 b3]
  have hV2 : Wv N2 (S 0) := fun x hx => by
    rw [nfr 224 (by omega) (by omega) (by omega) (by omega) (by omega) (by omega), nfr (254 + x) (by omega) (by omega) (by omega) (by omega) (by omega) (by omega)]
    exact hV x hx
  rw [zret_none]
  -- nothing to give
  have none_ : (k = 0 ∨ p = 0) → Q none N2 := fun hz => by
    have hb := no_fol hW (by rw [hk, hp]; exact hz)
    refine hQ N2 (fun b hb => nfr b (by omega) (by omega) (by omega) (by omega) (by omega) (by omega)) ⟨fun m hm => ?_, fun m hm => ?_, fun s hs => g4 s (by omega), by rw [g3, hp], ?_, ?_, hV2⟩
    · rw [(n27 m hm).1, hb m hm, if_pos (by omega)]
    · rw [(n27 m hm).2, hb m hm, if_pos (by omega)]
    · rw [n45.1]
      unfold gvn
      rw [smN_congr (g := fun _ => 0) 10 (fun m hm => by show (if bT S m < 0 then (0 : Int) else 1) = 0; rw [hb m hm, if_pos (by omega)]), smN_zero]
    · rw [n45.2]
      unfold gvs
      rw [smN_congr (g := fun _ => 0) 10 (fun m hm => by show (if bT S m < 0 then (0 : Int) else _) = 0; rw [hb m hm, if_pos (by omega)]), smN_zero]
  by_cases hk0 : k = 0
  · have e1 : (k : Int) = 0 := by omega
    simp only [↓e5, ↓e5_0, ↓e5_1, ↓e5_4, ↓e5_6, ↓e5_9, ↓e5_10, ↓e5_13, ↓e5_15, ↓e5_18, ↓e5_19, ↓e5_20, ↓e5_23, ↓e5_24, ↓e5_25, ↓e5_28, ↓e5_29, ↓e5_32, ↓e5_33, ↓e5_36, ↓e5_37, ↓e5_40, ↓e5_43, ↓e5_44, ↓e5_47, ↓e5_50, ↓e5_52, ↓e5_55, ↓e5_56, ↓e5_59, ↓e5_60, ↓e5_63, ↓e5_64, ↓e5_67, ↓e5_68, ↓e5_71, ↓e5_72, ↓e5_75, ↓e5_76, ↓e5_78, ↓e5_79, ↓e5_82, ↓e5_85, ↓e5_86, ↓e5_89, ↓e5_92, ↓e5_93, ↓e5_94, ↓e5_97, ↓e5_98, ↓e5_99, ↓e5_102, ↓e5_103, ↓e5_104, ↓e5_105, ↓e5_106, ↓e5_107, ↓e5_110, ↓e5_111, ↓e5_114, ↓e5_117, ↓e5_118, ↓e5_119, ↓e5_120, ↓e5_121, ↓e5_122, ↓e5_125, ↓e5_128, ↓e5_131, znl_i, znl_r, znl_n, zcs_0, zcs_1, zcs_2, zcs_3, zcat_0, zcat_1, zcat_2, zcat_3, zbl_0, zbl_1, true_and, and_true, ↓zret_some, ↓zret_none, Nat.reduceAdd, Nat.reduceLeDiff, Nat.reduceMul, eq_self, Int.reduceToNat, Int.reduceLE, Int.reduceLT, Int.reduceNeg, and_self, zrg, zkc_0, zin_1, zin_2, zin_3, zin_4, zin_5, zin_6, zin_7, zin_8, zin_9, zaa_9, zkc_10, zin_11, zin_12, zkc_13, zin_14, zin_15, zkc_16, zin_17, zin_18, zkc_19, zin_20, zin_21, zin_22, zin_23, zin_24, zin_25, zin_26, zin_27, zin_28, zaa_28, zkc_29, zin_30, zin_31, zkc_32, zin_33, zin_34, zkc_35, zin_36, zin_37, zkc_38, zin_39, zin_40, zin_41, zin_42, zin_43, zin_44, zin_45, zin_46, zin_47, zaa_47, zkc_48, zin_49, zin_50, zkc_51, zin_52, zin_53, zkc_54, zin_55, zin_56, zkc_209, zkc_210, zin_211, zaa_211, zkc_212, zin_213, zkc_214, zkc_215, zin_216, zin_217, zkc_218, zin_219, zin_220, zin_221, zkc_222, zin_223, zaa_223, zin_224, zin_225, zkc_226, zin_227, zin_228, zin_229, zin_230, zin_231, zin_232, zkc_233, zin_234, zaa_234, zin_235, zin_236, zin_237, zin_238, zin_239, zin_240, zin_241, zin_242, zin_243, zin_244, zin_245, zin_246, zin_247, zin_248, zin_249, zin_250, zkc_251, zin_252, zin_253, zkc_374, zin_375, zin_376, zin_377, zin_378, zin_379, zin_380, zin_381, zin_382, zin_383, zin_384, zin_385, zin_386, zin_387, n10, e1, ↓reduceIte]
    exact none_ (Or.inl hk0)
  by_cases hp0 : p = 0
  · have e1 : ¬ (k : Int) = 0 := by omega
    have e2 : ¬ (p : Int) ≠ 0 := by omega
    simp only [↓e5, ↓e5_0, ↓e5_1, ↓e5_4, ↓e5_6, ↓e5_9, ↓e5_10, ↓e5_13, ↓e5_15, ↓e5_18, ↓e5_19, ↓e5_20, ↓e5_23, ↓e5_24, ↓e5_25, ↓e5_28, ↓e5_29, ↓e5_32, ↓e5_33, ↓e5_36, ↓e5_37, ↓e5_40, ↓e5_43, ↓e5_44, ↓e5_47, ↓e5_50, ↓e5_52, ↓e5_55, ↓e5_56, ↓e5_59, ↓e5_60, ↓e5_63, ↓e5_64, ↓e5_67, ↓e5_68, ↓e5_71, ↓e5_72, ↓e5_75, ↓e5_76, ↓e5_78, ↓e5_79, ↓e5_82, ↓e5_85, ↓e5_86, ↓e5_89, ↓e5_92, ↓e5_93, ↓e5_94, ↓e5_97, ↓e5_98, ↓e5_99, ↓e5_102, ↓e5_103, ↓e5_104, ↓e5_105, ↓e5_106, ↓e5_107, ↓e5_110, ↓e5_111, ↓e5_114, ↓e5_117, ↓e5_118, ↓e5_119, ↓e5_120, ↓e5_121, ↓e5_122, ↓e5_125, ↓e5_128, ↓e5_131, znl_i, znl_r, znl_n, zcs_0, zcs_1, zcs_2, zcs_3, zcat_0, zcat_1, zcat_2, zcat_3, zbl_0, zbl_1, true_and, and_true, ↓zret_some, ↓zret_none, Nat.reduceAdd, Nat.reduceLeDiff, Nat.reduceMul, eq_self, Int.reduceToNat, Int.reduceLE, Int.reduceLT, Int.reduceNeg, and_self, zrg, zkc_0, zin_1, zin_2, zin_3, zin_4, zin_5, zin_6, zin_7, zin_8, zin_9, zaa_9, zkc_10, zin_11, zin_12, zkc_13, zin_14, zin_15, zkc_16, zin_17, zin_18, zkc_19, zin_20, zin_21, zin_22, zin_23, zin_24, zin_25, zin_26, zin_27, zin_28, zaa_28, zkc_29, zin_30, zin_31, zkc_32, zin_33, zin_34, zkc_35, zin_36, zin_37, zkc_38, zin_39, zin_40, zin_41, zin_42, zin_43, zin_44, zin_45, zin_46, zin_47, zaa_47, zkc_48, zin_49, zin_50, zkc_51, zin_52, zin_53, zkc_54, zin_55, zin_56, zkc_209, zkc_210, zin_211, zaa_211, zkc_212, zin_213, zkc_214, zkc_215, zin_216, zin_217, zkc_218, zin_219, zin_220, zin_221, zkc_222, zin_223, zaa_223, zin_224, zin_225, zkc_226, zin_227, zin_228, zin_229, zin_230, zin_231, zin_232, zkc_233, zin_234, zaa_234, zin_235, zin_236, zin_237, zin_238, zin_239, zin_240, zin_241, zin_242, zin_243, zin_244, zin_245, zin_246, zin_247, zin_248, zin_249, zin_250, zkc_251, zin_252, zin_253, zkc_374, zin_375, zin_376, zin_377, zin_378, zin_379, zin_380, zin_381, zin_382, zin_383, zin_384, zin_385, zin_386, zin_387, n10, g3, hkr, hpr, e1, e2, ↓reduceIte]
    exact none_ (Or.inr hp0)
  have e1 : ¬ (k : Int) = 0 := by omega
  have e2 : (p : Int) ≠ 0 := by omega
  simp only [↓e5, ↓e5_0, ↓e5_1, ↓e5_4, ↓e5_6, ↓e5_9, ↓e5_10, ↓e5_13, ↓e5_15, ↓e5_18, ↓e5_19, ↓e5_20, ↓e5_23, ↓e5_24, ↓e5_25, ↓e5_28, ↓e5_29, ↓e5_32, ↓e5_33, ↓e5_36, ↓e5_37, ↓e5_40, ↓e5_43, ↓e5_44, ↓e5_47, ↓e5_50, ↓e5_51, ↓e5_52, ↓e5_56, ↓e5_59, ↓e5_60, ↓e5_63, ↓e5_64, ↓e5_67, ↓e5_68, ↓e5_71, ↓e5_72, ↓e5_75, ↓e5_76, ↓e5_78, ↓e5_79, ↓e5_82, ↓e5_85, ↓e5_86, ↓e5_89, ↓e5_92, ↓e5_93, ↓e5_94, ↓e5_97, ↓e5_98, ↓e5_99, ↓e5_102, ↓e5_103, ↓e5_104, ↓e5_105, ↓e5_106, ↓e5_107, ↓e5_110, ↓e5_111, ↓e5_114, ↓e5_117, ↓e5_118, ↓e5_119, ↓e5_120, ↓e5_121, ↓e5_122, ↓e5_125, ↓e5_128, ↓e5_131, znl_i, znl_r, znl_n, zcs_0, zcs_1, zcs_2, zcs_3, zcat_0, zcat_1, zcat_2, zcat_3, zbl_0, zbl_1, true_and, and_true, ↓zret_some, ↓zret_none, Nat.reduceAdd, Nat.reduceLeDiff, Nat.reduceMul, eq_self, Int.reduceToNat, Int.reduceLE, Int.reduceLT, Int.reduceNeg, and_self, zrg, zkc_0, zin_1, zin_2, zin_3, zin_4, zin_5, zin_6, zin_7, zin_8, zin_9, zaa_9, zkc_10, zin_11, zin_12, zkc_13, zin_14, zin_15, zkc_16, zin_17, zin_18, zkc_19, zin_20, zin_21, zin_22, zin_23, zin_24, zin_25, zin_26, zin_27, zin_28, zaa_28, zkc_29, zin_30, zin_31, zkc_32, zin_33, zin_34, zkc_35, zin_36, zin_37, zkc_38, zin_39, zin_40, zin_41, zin_42, zin_43, zin_44, zin_45, zin_46, zin_47, zaa_47, zkc_48, zin_49, zin_50, zkc_51, zin_52, zin_53, zkc_54, zin_55, zin_56, zkc_209, zkc_210, zin_211, zaa_211, zkc_212, zin_213, zkc_214, zkc_215, zin_216, zin_217, zkc_218, zin_219, zin_220, zin_221, zkc_222, zin_223, zaa_223, zin_224, zin_225, zkc_226, zin_227, zin_228, zin_229, zin_230, zin_231, zin_232, zkc_233, zin_234, zaa_234, zin_235, zin_236, zin_237, zin_238, zin_239, zin_240, zin_241, zin_242, zin_243, zin_244, zin_245, zin_246, zin_247, zin_248, zin_249, zin_250, zkc_251, zin_252, zin_253, zkc_374, zin_375, zin_376, zin_377, zin_378, zin_379, zin_380, zin_381, zin_382, zin_383, zin_384, zin_385, zin_386, zin_387, n10, g3, hkr, hpr, e1, ↓reduceIte, ne_eq, show ¬ (p : Int) = 0 by omega, not_false_eq_true]
  refine s_price (d + 1) _ N2 S k p hR2 hW hV2 hk.symm hp.symm hk9 hp9 ⟨n10, fun i m h => by rw [g1 230 (by omega) (by omega) (by omega)]; exact f4 i m h⟩ ⟨g3, fun s hs => g4 s (by omega), g5⟩ (fun N3 hP => ?_)
  obtain ⟨p1, p2, p3⟩ := hP
  have n3 : N3 226 = N2 226 := p1 226 (by omega) (by omega) (by omega) (by omega)
  have e3 : (p : Int) + k = ((p + k : Nat) : Int) := by omega
  rw [zret_none]
  simp only [↓e5, ↓e5_0, ↓e5_1, ↓e5_4, ↓e5_6, ↓e5_9, ↓e5_10, ↓e5_13, ↓e5_15, ↓e5_18, ↓e5_19, ↓e5_20, ↓e5_23, ↓e5_24, ↓e5_25, ↓e5_28, ↓e5_29, ↓e5_32, ↓e5_33, ↓e5_36, ↓e5_37, ↓e5_40, ↓e5_43, ↓e5_44, ↓e5_47, ↓e5_50, ↓e5_51, ↓e5_52, ↓e5_55, ↓e5_56, ↓e5_59, ↓e5_60, ↓e5_63, ↓e5_64, ↓e5_67, ↓e5_68, ↓e5_71, ↓e5_72, ↓e5_76, ↓e5_78, ↓e5_79, ↓e5_82, ↓e5_85, ↓e5_86, ↓e5_89, ↓e5_92, ↓e5_93, ↓e5_94, ↓e5_97, ↓e5_98, ↓e5_99, ↓e5_102, ↓e5_103, ↓e5_104, ↓e5_105, ↓e5_106, ↓e5_107, ↓e5_110, ↓e5_111, ↓e5_114, ↓e5_117, ↓e5_118, ↓e5_119, ↓e5_120, ↓e5_121, ↓e5_122, ↓e5_125, ↓e5_128, ↓e5_131, znl_i, znl_r, znl_n, zcs_0, zcs_1, zcs_2, zcs_3, zcat_0, zcat_1, zcat_2, zcat_3, zbl_0, zbl_1, true_and, and_true, ↓zret_some, ↓zret_none, Nat.reduceAdd, Nat.reduceLeDiff, Nat.reduceMul, eq_self, Int.reduceToNat, Int.reduceLE, Int.reduceLT, Int.reduceNeg, and_self, zrg, zkc_0, zin_1, zin_2, zin_3, zin_4, zin_5, zin_6, zin_7, zin_8, zin_9, zaa_9, zkc_10, zin_11, zin_12, zkc_13, zin_14, zin_15, zkc_16, zin_17, zin_18, zkc_19, zin_20, zin_21, zin_22, zin_23, zin_24, zin_25, zin_26, zin_27, zin_28, zaa_28, zkc_29, zin_30, zin_31, zkc_32, zin_33, zin_34, zkc_35, zin_36, zin_37, zkc_38, zin_39, zin_40, zin_41, zin_42, zin_43, zin_44, zin_45, zin_46, zin_47, zaa_47, zkc_48, zin_49, zin_50, zkc_51, zin_52, zin_53, zkc_54, zin_55, zin_56, zkc_209, zkc_210, zin_211, zaa_211, zkc_212, zin_213, zkc_214, zkc_215, zin_216, zin_217, zkc_218, zin_219, zin_220, zin_221, zkc_222, zin_223, zaa_223, zin_224, zin_225, zkc_226, zin_227, zin_228, zin_229, zin_230, zin_231, zin_232, zkc_233, zin_234, zaa_234, zin_235, zin_236, zin_237, zin_238, zin_239, zin_240, zin_241, zin_242, zin_243, zin_244, zin_245, zin_246, zin_247, zin_248, zin_249, zin_250, zkc_251, zin_252, zin_253, zkc_374, zin_375, zin_376, zin_377, zin_378, zin_379, zin_380, zin_381, zin_382, zin_383, zin_384, zin_385, zin_386, zin_387, n3, n10, g3, e3]
  refine s_solve (d + 1) _ N3 (p + k) k (by omega) hk9 (by omega) (PrR_Pr hW hk.symm hp.symm (by omega) hk9 p3) (fun N4 hH v => ?_)
  have hPr4 : PrR S N4 k p (nsl S).toNat := fun i m i1 i2 hm => by
    rw [v (240 + i) (by omega) (by omega) (by omega) (by omega) (by omega) (by omega)]
    exact p3 i m i1 i2 hm
  have hmt := mt_best hW hk.symm hp.symm (by omega) hk9 hH hPr4 (bT_is hW)
  have n4 : ∀ b, (b < 224 ∨ 374 ≤ b ∨ b = 232 ∨ (226 ≤ b ∧ b < 232) ∨ (251 ≤ b ∧ b < 254)) → N4 b = N2 b := fun b hb => by
    rw [v b (by omega) (by omega) (by omega) (by omega) (by omega) (by omega), p1 b (by omega) (by omega) (by omega) (by omega)]
  have hR4 : RelC N4 0 S := RelC_congr (fun b hb => n4 b (by omega)) hR2
  have hV4 : Wv N4 (S 0) := fun x hx => by
    rw [v 224 (by omega) (by omega) (by omega) (by omega) (by omega) (by omega), v (254 + x) (by omega) (by omega) (by omega) (by omega) (by omega) (by omega)]
    exact p2 x hx
  have fat : ∀ i, i < k → (folN S 10)[i]? = some (fo S i) := fun i hi => fo_at (by omega)
  have finj : ∀ i j, i < k → j < k → fo S i = fo S j → i = j := fun i j hi hj e => lst_inj (fat i hi) (by rw [e]; exact fat j hj)
  have loop : ∀ q c : Nat, c + q = p + 1 → 1 ≤ c → ∀ N : zM, RnJ S N4 N k p c → RT (Sp (d + 4)) 5 Q 77 [some (.inr (.inr 226)), some (.inl (c : Int))] [] N := by
    intro q
    induction q with
    | zero =>
      intro c hc hc1 N hJ
      obtain rfl : c = p + 1 := by omega
      obtain ⟨j1, j2, j3, j4, j5, j6, j7, j8⟩ := hJ
      have a1 : -2147483648 ≤ ((p + 1 : Nat) : Int) ∧ ((p + 1 : Nat) : Int) < 2147483648 := ⟨by omega, by omega⟩
      have a2 : ((p + 1 : Nat) : Int) > p := by omega
      have a3 : N 226 3 = p := by rw [j2 3 (by omega) (by omega), n4 226 (by omega), g3]
      rw [e5_77]
      simp only [↓e5, ↓e5_0, ↓e5_1, ↓e5_4, ↓e5_6, ↓e5_9, ↓e5_10, ↓e5_13, ↓e5_15, ↓e5_18, ↓e5_19, ↓e5_20, ↓e5_23, ↓e5_24, ↓e5_25, ↓e5_28, ↓e5_29, ↓e5_32, ↓e5_33, ↓e5_36, ↓e5_37, ↓e5_40, ↓e5_43, ↓e5_44, ↓e5_47, ↓e5_50, ↓e5_51, ↓e5_52, ↓e5_55, ↓e5_56, ↓e5_59, ↓e5_60, ↓e5_63, ↓e5_64, ↓e5_67, ↓e5_68, ↓e5_71, ↓e5_72, ↓e5_75, ↓e5_76, ↓e5_78, ↓e5_79, ↓e5_82, ↓e5_85, ↓e5_86, ↓e5_89, ↓e5_92, ↓e5_93, ↓e5_94, ↓e5_97, ↓e5_98, ↓e5_99, ↓e5_102, ↓e5_103, ↓e5_104, ↓e5_105, ↓e5_106, ↓e5_107, ↓e5_110, ↓e5_111, ↓e5_114, ↓e5_117, ↓e5_118, ↓e5_119, ↓e5_120, ↓e5_121, ↓e5_122, ↓e5_125, ↓e5_128, ↓e5_131, znl_i, znl_r, znl_n, zcs_0, zcs_1, zcs_2, zcs_3, zcat_0, zcat_1, zcat_2, zcat_3, zbl_0, zbl_1, true_and, and_true, ↓zret_some, ↓zret_none, Nat.reduceAdd, Nat.reduceLeDiff, Nat.reduceMul, eq_self, Int.reduceToNat, Int.reduceLE, Int.reduceLT, Int.reduceNeg, and_self, zrg, zkc_0, zin_1, zin_2, zin_3, zin_4, zin_5, zin_6, zin_7, zin_8, zin_9, zaa_9, zkc_10, zin_11, zin_12, zkc_13, zin_14, zin_15, zkc_16, zin_17, zin_18, zkc_19, zin_20, zin_21, zin_22, zin_23, zin_24, zin_25, zin_26, zin_27, zin_28, zaa_28, zkc_29, zin_30, zin_31, zkc_32, zin_33, zin_34, zkc_35, zin_36, zin_37, zkc_38, zin_39, zin_40, zin_41, zin_42, zin_43, zin_44, zin_45, zin_46, zin_47, zaa_47, zkc_48, zin_49, zin_50, zkc_51, zin_52, zin_53, zkc_54, zin_55, zin_56, zkc_209, zkc_210, zin_211, zaa_211, zkc_212, zin_213, zkc_214, zkc_215, zin_216, zin_217, zkc_218, zin_219, zin_220, zin_221, zkc_222, zin_223, zaa_223, zin_224, zin_225, zkc_226, zin_227, zin_228, zin_229, zin_230, zin_231, zin_232, zkc_233, zin_234, zaa_234, zin_235, zin_236, zin_237, zin_238, zin_239, zin_240, zin_241, zin_242, zin_243, zin_244, zin_245, zin_246, zin_247, zin_248, zin_249, zin_250, zkc_251, zin_252, zin_253, zkc_374, zin_375, zin_376, zin_377, zin_378, zin_379, zin_380, zin_381, zin_382, zin_383, zin_384, zin_385, zin_386, zin_387, a3, a1, hpr, a2, ↓reduceIte]
      have h27 : ∀ m : Nat, m < 10 → N 227 m = if bT S m < 0 then -5 else bT S m := fun m hm => by
        by_cases z : ∃ i, i < k ∧ fo S i = m
        · obtain ⟨i, i1, rfl⟩ := z
          obtain ⟨c, c1, c2, c3⟩ := hH.2.2.1 (i + 1) (by omega) (by omega)
          have h1 := j4 i c i1 c1 c2 c3
          rcases hmt i c i1 c1 c2 c3 with ⟨t1, t2⟩ | ⟨s, t1, t2, t3⟩
          · rw [h1, if_neg (by omega), t1, if_pos (by omega)]
          · rw [h1, if_pos (by omega), t1, if_neg (by omega)]
        · rw [j5 m hm (fun i i1 i2 => z ⟨i, i1, i2⟩)]
          rcases bT_cases hW hm with t1 | ⟨s, t1, t2, t3, t4, -⟩
          · rw [t1, if_pos (by omega)]
          · exfalso
            obtain ⟨i, hi⟩ := lst_idx (q := isF S) hm t4
            have h2 : i < k := by rw [← hk]; exact (List.getElem?_eq_some_iff.mp hi).1
            have h3 : (folN S 10)[i]? = some m := hi
            rw [fat i h2] at h3
            exact z ⟨i, h2, Option.some.inj h3⟩
      have hneg : ∀ m : Nat, m < 10 → (N 227 m < 0 ↔ bT S m < 0) := fun m hm => by
        rw [h27 m hm]
        split <;> omega
      refine hQ N (fun b hb => ?_) ⟨h27, fun m hm => ?_, fun s hs => ?_, ?_, ?_, ?_, j3⟩
      · rw [j1 b (by omega) (by omega) (by omega) (by omega) (by omega) (by omega), n4 b (by omega)]
        exact nfr b (by omega) (by omega) (by omega) (by omega) (by omega) (by omega)
      · rw [j6 m hm, h27 m hm]
        split
        · simp
        · rfl
      · rw [j1 229 (by omega) (by omega) (by omega) (by omega) (by omega) (by omega), n4 229 (by omega)]
        exact g4 s (by omega)
      · rw [a3, hp]
      · rw [j7]
        refine smN_congr 10 (fun m hm => ?_)
        show (if N 227 m < 0 then (0 : Int) else 1) = if bT S m < 0 then 0 else 1
        by_cases z : bT S m < 0
        · rw [if_pos ((hneg m hm).mpr z), if_pos z]
        · rw [if_neg (fun y => z ((hneg m hm).mp y)), if_neg z]
      · rw [j8]
        refine smN_congr 10 (fun m hm => ?_)
        show (if N 227 m < 0 then (0 : Int) else dm S m (N 227 m).toNat) = if bT S m < 0 then 0 else dm S m (bT S m).toNat
        by_cases z : bT S m < 0
        · rw [if_pos ((hneg m hm).mpr z), if_pos z]
        · rw [if_neg (fun y => z ((hneg m hm).mp y)), if_neg z, h27 m hm, if_neg z]
    | succ q ih =>
      intro c hc hc1 N hJ
      obtain ⟨j1, j2, j3, j4, j5, j6, j7, j8⟩ := id hJ
      have a1 : -2147483648 ≤ (c : Int) ∧ (c : Int) < 2147483648 := ⟨by omega, by omega⟩
      have a2 : ¬ (c : Int) > p := by omega
      have a3 : N 226 3 = p := by rw [j2 3 (by omega) (by omega), n4 226 (by omega), g3]
      have a4 : 0 ≤ (c : Int) ∧ (c : Int) < 20 := ⟨by omega, by omega⟩
      have a5 := hH.1 c hc1 (by omega)
      have a6 : N 235 = N4 235 := j1 235 (by omega) (by omega) (by omega) (by omega) (by omega) (by omega)
      have a7 : -2147483648 ≤ N4 235 c ∧ N4 235 c < 2147483648 := ⟨by omega, by omega⟩
      have join : ∀ N', RnJ S N4 N' k p (c + 1) → RT (Sp (d + 4)) 5 Q 125 [some (.inr (.inr 226)), some (.inl (c : Int))] [] N' := by
        intro N' h
        have h9 := ih (c + 1) (by omega) (by omega) N' h
        simp only [↓e5, ↓e5_0, ↓e5_1, ↓e5_4, ↓e5_6, ↓e5_9, ↓e5_10, ↓e5_13, ↓e5_15, ↓e5_18, ↓e5_19, ↓e5_20, ↓e5_23, ↓e5_24, ↓e5_25, ↓e5_28, ↓e5_29, ↓e5_32, ↓e5_33, ↓e5_36, ↓e5_37, ↓e5_40, ↓e5_43, ↓e5_44, ↓e5_47, ↓e5_50, ↓e5_51, ↓e5_52, ↓e5_55, ↓e5_56, ↓e5_59, ↓e5_60, ↓e5_63, ↓e5_64, ↓e5_67, ↓e5_68, ↓e5_71, ↓e5_72, ↓e5_75, ↓e5_76, ↓e5_78, ↓e5_79, ↓e5_82, ↓e5_85, ↓e5_86, ↓e5_89, ↓e5_92, ↓e5_93, ↓e5_94, ↓e5_97, ↓e5_98, ↓e5_99, ↓e5_102, ↓e5_103, ↓e5_104, ↓e5_105, ↓e5_106, ↓e5_107, ↓e5_110, ↓e5_111, ↓e5_114, ↓e5_117, ↓e5_118, ↓e5_119, ↓e5_120, ↓e5_121, ↓e5_122, ↓e5_125, ↓e5_128, ↓e5_131, znl_i, znl_r, znl_n, zcs_0, zcs_1, zcs_2, zcs_3, zcat_0, zcat_1, zcat_2, zcat_3, zbl_0, zbl_1, true_and, and_true, ↓zret_some, ↓zret_none, Nat.reduceAdd, Nat.reduceLeDiff, Nat.reduceMul, eq_self, Int.reduceToNat, Int.reduceLE, Int.reduceLT, Int.reduceNeg, and_self]
        rw [show ((c : Int) + 1) = ((c + 1 : Nat) : Int) by omega]
        exact h9
      rw [e5_77]
      simp only [↓e5, ↓e5_0, ↓e5_1, ↓e5_4, ↓e5_6, ↓e5_9, ↓e5_10, ↓e5_13, ↓e5_15, ↓e5_18, ↓e5_19, ↓e5_20, ↓e5_23, ↓e5_24, ↓e5_25, ↓e5_28, ↓e5_29, ↓e5_32, ↓e5_33, ↓e5_36, ↓e5_37, ↓e5_40, ↓e5_43, ↓e5_44, ↓e5_47, ↓e5_50, ↓e5_51, ↓e5_52, ↓e5_55, ↓e5_56, ↓e5_59, ↓e5_60, ↓e5_63, ↓e5_64, ↓e5_67, ↓e5_68, ↓e5_71, ↓e5_72, ↓e5_75, ↓e5_76, ↓e5_78, ↓e5_79, ↓e5_82, ↓e5_85, ↓e5_86, ↓e5_89, ↓e5_92, ↓e5_93, ↓e5_94, ↓e5_98, ↓e5_99, ↓e5_102, ↓e5_103, ↓e5_104, ↓e5_105, ↓e5_106, ↓e5_107, ↓e5_110, ↓e5_111, ↓e5_114, ↓e5_117, ↓e5_118, ↓e5_119, ↓e5_120, ↓e5_121, ↓e5_122, ↓e5_128, ↓e5_131, znl_i, znl_r, znl_n, zcs_0, zcs_1, zcs_2, zcs_3, zcat_0, zcat_1, zcat_2, zcat_3, zbl_0, zbl_1, true_and, and_true, ↓zret_some, ↓zret_none, Nat.reduceAdd, Nat.reduceLeDiff, Nat.reduceMul, eq_self, Int.reduceToNat, Int.reduceLE, Int.reduceLT, Int.reduceNeg, and_self, zrg, zkc_0, zin_1, zin_2, zin_3, zin_4, zin_5, zin_6, zin_7, zin_8, zin_9, zaa_9, zkc_10, zin_11, zin_12, zkc_13, zin_14, zin_15, zkc_16, zin_17, zin_18, zkc_19, zin_20, zin_21, zin_22, zin_23, zin_24, zin_25, zin_26, zin_27, zin_28, zaa_28, zkc_29, zin_30, zin_31, zkc_32, zin_33, zin_34, zkc_35, zin_36, zin_37, zkc_38, zin_39, zin_40, zin_41, zin_42, zin_43, zin_44, zin_45, zin_46, zin_47, zaa_47, zkc_48, zin_49, zin_50, zkc_51, zin_52, zin_53, zkc_54, zin_55, zin_56, zkc_209, zkc_210, zin_211, zaa_211, zkc_212, zin_213, zkc_214, zkc_215, zin_216, zin_217, zkc_218, zin_219, zin_220, zin_221, zkc_222, zin_223, zaa_223, zin_224, zin_225, zkc_226, zin_227, zin_228, zin_229, zin_230, zin_231, zin_232, zkc_233, zin_234, zaa_234, zin_235, zin_236, zin_237, zin_238, zin_239, zin_240, zin_241, zin_242, zin_243, zin_244, zin_245, zin_246, zin_247, zin_248, zin_249, zin_250, zkc_251, zin_252, zin_253, zkc_374, zin_375, zin_376, zin_377, zin_378, zin_379, zin_380, zin_381, zin_382, zin_383, zin_384, zin_385, zin_386, zin_387, a3, a1, hpr, a2, a4, a6, a7, ↓reduceIte, Int.toNat_natCast]
      by_cases hr : N4 235 c ≤ 0
      · rw [if_pos hr]
        refine join N ⟨j1, j2, j3, fun i e i1 e1 e2 e3 => ?_, j5, j6, j7, j8⟩
        have h1 := j4 i e i1 e1 e2 e3
        have h2 : e ≠ c := fun z => by subst z; omega
        rw [h1]
        by_cases z : e < c
        · rw [if_pos z, if_pos (by omega)]
        · rw [if_neg z, if_neg (by omega)]
      · rw [if_neg hr]
        obtain ⟨i, hi⟩ : ∃ i : Nat, N4 235 c = ((i + 1 : Nat) : Int) := ⟨(N4 235 c).toNat - 1, by omega⟩
        have hik : i < k := by omega
        obtain ⟨s, t1, t2, t3⟩ : ∃ s : Nat, bT S (fo S i) = s ∧ c ≤ p ∧ (opnN S (nsl S).toNat)[c - 1]? = some s := by
          rcases hmt i c hik hc1 (by omega) hi with ⟨q1, q2⟩ | q
          · omega
          · exact q
        have hm := (lst_mem (fat i hik)).1
        obtain ⟨u1, u2, u3, u4, u5, u6, u7, u8, u9⟩ : (s : Int) < nsl S ∧ s < 10 ∧ 0 ≤ dm S (fo S i) s ∧ 0 ≤ plc S s ∧ 0 ≤ S 1 (fo S i) ∧ True ∧ True ∧ True ∧ True := by
          rcases bT_cases hW hm with q | ⟨r, r1, r2, r3, r4, r5, r6, r7, r8, r9, r10, r11⟩
          · omega
          · have : r = s := by omega
            subst this
            exact ⟨r2, r3, r6, r8, r10, trivial, trivial, trivial, trivial⟩
        have b1 : 0 ≤ (c : Int) - 1 ∧ (c : Int) - 1 < 10 := ⟨by omega, by omega⟩
        have b2 : ((c : Int) - 1).toNat = c - 1 := by omega
        have b3 : N 231 (c - 1) = s := by
          rw [j1 231 (by omega) (by omega) (by omega) (by omega) (by omega) (by omega), n4 231 (by omega)]
          exact g5 _ _ t3
        have b4 : 0 ≤ ((i + 1 : Nat) : Int) - 1 ∧ ((i + 1 : Nat) : Int) - 1 < 10 := ⟨by omega, by omega⟩
        have b5 : (((i + 1 : Nat) : Int) - 1).toNat = i := by omega
        have b6 : N 230 i = (fo S i : Nat) := by
          rw [j1 230 (by omega) (by omega) (by omega) (by omega) (by omega) (by omega), n4 230 (by omega), g1 230 (by omega) (by omega) (by omega)]
          exact f4 i _ (fat i hik)
        have b7 : N 229 s = plc S s := by
          rw [j1 229 (by omega) (by omega) (by omega) (by omega) (by omega) (by omega), n4 229 (by omega), g4 s (by omega), if_neg (by omega)]
        have hRN : RelC N 0 S := RelC_congr (fun b hb => j1 b (by omega) (by omega) (by omega) (by omega) (by omega) (by omega)) hR4
        simp only [↓e5, ↓e5_0, ↓e5_1, ↓e5_4, ↓e5_6, ↓e5_9, ↓e5_10, ↓e5_13, ↓e5_15, ↓e5_18, ↓e5_19, ↓e5_20, ↓e5_23, ↓e5_24, ↓e5_25, ↓e5_28, ↓e5_29, ↓e5_32, ↓e5_33, ↓e5_36, ↓e5_37, ↓e5_40, ↓e5_43, ↓e5_44, ↓e5_47, ↓e5_50, ↓e5_51, ↓e5_52, ↓e5_55, ↓e5_56, ↓e5_59, ↓e5_60, ↓e5_63, ↓e5_64, ↓e5_67, ↓e5_68, ↓e5_71, ↓e5_72, ↓e5_75, ↓e5_76, ↓e5_78, ↓e5_79, ↓e5_82, ↓e5_85, ↓e5_86, ↓e5_89, ↓e5_92, ↓e5_93, ↓e5_94, ↓e5_97, ↓e5_98, ↓e5_99, ↓e5_102, ↓e5_103, ↓e5_104, ↓e5_105, ↓e5_106, ↓e5_107, ↓e5_110, ↓e5_111, ↓e5_114, ↓e5_117, ↓e5_118, ↓e5_119, ↓e5_120, ↓e5_121, ↓e5_122, ↓e5_128, ↓e5_131, znl_i, znl_r, znl_n, zcs_0, zcs_1, zcs_2, zcs_3, zcat_0, zcat_1, zcat_2, zcat_3, zbl_0, zbl_1, true_and, and_true, ↓zret_some, ↓zret_none, Nat.reduceAdd, Nat.reduceLeDiff, Nat.reduceMul, eq_self, Int.reduceToNat, Int.reduceLE, Int.reduceLT, Int.reduceNeg, and_self, zrg, zkc_0, zin_1, zin_2, zin_3, zin_4, zin_5, zin_6, zin_7, zin_8, zin_9, zaa_9, zkc_10, zin_11, zin_12, zkc_13, zin_14, zin_15, zkc_16, zin_17, zin_18, zkc_19, zin_20, zin_21, zin_22, zin_23, zin_24, zin_25, zin_26, zin_27, zin_28, zaa_28, zkc_29, zin_30, zin_31, zkc_32, zin_33, zin_34, zkc_35, zin_36, zin_37, zkc_38, zin_39, zin_40, zin_41, zin_42, zin_43, zin_44, zin_45, zin_46, zin_47, zaa_47, zkc_48, zin_49, zin_50, zkc_51, zin_52, zin_53, zkc_54, zin_55, zin_56, zkc_209, zkc_210, zin_211, zaa_211, zkc_212, zin_213, zkc_214, zkc_215, zin_216, zin_217, zkc_218, zin_219, zin_220, zin_221, zkc_222, zin_223, zaa_223, zin_224, zin_225, zkc_226, zin_227, zin_228, zin_229, zin_230, zin_231, zin_232, zkc_233, zin_234, zaa_234, zin_235, zin_236, zin_237, zin_238, zin_239, zin_240, zin_241, zin_242, zin_243, zin_244, zin_245, zin_246, zin_247, zin_248, zin_249, zin_250, zkc_251, zin_252, zin_253, zkc_374, zin_375, zin_376, zin_377, zin_378, zin_379, zin_380, zin_381, zin_382, zin_383, zin_384, zin_385, zin_386, zin_387, a4, a6, hi, b1, b2, b3, b4, b5, b6, Int.toNat_natCast]
        refine s_give (d + 1) _ N S (fo S i) s hRN hW j3 hm u2 u4 b7 u5 u3 (fun N' w1 w2 => ?_)
        rw [zret_none]
        have hold : N 227 (fo S i) = -5 := by
          have := j4 i c hik hc1 (by omega) hi
          rw [this, if_neg (by omega)]
        have x27 : ∀ m, N' 227 m = if m = fo S i then (s : Int) else N 227 m := fun m => by
          rw [w1 227 (by omega) (by omega) (by omega), zup_ne _ _ _ (by omega), zup_ne _ _ _ (by omega), zup_ne _ _ _ (by omega)]
          simp [zup]
        have x28 : ∀ m, N' 228 m = if m = fo S i then plc S s else N 228 m := fun m => by
          rw [w1 228 (by omega) (by omega) (by omega), zup_ne _ _ _ (by omega), zup_ne _ _ _ (by omega)]
          simp [zup]
        refine join N' ⟨fun b b1 b2 b3 b4 b5 b6 => ?_, fun j h1 h2 => ?_, w2, fun i' e i1 e1 e2 e3 => ?_, fun m hm' hno => ?_, fun m hm' => ?_, ?_, ?_⟩
        · rw [w1 b b1 b2 b6, zup_ne _ _ _ b3, zup_ne _ _ _ b3, zup_ne _ _ _ b5, zup_ne _ _ _ b4]
          exact j1 b b1 b2 b3 b4 b5 b6
        · rw [w1 226 (by omega) (by omega) (by omega)]
          simp [zup, h1, h2]
          exact j2 j h1 h2
        · rw [x27]
          by_cases z : i' = i
          · subst z
            have : e = c := hH.2.1 e c e1 e2 hc1 (by omega) (by omega) (by omega)
            rw [if_pos rfl, if_pos (by omega), t1]
          · rw [if_neg (fun y => z (finj _ _ i1 hik y)), j4 i' e i1 e1 e2 e3]
            have : e ≠ c := fun y => by subst y; omega
            by_cases y : e < c
            · rw [if_pos y, if_pos (by omega)]
            · rw [if_neg y, if_neg (by omega)]
        · rw [x27, if_neg (fun y => hno i hik y.symm)]
          exact j5 m hm' hno
        · rw [x28, x27]
          by_cases y : m = fo S i
          · rw [if_pos y, if_pos y, if_neg (by omega), Int.toNat_natCast]
          · rw [if_neg y, if_neg y]; exact j6 m hm'
        · have h1 : N' 226 4 = N 226 4 + 1 := by rw [w1 226 (by omega) (by omega) (by omega)]; simp [zup]
          have h2 : smN (fun m => if N' 227 m < 0 then 0 else 1) 10 = smN (fun m => if m = fo S i then 1 else (fun m => if N 227 m < 0 then 0 else 1) m) 10 := smN_congr 10 (fun m hm' => by
            show (if N' 227 m < 0 then (0 : Int) else 1) = if m = fo S i then 1 else (if N 227 m < 0 then 0 else 1)
            rw [x27]
            by_cases y : m = fo S i
            · rw [if_pos y, if_pos y, if_neg (by omega)]
            · rw [if_neg y, if_neg y])
          rw [h1, h2, smN_upd _ _ _ 10 hm, hold, ← j7]
          simp
        · have h1 : N' 226 5 = N 226 5 + dm S (fo S i) s := by rw [w1 226 (by omega) (by omega) (by omega)]; simp [zup]
          have h2 : smN (fun m => if N' 227 m < 0 then 0 else dm S m (N' 227 m).toNat) 10 = smN (fun m => if m = fo S i then dm S (fo S i) s else (fun m => if N 227 m < 0 then 0 else dm S m (N 227 m).toNat) m) 10 := smN_congr 10 (fun m hm' => by
            show (if N' 227 m < 0 then (0 : Int) else dm S m (N' 227 m).toNat) = if m = fo S i then dm S (fo S i) s else (if N 227 m < 0 then 0 else dm S m (N 227 m).toNat)
            rw [x27]
            by_cases y : m = fo S i
            · rw [if_pos y, if_pos y, if_neg (by omega), Int.toNat_natCast, y]
            · rw [if_neg y, if_neg y])
          rw [h1, h2, smN_upd _ _ _ 10 hm, hold, ← j8]
          simp
  have h9 := loop p 1 (by omega) (by omega) N4 ⟨fun _ _ _ _ _ _ _ => rfl, fun _ _ _ => rfl, hV4, fun i e i1 e1 e2 e3 => ?_, fun m hm _ => ?_, fun m hm => ?_, ?_, ?_⟩
  · rw [zret_none]
    simp only [↓e5, ↓e5_0, ↓e5_1, ↓e5_4, ↓e5_6, ↓e5_9, ↓e5_10, ↓e5_13, ↓e5_15, ↓e5_18, ↓e5_19, ↓e5_20, ↓e5_23, ↓e5_24, ↓e5_25, ↓e5_28, ↓e5_29, ↓e5_32, ↓e5_33, ↓e5_36, ↓e5_37, ↓e5_40, ↓e5_43, ↓e5_44, ↓e5_47, ↓e5_50, ↓e5_51, ↓e5_52, ↓e5_55, ↓e5_56, ↓e5_59, ↓e5_60, ↓e5_63, ↓e5_64, ↓e5_67, ↓e5_68, ↓e5_71, ↓e5_72, ↓e5_75, ↓e5_76, ↓e5_78, ↓e5_79, ↓e5_82, ↓e5_85, ↓e5_86, ↓e5_89, ↓e5_92, ↓e5_93, ↓e5_94, ↓e5_97, ↓e5_98, ↓e5_99, ↓e5_102, ↓e5_103, ↓e5_104, ↓e5_105, ↓e5_106, ↓e5_107, ↓e5_110, ↓e5_111, ↓e5_114, ↓e5_117, ↓e5_118, ↓e5_119, ↓e5_120, ↓e5_121, ↓e5_122, ↓e5_125, ↓e5_128, ↓e5_131, znl_i, znl_r, znl_n, zcs_0, zcs_1, zcs_2, zcs_3, zcat_0, zcat_1, zcat_2, zcat_3, zbl_0, zbl_1, true_and, and_true, ↓zret_some, ↓zret_none, Nat.reduceAdd, Nat.reduceLeDiff, Nat.reduceMul, eq_self, Int.reduceToNat, Int.reduceLE, Int.reduceLT, Int.reduceNeg, and_self]
    exact h9
  · rw [if_neg (by omega), n4 227 (by omega)]
    exact (n27 _ (lst_mem (fat i i1)).1).1
  · rw [n4 227 (by omega)]; exact (n27 m hm).1
  · rw [n4 227 (by omega), n4 228 (by omega), (n27 m hm).1, (n27 m hm).2]
    simp
  · rw [n4 226 (by omega), n45.1, smN_congr (g := fun _ => 0) 10 (fun m hm => by show (if N4 227 m < 0 then (0 : Int) else 1) = 0; rw [n4 227 (by omega), (n27 m hm).1]; simp), smN_zero]
  · rw [n4 226 (by omega), n45.2, smN_congr (g := fun _ => 0) 10 (fun m hm => by show (if N4 227 m < 0 then (0 : Int) else _) = 0; rw [n4 227 (by omega), (n27 m hm).1]; simp), smN_zero]
