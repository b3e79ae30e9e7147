/-! ### the shape's text: what both readers do -/
/-- D: row 0 (column, row, size, anchor or -1), row 1 the slots' columns, row 2 their rows -/
def accB (D : zM) (c : Int) : Bool := if c = 47 then decide (D 0 0 ≠ 0 ∧ D 0 1 < 5) else decide (D 0 0 < 6 ∧ (c = 46 ∨ (c = 35 ∧ D 0 2 < 10) ∨ (c = 42 ∧ D 0 3 < 0 ∧ D 0 2 < 10)))
def nxt (D : zM) (c : Int) : zM :=
  if c = 47 then zup (zup D 0 1 (D 0 1 + 1)) 0 0 0
  else if c = 46 then zup D 0 0 (D 0 0 + 1)
  else zup (zup (zup (zup (zup D 1 (D 0 2).toNat (D 0 0)) 2 (D 0 2).toNat (D 0 1)) 0 3 (if c = 42 then D 0 2 else D 0 3)) 0 2 (D 0 2 + 1)) 0 0 (D 0 0 + 1)
def D0 : zM := fun b j => if b = 0 ∧ j = 3 then -1 else 0
def rdS (t : Nat → Int) : Nat → zM
  | 0 => D0
  | k + 1 => nxt (rdS t k) (t k)
def erS (t : Nat → Int) : Nat → Nat → Int
  | 0, _ => -1
  | n + 1, k => if accB (rdS t k) (t k) = true then erS t n (k + 1) else (k : Int)
theorem erS_s (t : Nat → Int) (n k : Nat) : erS t (n + 1) k = if accB (rdS t k) (t k) = true then erS t n (k + 1) else (k : Int) := rfl
/-- the error's position, -1 without one -/
def ferr (t : Nat → Int) (n : Nat) : Int := if 0 ≤ erS t n 0 then erS t n 0 else if rdS t n 0 3 < 0 ∨ rdS t n 0 0 = 0 then (n : Int) else -1
theorem erS_rng (t : Nat → Int) : ∀ n k : Nat, erS t n k = -1 ∨ (0 ≤ erS t n k ∧ erS t n k < k + n)
  | 0, _ => Or.inl rfl
  | n + 1, k => by
    rw [erS_s]
    split
    · rcases erS_rng t n (k + 1) with h | h
      · exact Or.inl h
      · exact Or.inr (by omega)
    · exact Or.inr (by omega)
def WfD (D : zM) : Prop := (0 ≤ D 0 0 ∧ D 0 0 ≤ 6) ∧ (0 ≤ D 0 1 ∧ D 0 1 ≤ 5) ∧ (0 ≤ D 0 2 ∧ D 0 2 ≤ 10) ∧ (-1 ≤ D 0 3 ∧ D 0 3 < 10 ∧ (0 ≤ D 0 3 → D 0 3 < D 0 2)) ∧ ∀ s : Nat, (s : Int) < D 0 2 → 0 ≤ D 1 s ∧ D 1 s < 6 ∧ 0 ≤ D 2 s ∧ D 2 s < 6
theorem WfD_0 : WfD D0 := by
  refine ⟨⟨by decide, by decide⟩, ⟨by decide, by decide⟩, ⟨by decide, by decide⟩, ⟨by decide, by decide, fun h => ?_⟩, fun s hs => ?_⟩
  · exact absurd h (by decide)
  · have : D0 0 2 = 0 := rfl
    omega
theorem nxt_47 (D : zM) : nxt D 47 = zup (zup D 0 1 (D 0 1 + 1)) 0 0 0 := rfl
theorem nxt_46 (D : zM) : nxt D 46 = zup D 0 0 (D 0 0 + 1) := rfl
theorem WfD_n {D : zM} {c : Int} (h : WfD D) (ha : accB D c = true) : WfD (nxt D c) := by
  obtain ⟨h1, h2, h3, h4, h5⟩ := h
  unfold accB at ha
  by_cases c1 : c = 47
  · subst c1
    rw [if_pos rfl] at ha
    have ha := of_decide_eq_true ha
    rw [nxt_47]
    have e00 : zup (zup D 0 1 (D 0 1 + 1)) 0 0 0 0 0 = 0 := zup_at _ _ _ _
    have e01 : zup (zup D 0 1 (D 0 1 + 1)) 0 0 0 0 1 = D 0 1 + 1 := by rw [zup_off _ _ (by omega), zup_at]
    have e0 : ∀ j, j ≠ 0 → j ≠ 1 → zup (zup D 0 1 (D 0 1 + 1)) 0 0 0 0 j = D 0 j := fun j j0 j1 => by rw [zup_off _ _ (Or.inr j0), zup_off _ _ (Or.inr j1)]
    have eb : ∀ b, b ≠ 0 → zup (zup D 0 1 (D 0 1 + 1)) 0 0 0 b = D b := fun b b0 => by rw [zup_ne _ _ _ b0, zup_ne _ _ _ b0]
    unfold WfD
    rw [e00, e01, e0 2 (by omega) (by omega), e0 3 (by omega) (by omega), eb 1 (by omega), eb 2 (by omega)]
    exact ⟨by omega, by omega, h3, h4, h5⟩
  · rw [if_neg c1] at ha
    have ha := of_decide_eq_true ha
    by_cases c2 : c = 46
    · subst c2
      rw [nxt_46]
      have e00 : zup D 0 0 (D 0 0 + 1) 0 0 = D 0 0 + 1 := zup_at _ _ _ _
      have e0 : ∀ j, j ≠ 0 → zup D 0 0 (D 0 0 + 1) 0 j = D 0 j := fun j j0 => by rw [zup_off _ _ (Or.inr j0)]
      have eb : ∀ b, b ≠ 0 → zup D 0 0 (D 0 0 + 1) b = D b := fun b b0 => by rw [zup_ne _ _ _ b0]
      unfold WfD
      rw [e00, e0 1 (by omega), e0 2 (by omega), e0 3 (by omega), eb 1 (by omega), eb 2 (by omega)]
      exact ⟨by omega, h2, h3, h4, h5⟩
    · have hn : nxt D c = zup (zup (zup (zup (zup D 1 (D 0 2).toNat (D 0 0)) 2 (D 0 2).toNat (D 0 1)) 0 3 (if c = 42 then D 0 2 else D 0 3)) 0 2 (D 0 2 + 1)) 0 0 (D 0 0 + 1) := by unfold nxt; rw [if_neg c1, if_neg c2]
      rw [hn]
      generalize hE : zup (zup (zup (zup (zup D 1 (D 0 2).toNat (D 0 0)) 2 (D 0 2).toNat (D 0 1)) 0 3 (if c = 42 then D 0 2 else D 0 3)) 0 2 (D 0 2 + 1)) 0 0 (D 0 0 + 1) = E
      have e00 : E 0 0 = D 0 0 + 1 := by rw [← hE]; exact zup_at _ _ _ _
      have e01 : E 0 1 = D 0 1 := by rw [← hE]; simp [zup]
      have e02 : E 0 2 = D 0 2 + 1 := by rw [← hE]; simp [zup]
      have e03 : E 0 3 = if c = 42 then D 0 2 else D 0 3 := by rw [← hE]; simp [zup]
      have e1 : ∀ s, E 1 s = if s = (D 0 2).toNat then D 0 0 else D 1 s := fun s => by rw [← hE]; simp [zup]
      have e2 : ∀ s, E 2 s = if s = (D 0 2).toNat then D 0 1 else D 2 s := fun s => by rw [← hE]; simp [zup]
      unfold WfD
      rw [e00, e01, e02, e03]
      refine ⟨by omega, h2, by omega, ?_, fun s hs => ?_⟩
      · split
        · omega
        · omega
      · rw [e1, e2]
        split
        · omega
        · exact h5 s (by omega)
/-! the class's reader -/
def Cd (M : zM) (D : zM) : Prop := M 214 1 = D 0 0 ∧ M 214 2 = D 0 1 ∧ M 215 2 = D 0 2 ∧ M 215 3 = m5 (D 0 3) ∧ ∀ s : Nat, (s : Int) < D 0 2 → M 216 s = D 1 s ∧ M 217 s = D 2 s
def Fdr (M N : zM) : Prop := ∀ b, b < 214 ∨ 218 ≤ b → N b = M b
theorem s_tat (d : Nat) (Q : zQ) (M : zM) (p : Nat) (n : Nat) (hn : n ≤ 60) (hp : p ≤ 1000) (h : M 212 0 = n) : Sp (d + 1) 38 [.inr (.inr 212), .inl (p : Int)] M Q = Q (some (.inl (if p < n then M 213 p else -5))) M := by
  have hpr : -2147483648 ≤ (p : Int) ∧ (p : Int) < 2147483648 := ⟨by omega, by omega⟩
  have hnr : -2147483648 ≤ (n : Int) ∧ (n : Int) < 2147483648 := ⟨by omega, by omega⟩
  simp only [↓e38, ↓e38_0, ↓e38_1, ↓e38_4, ↓e38_5, ↓e38_6, ↓e38_9, ↓e38_12, ↓e38_13, ↓e38_16, ↓e38_17, ↓e38_18, ↓e38_21, ↓e38_23, znl_i, znl_r, znl_n, zcs_0, zcs_1, zcs_2, zcs_3, zcat_0, zcat_1, zcat_2, zcat_3, zbl_0, zbl_1, true_and, and_true, ↓zret_some, ↓zret_none, Nat.reduceAdd, Nat.reduceLeDiff, Nat.reduceMul, eq_self, Int.reduceToNat, Int.reduceLE, Int.reduceLT, Int.reduceNeg, and_self, zrg, zkc_0, zin_1, zin_2, zin_3, zin_4, zin_5, zin_6, zin_7, zin_8, zin_9, zaa_9, zkc_10, zin_11, zin_12, zkc_13, zin_14, zin_15, zkc_16, zin_17, zin_18, zkc_19, zin_20, zin_21, zin_22, zin_23, zin_24, zin_25, zin_26, zin_27, zin_28, zaa_28, zkc_29, zin_30, zin_31, zkc_32, zin_33, zin_34, zkc_35, zin_36, zin_37, zkc_38, zin_39, zin_40, zin_41, zin_42, zin_43, zin_44, zin_45, zin_46, zin_47, zaa_47, zkc_48, zin_49, zin_50, zkc_51, zin_52, zin_53, zkc_54, zin_55, zin_56, zkc_209, zkc_210, zin_211, zaa_211, zkc_212, zin_213, zkc_214, zkc_215, zin_216, zin_217, zkc_218, zin_219, zin_220, zin_221, zkc_222, zin_223, zaa_223, zin_224, zin_225, zkc_226, zin_227, zin_228, zin_229, zin_230, zin_231, zin_232, zkc_233, zin_234, zaa_234, zin_235, zin_236, zin_237, zin_238, zin_239, zin_240, zin_241, zin_242, zin_243, zin_244, zin_245, zin_246, zin_247, zin_248, zin_249, zin_250, zkc_251, zin_252, zin_253, zkc_374, zin_375, zin_376, zin_377, zin_378, zin_379, zin_380, zin_381, zin_382, zin_383, zin_384, zin_385, zin_386, zin_387, hpr, hnr, h, show ¬ (p : Int) < 0 by omega, ↓reduceIte]
  by_cases z : p < n
  · have h0 : 0 ≤ (p : Int) ∧ (p : Int) < 60 := ⟨by omega, by omega⟩
    rw [if_neg (by omega), if_pos z]
    simp only [h0, and_self, true_and, Int.toNat_natCast]
  · rw [if_pos (by omega), if_neg z]
theorem s_takes (d : Nat) (Q : zQ) (M D : zM) (c : Int) (hc : zrg c) (hD : WfD D) (hM : Cd M D)
    (hQ1 : accB D c = true → ∀ N, Cd N (nxt D c) → Fdr M N → Q (some (.inl 1)) N) (hQ0 : accB D c = false → ∀ N, Fdr M N → Q (some (.inl 0)) N) : Sp (d + 4) 33 [.inr (.inr 214), .inl c] M Q := by
  obtain ⟨h1, h2, h3, h4, h5⟩ := id hD
  obtain ⟨m1, m2, m3, m4, m5'⟩ := id hM
  have hc' := hc
  simp only [zrg] at hc'
  have r0 : -2147483648 ≤ D 0 0 ∧ D 0 0 < 2147483648 := by omega
  have r1 : -2147483648 ≤ D 0 1 + 1 ∧ D 0 1 + 1 < 2147483648 := by omega
  have r2 : -2147483648 ≤ D 0 2 ∧ D 0 2 < 2147483648 := by omega
  have r3 : -2147483648 ≤ m5 (D 0 3) ∧ m5 (D 0 3) < 2147483648 := by unfold m5; split <;> omega
  by_cases c1 : c = 47
  · subst c1
    have ha : accB D 47 = decide (D 0 0 ≠ 0 ∧ D 0 1 < 5) := rfl
    simp only [↓e33, ↓e33_0, ↓e33_1, ↓e33_3, ↓e33_6, ↓e33_7, ↓e33_10, ↓e33_11, ↓e33_12, ↓e33_15, ↓e33_17, ↓e33_20, ↓e33_21, ↓e33_22, ↓e33_25, ↓e33_28, ↓e33_29, ↓e33_30, ↓e33_31, ↓e33_31i, ↓e33_32, ↓e33_35, ↓e33_36, ↓e33_37, ↓e33_40, ↓e33_41, ↓e34, ↓e34_0, ↓e34_1, ↓e34_4, ↓e34_7, ↓e34_8, ↓e34_11, ↓e34_12, ↓e34_13, ↓e34_15, ↓e34_18, ↓e34_19, ↓e34_20, ↓e34_21, ↓e34_21i, ↓e34_22, ↓e34_25, ↓e34_26, ↓e34_27, ↓e34_30, ↓e34_31, ↓e34_32, ↓e34_35, ↓e34_36, znl_i, znl_r, znl_n, zcs_0, zcs_1, zcs_2, zcs_3, zcat_0, zcat_1, zcat_2, zcat_3, zbl_0, zbl_1, true_and, and_true, ↓zret_some, ↓zret_none, Nat.reduceAdd, Nat.reduceLeDiff, Nat.reduceMul, eq_self, Int.reduceToNat, Int.reduceLE, Int.reduceLT, Int.reduceNeg, and_self, zrg, zkc_0, zin_1, zin_2, zin_3, zin_4, zin_5, zin_6, zin_7, zin_8, zin_9, zaa_9, zkc_10, zin_11, zin_12, zkc_13, zin_14, zin_15, zkc_16, zin_17, zin_18, zkc_19, zin_20, zin_21, zin_22, zin_23, zin_24, zin_25, zin_26, zin_27, zin_28, zaa_28, zkc_29, zin_30, zin_31, zkc_32, zin_33, zin_34, zkc_35, zin_36, zin_37, zkc_38, zin_39, zin_40, zin_41, zin_42, zin_43, zin_44, zin_45, zin_46, zin_47, zaa_47, zkc_48, zin_49, zin_50, zkc_51, zin_52, zin_53, zkc_54, zin_55, zin_56, zkc_209, zkc_210, zin_211, zaa_211, zkc_212, zin_213, zkc_214, zkc_215, zin_216, zin_217, zkc_218, zin_219, zin_220, zin_221, zkc_222, zin_223, zaa_223, zin_224, zin_225, zkc_226, zin_227, zin_228, zin_229, zin_230, zin_231, zin_232, zkc_233, zin_234, zaa_234, zin_235, zin_236, zin_237, zin_238, zin_239, zin_240, zin_241, zin_242, zin_243, zin_244, zin_245, zin_246, zin_247, zin_248, zin_249, zin_250, zkc_251, zin_252, zin_253, zkc_374, zin_375, zin_376, zin_377, zin_378, zin_379, zin_380, zin_381, zin_382, zin_383, zin_384, zin_385, zin_386, zin_387, m1, m2, r0, r1, ne_eq, not_true_eq_false, ↓reduceIte]
    by_cases z0 : D 0 0 = 0
    · rw [if_pos z0]
      exact hQ0 (by rw [ha]; exact decide_eq_false (fun z => z.1 z0)) M (fun _ _ => rfl)
    · rw [if_neg z0]
      by_cases z1 : D 0 1 + 1 < 6
      · rw [if_pos z1]
        refine hQ1 (by rw [ha]; exact decide_eq_true ⟨z0, by omega⟩) _ ?_ (fun b hb => by rw [zup_ne _ _ _ (by omega), zup_ne _ _ _ (by omega)])
        rw [nxt_47]
        refine ⟨?_, ?_, ?_, ?_, fun s hs => ?_⟩
        · rw [zup_at, zup_at]
        · rw [zup_off _ _ (by omega), zup_at, zup_off _ _ (by omega), zup_at]
        · rw [zup_ne _ _ _ (by omega), zup_ne _ _ _ (by omega), zup_off _ _ (by omega), zup_off _ _ (by omega)]; exact m3
        · rw [zup_ne _ _ _ (by omega), zup_ne _ _ _ (by omega), zup_off _ _ (by omega), zup_off _ _ (by omega)]; exact m4
        · rw [zup_off _ _ (by omega), zup_off _ _ (by omega)] at hs
          rw [zup_ne _ (b := 216) _ _ (by omega), zup_ne _ (b := 216) _ _ (by omega), zup_ne _ (b := 217) _ _ (by omega), zup_ne _ (b := 217) _ _ (by omega), zup_ne _ (b := 1) _ _ (by omega), zup_ne _ (b := 1) _ _ (by omega), zup_ne _ (b := 2) _ _ (by omega), zup_ne _ (b := 2) _ _ (by omega)]
          exact m5' s hs
      · rw [if_neg z1]
        exact hQ0 (by rw [ha]; exact decide_eq_false (fun z => z1 (by omega))) M (fun _ _ => rfl)
  · have ha : accB D c = decide (D 0 0 < 6 ∧ (c = 46 ∨ (c = 35 ∧ D 0 2 < 10) ∨ (c = 42 ∧ D 0 3 < 0 ∧ D 0 2 < 10))) := if_neg c1
    simp only [↓e33, ↓e33_0, ↓e33_1, ↓e33_3, ↓e33_6, ↓e33_7, ↓e33_10, ↓e33_11, ↓e33_12, ↓e33_15, ↓e33_17, ↓e33_21, ↓e33_22, ↓e33_25, ↓e33_28, ↓e33_29, ↓e33_30, ↓e33_31, ↓e33_31i, ↓e33_32, ↓e33_35, ↓e33_36, ↓e33_37, ↓e33_40, ↓e33_41, znl_i, znl_r, znl_n, zcs_0, zcs_1, zcs_2, zcs_3, zcat_0, zcat_1, zcat_2, zcat_3, zbl_0, zbl_1, true_and, and_true, ↓zret_some, ↓zret_none, Nat.reduceAdd, Nat.reduceLeDiff, Nat.reduceMul, eq_self, Int.reduceToNat, Int.reduceLE, Int.reduceLT, Int.reduceNeg, and_self, zrg, zkc_0, zin_1, zin_2, zin_3, zin_4, zin_5, zin_6, zin_7, zin_8, zin_9, zaa_9, zkc_10, zin_11, zin_12, zkc_13, zin_14, zin_15, zkc_16, zin_17, zin_18, zkc_19, zin_20, zin_21, zin_22, zin_23, zin_24, zin_25, zin_26, zin_27, zin_28, zaa_28, zkc_29, zin_30, zin_31, zkc_32, zin_33, zin_34, zkc_35, zin_36, zin_37, zkc_38, zin_39, zin_40, zin_41, zin_42, zin_43, zin_44, zin_45, zin_46, zin_47, zaa_47, zkc_48, zin_49, zin_50, zkc_51, zin_52, zin_53, zkc_54, zin_55, zin_56, zkc_209, zkc_210, zin_211, zaa_211, zkc_212, zin_213, zkc_214, zkc_215, zin_216, zin_217, zkc_218, zin_219, zin_220, zin_221, zkc_222, zin_223, zaa_223, zin_224, zin_225, zkc_226, zin_227, zin_228, zin_229, zin_230, zin_231, zin_232, zkc_233, zin_234, zaa_234, zin_235, zin_236, zin_237, zin_238, zin_239, zin_240, zin_241, zin_242, zin_243, zin_244, zin_245, zin_246, zin_247, zin_248, zin_249, zin_250, zkc_251, zin_252, zin_253, zkc_374, zin_375, zin_376, zin_377, zin_378, zin_379, zin_380, zin_381, zin_382, zin_383, zin_384, zin_385, zin_386, zin_387, m1, r0, hc', ne_eq, c1, not_false_eq_true, ↓reduceIte]
    by_cases z0 : D 0 0 ≥ 6
    · rw [if_pos z0]
      exact hQ0 (by rw [ha]; exact decide_eq_false (fun z => by have := z.1; omega)) M (fun _ _ => rfl)
    · rw [if_neg z0]
      -- a slot is put into the draft
      have slot : ∀ an : Int, c ≠ 46 → accB D c = true → an = (if c = 42 then D 0 2 else D 0 3) → ∀ N : zM, N = zup (zup (zup (zup (zup M 216 (D 0 2).toNat (D 0 0)) 217 (D 0 2).toNat (D 0 1)) 215 2 (D 0 2 + 1)) 215 3 (m5 an)) 214 1 (D 0 0 + 1) → Q (some (.inl 1)) N := by
        intro an c46 hacc han N hN
        refine hQ1 hacc N ?_ (fun b hb => by rw [hN, zup_ne _ _ _ (by omega), zup_ne _ _ _ (by omega), zup_ne _ _ _ (by omega), zup_ne _ _ _ (by omega), zup_ne _ _ _ (by omega)])
        have hn : nxt D c = zup (zup (zup (zup (zup D 1 (D 0 2).toNat (D 0 0)) 2 (D 0 2).toNat (D 0 1)) 0 3 (if c = 42 then D 0 2 else D 0 3)) 0 2 (D 0 2 + 1)) 0 0 (D 0 0 + 1) := by unfold nxt; rw [if_neg c1, if_neg c46]
        rw [hn, ← han]
        subst hN
        refine ⟨by simp [zup], by simp [zup]; exact m2, by simp [zup], by simp [zup], fun s hs => ?_⟩
        have e1 : zup (zup (zup (zup (zup D 1 (D 0 2).toNat (D 0 0)) 2 (D 0 2).toNat (D 0 1)) 0 3 an) 0 2 (D 0 2 + 1)) 0 0 (D 0 0 + 1) 1 s = if s = (D 0 2).toNat then D 0 0 else D 1 s := by simp [zup]
        have e2 : zup (zup (zup (zup (zup D 1 (D 0 2).toNat (D 0 0)) 2 (D 0 2).toNat (D 0 1)) 0 3 an) 0 2 (D 0 2 + 1)) 0 0 (D 0 0 + 1) 2 s = if s = (D 0 2).toNat then D 0 1 else D 2 s := by simp [zup]
        have e3 : zup (zup (zup (zup (zup M 216 (D 0 2).toNat (D 0 0)) 217 (D 0 2).toNat (D 0 1)) 215 2 (D 0 2 + 1)) 215 3 (m5 an)) 214 1 (D 0 0 + 1) 216 s = if s = (D 0 2).toNat then D 0 0 else M 216 s := by simp [zup]
        have e4 : zup (zup (zup (zup (zup M 216 (D 0 2).toNat (D 0 0)) 217 (D 0 2).toNat (D 0 1)) 215 2 (D 0 2 + 1)) 215 3 (m5 an)) 214 1 (D 0 0 + 1) 217 s = if s = (D 0 2).toNat then D 0 1 else M 217 s := by simp [zup]
        have e5 : zup (zup (zup (zup (zup D 1 (D 0 2).toNat (D 0 0)) 2 (D 0 2).toNat (D 0 1)) 0 3 an) 0 2 (D 0 2 + 1)) 0 0 (D 0 0 + 1) 0 2 = D 0 2 + 1 := by simp [zup]
        rw [e5] at hs
        rw [e1, e2, e3, e4]
        by_cases z : s = (D 0 2).toNat
        · rw [if_pos z, if_pos z, if_pos z, if_pos z]; exact ⟨rfl, rfl⟩
        · rw [if_neg z, if_neg z, if_neg z, if_neg z]; exact m5' s (by omega)
      by_cases c46 : c = 46
      · subst c46
        simp only [↓e33, ↓e33_0, ↓e33_1, ↓e33_3, ↓e33_6, ↓e33_7, ↓e33_10, ↓e33_11, ↓e33_12, ↓e33_15, ↓e33_17, ↓e33_20, ↓e33_21, ↓e33_22, ↓e33_25, ↓e33_28, ↓e33_29, ↓e33_30, ↓e33_31, ↓e33_31i, ↓e33_32, ↓e33_35, ↓e33_36, ↓e33_37, ↓e33_40, ↓e33_41, ↓e35, ↓e35_0, ↓e35_1, ↓e35_36, ↓e35_37, ↓e35_38, ↓e35_39, ↓e35_42, ↓e35_43, ↓e35_46, ↓e35_47, ↓e35_50, ↓e35_53, ↓e35_54, ↓e35_55, ↓e35_58, ↓e35_59, ↓e35_62, ↓e35_63, ↓e35_66, ↓e35_69, ↓e35_70, ↓e35_71, znl_i, znl_r, znl_n, zcs_0, zcs_1, zcs_2, zcs_3, zcat_0, zcat_1, zcat_2, zcat_3, zbl_0, zbl_1, true_and, and_true, ↓zret_some, ↓zret_none, Nat.reduceAdd, Nat.reduceLeDiff, Nat.reduceMul, eq_self, Int.reduceToNat, Int.reduceLE, Int.reduceLT, Int.reduceNeg, and_self, zrg, zkc_0, zin_1, zin_2, zin_3, zin_4, zin_5, zin_6, zin_7, zin_8, zin_9, zaa_9, zkc_10, zin_11, zin_12, zkc_13, zin_14, zin_15, zkc_16, zin_17, zin_18, zkc_19, zin_20, zin_21, zin_22, zin_23, zin_24, zin_25, zin_26, zin_27, zin_28, zaa_28, zkc_29, zin_30, zin_31, zkc_32, zin_33, zin_34, zkc_35, zin_36, zin_37, zkc_38, zin_39, zin_40, zin_41, zin_42, zin_43, zin_44, zin_45, zin_46, zin_47, zaa_47, zkc_48, zin_49, zin_50, zkc_51, zin_52, zin_53, zkc_54, zin_55, zin_56, zkc_209, zkc_210, zin_211, zaa_211, zkc_212, zin_213, zkc_214, zkc_215, zin_216, zin_217, zkc_218, zin_219, zin_220, zin_221, zkc_222, zin_223, zaa_223, zin_224, zin_225, zkc_226, zin_227, zin_228, zin_229, zin_230, zin_231, zin_232, zkc_233, zin_234, zaa_234, zin_235, zin_236, zin_237, zin_238, zin_239, zin_240, zin_241, zin_242, zin_243, zin_244, zin_245, zin_246, zin_247, zin_248, zin_249, zin_250, zkc_251, zin_252, zin_253, zkc_374, zin_375, zin_376, zin_377, zin_378, zin_379, zin_380, zin_381, zin_382, zin_383, zin_384, zin_385, zin_386, zin_387, ↓reduceIte, show ¬ (46 : Int) = 35 by omega, show ¬ (46 : Int) = 42 by omega, m1, show ¬ (1 : Int) = 0 by omega, not_false_eq_true]
        refine hQ1 (by rw [ha]; exact decide_eq_true ⟨by omega, Or.inl rfl⟩) _ ?_ (fun b hb => zup_ne _ _ _ (by omega))
        rw [nxt_46]
        refine ⟨by rw [zup_at, zup_at], by rw [zup_off _ _ (by omega), zup_off _ _ (by omega)]; exact m2, by rw [zup_ne _ _ _ (by omega), zup_off _ _ (by omega)]; exact m3, by rw [zup_ne _ _ _ (by omega), zup_off _ _ (by omega)]; exact m4, fun s hs => ?_⟩
        rw [zup_off _ _ (by omega)] at hs
        rw [zup_ne _ (b := 216) _ _ (by omega), zup_ne _ (b := 217) _ _ (by omega), zup_ne _ (b := 1) _ _ (by omega), zup_ne _ (b := 2) _ _ (by omega)]
        exact m5' s hs
      by_cases c35 : c = 35
      · subst c35
        by_cases zf : D 0 2 < 10
        · have h20 : 0 ≤ D 0 2 ∧ D 0 2 < 10 := ⟨h3.1, zf⟩
          have k1 : zup M 216 (D 0 2).toNat (D 0 0) 215 2 = D 0 2 := by rw [zup_ne _ _ _ (by omega)]; exact m3
          have k2 : zup (zup M 216 (D 0 2).toNat (D 0 0)) 217 (D 0 2).toNat (D 0 1) 215 2 = D 0 2 := by rw [zup_ne _ _ _ (by omega)]; exact k1
          have k3 : zup (zup (zup M 216 (D 0 2).toNat (D 0 0)) 217 (D 0 2).toNat (D 0 1)) 215 2 (D 0 2 + 1) 214 1 = D 0 0 := by rw [zup_ne _ _ _ (by omega), zup_ne _ _ _ (by omega), zup_ne _ _ _ (by omega)]; exact m1
          simp only [↓e33, ↓e33_0, ↓e33_1, ↓e33_3, ↓e33_6, ↓e33_7, ↓e33_10, ↓e33_11, ↓e33_12, ↓e33_15, ↓e33_17, ↓e33_20, ↓e33_21, ↓e33_22, ↓e33_25, ↓e33_28, ↓e33_29, ↓e33_30, ↓e33_31, ↓e33_31i, ↓e33_32, ↓e33_35, ↓e33_36, ↓e33_37, ↓e33_40, ↓e33_41, ↓e35, ↓e35_0, ↓e35_1, ↓e35_36, ↓e35_37, ↓e35_38, ↓e35_39, ↓e35_42, ↓e35_43, ↓e35_46, ↓e35_47, ↓e35_50, ↓e35_53, ↓e35_54, ↓e35_55, ↓e35_58, ↓e35_59, ↓e35_62, ↓e35_63, ↓e35_66, ↓e35_69, ↓e35_70, ↓e35_71, ↓e22, ↓e22_0, ↓e22_1, ↓e22_4, ↓e22_6, ↓e22_9, ↓e22_10, ↓e22_11, ↓e22_12, ↓e22_15, ↓e22_16, ↓e22_19, ↓e22_20, ↓e22_21, ↓e22_22, ↓e22_25, ↓e22_26, ↓e22_29, ↓e22_30, ↓e22_31, ↓e22_32, ↓e22_32i, ↓e22_33, ↓e22_36, ↓e22_37, ↓e22_38, ↓e22_41, ↓e22_42, znl_i, znl_r, znl_n, zcs_0, zcs_1, zcs_2, zcs_3, zcat_0, zcat_1, zcat_2, zcat_3, zbl_0, zbl_1, true_and, and_true, ↓zret_some, ↓zret_none, Nat.reduceAdd, Nat.reduceLeDiff, Nat.reduceMul, eq_self, Int.reduceToNat, Int.reduceLE, Int.reduceLT, Int.reduceNeg, and_self, zrg, zkc_0, zin_1, zin_2, zin_3, zin_4, zin_5, zin_6, zin_7, zin_8, zin_9, zaa_9, zkc_10, zin_11, zin_12, zkc_13, zin_14, zin_15, zkc_16, zin_17, zin_18, zkc_19, zin_20, zin_21, zin_22, zin_23, zin_24, zin_25, zin_26, zin_27, zin_28, zaa_28, zkc_29, zin_30, zin_31, zkc_32, zin_33, zin_34, zkc_35, zin_36, zin_37, zkc_38, zin_39, zin_40, zin_41, zin_42, zin_43, zin_44, zin_45, zin_46, zin_47, zaa_47, zkc_48, zin_49, zin_50, zkc_51, zin_52, zin_53, zkc_54, zin_55, zin_56, zkc_209, zkc_210, zin_211, zaa_211, zkc_212, zin_213, zkc_214, zkc_215, zin_216, zin_217, zkc_218, zin_219, zin_220, zin_221, zkc_222, zin_223, zaa_223, zin_224, zin_225, zkc_226, zin_227, zin_228, zin_229, zin_230, zin_231, zin_232, zkc_233, zin_234, zaa_234, zin_235, zin_236, zin_237, zin_238, zin_239, zin_240, zin_241, zin_242, zin_243, zin_244, zin_245, zin_246, zin_247, zin_248, zin_249, zin_250, zkc_251, zin_252, zin_253, zkc_374, zin_375, zin_376, zin_377, zin_378, zin_379, zin_380, zin_381, zin_382, zin_383, zin_384, zin_385, zin_386, zin_387, ↓reduceIte, m1, m2, m3, r2, zf, h20, k1, k2, k3, show ¬ (1 : Int) = 0 by omega, not_false_eq_true]
          refine slot (D 0 3) (by omega) (by rw [ha]; exact decide_eq_true ⟨by omega, Or.inr (Or.inl ⟨rfl, zf⟩)⟩) (if_neg (by omega)).symm _ ?_
          congr 1
          funext b j
          by_cases z : b = 215 ∧ j = 3
          · obtain ⟨rfl, rfl⟩ := z
            rw [zup_at, zup_off _ _ (by omega), zup_ne _ _ _ (by omega), zup_ne _ _ _ (by omega)]
            exact m4
          · exact (zup_off _ _ (by omega)).symm
        · simp only [↓e33, ↓e33_0, ↓e33_1, ↓e33_3, ↓e33_6, ↓e33_7, ↓e33_10, ↓e33_11, ↓e33_12, ↓e33_15, ↓e33_17, ↓e33_20, ↓e33_21, ↓e33_22, ↓e33_25, ↓e33_28, ↓e33_29, ↓e33_30, ↓e33_31, ↓e33_31i, ↓e33_32, ↓e33_35, ↓e33_36, ↓e33_37, ↓e33_40, ↓e33_41, ↓e35, ↓e35_0, ↓e35_1, ↓e35_36, ↓e35_37, ↓e35_38, ↓e35_39, ↓e35_42, ↓e35_43, ↓e35_46, ↓e35_47, ↓e35_50, ↓e35_53, ↓e35_54, ↓e35_55, ↓e35_58, ↓e35_59, ↓e35_62, ↓e35_63, ↓e35_66, ↓e35_69, ↓e35_70, ↓e35_71, ↓e22, ↓e22_0, ↓e22_1, ↓e22_4, ↓e22_6, ↓e22_9, ↓e22_10, ↓e22_11, ↓e22_12, ↓e22_15, ↓e22_16, ↓e22_19, ↓e22_20, ↓e22_21, ↓e22_22, ↓e22_25, ↓e22_26, ↓e22_29, ↓e22_30, ↓e22_31, ↓e22_32, ↓e22_32i, ↓e22_33, ↓e22_36, ↓e22_37, ↓e22_38, ↓e22_41, ↓e22_42, znl_i, znl_r, znl_n, zcs_0, zcs_1, zcs_2, zcs_3, zcat_0, zcat_1, zcat_2, zcat_3, zbl_0, zbl_1, true_and, and_true, ↓zret_some, ↓zret_none, Nat.reduceAdd, Nat.reduceLeDiff, Nat.reduceMul, eq_self, Int.reduceToNat, Int.reduceLE, Int.reduceLT, Int.reduceNeg, and_self, zrg, zkc_0, zin_1, zin_2, zin_3, zin_4, zin_5, zin_6, zin_7, zin_8, zin_9, zaa_9, zkc_10, zin_11, zin_12, zkc_13, zin_14, zin_15, zkc_16, zin_17, zin_18, zkc_19, zin_20, zin_21, zin_22, zin_23, zin_24, zin_25, zin_26, zin_27, zin_28, zaa_28, zkc_29, zin_30, zin_31, zkc_32, zin_33, zin_34, zkc_35, zin_36, zin_37, zkc_38, zin_39, zin_40, zin_41, zin_42, zin_43, zin_44, zin_45, zin_46, zin_47, zaa_47, zkc_48, zin_49, zin_50, zkc_51, zin_52, zin_53, zkc_54, zin_55, zin_56, zkc_209, zkc_210, zin_211, zaa_211, zkc_212, zin_213, zkc_214, zkc_215, zin_216, zin_217, zkc_218, zin_219, zin_220, zin_221, zkc_222, zin_223, zaa_223, zin_224, zin_225, zkc_226, zin_227, zin_228, zin_229, zin_230, zin_231, zin_232, zkc_233, zin_234, zaa_234, zin_235, zin_236, zin_237, zin_238, zin_239, zin_240, zin_241, zin_242, zin_243, zin_244, zin_245, zin_246, zin_247, zin_248, zin_249, zin_250, zkc_251, zin_252, zin_253, zkc_374, zin_375, zin_376, zin_377, zin_378, zin_379, zin_380, zin_381, zin_382, zin_383, zin_384, zin_385, zin_386, zin_387, ↓reduceIte, m1, m2, m3, r2, zf, not_true_eq_false]
          exact hQ0 (by rw [ha]; exact decide_eq_false (fun z => by omega)) M (fun _ _ => rfl)
      by_cases c42 : c = 42
      · subst c42
        by_cases za : D 0 3 < 0
        · have e5 : m5 (D 0 3) = -5 := if_pos za
          by_cases zf : D 0 2 < 10
          · have h20 : 0 ≤ D 0 2 ∧ D 0 2 < 10 := ⟨h3.1, zf⟩
            have k1 : zup M 216 (D 0 2).toNat (D 0 0) 215 2 = D 0 2 := by rw [zup_ne _ _ _ (by omega)]; exact m3
            have k2 : zup (zup M 216 (D 0 2).toNat (D 0 0)) 217 (D 0 2).toNat (D 0 1) 215 2 = D 0 2 := by rw [zup_ne _ _ _ (by omega)]; exact k1
            have k3 : zup (zup (zup (zup M 216 (D 0 2).toNat (D 0 0)) 217 (D 0 2).toNat (D 0 1)) 215 2 (D 0 2 + 1)) 215 3 (D 0 2) 214 1 = D 0 0 := by rw [zup_ne _ _ _ (by omega), zup_ne _ _ _ (by omega), zup_ne _ _ _ (by omega), zup_ne _ _ _ (by omega)]; exact m1
            rw [e5] at m4
            simp only [↓e33, ↓e33_0, ↓e33_1, ↓e33_3, ↓e33_6, ↓e33_7, ↓e33_10, ↓e33_11, ↓e33_12, ↓e33_15, ↓e33_17, ↓e33_20, ↓e33_21, ↓e33_22, ↓e33_25, ↓e33_28, ↓e33_29, ↓e33_30, ↓e33_31, ↓e33_31i, ↓e33_32, ↓e33_35, ↓e33_36, ↓e33_37, ↓e33_40, ↓e33_41, ↓e35, ↓e35_0, ↓e35_1, ↓e35_36, ↓e35_37, ↓e35_38, ↓e35_39, ↓e35_42, ↓e35_43, ↓e35_46, ↓e35_47, ↓e35_50, ↓e35_53, ↓e35_54, ↓e35_55, ↓e35_58, ↓e35_59, ↓e35_62, ↓e35_63, ↓e35_66, ↓e35_69, ↓e35_70, ↓e35_71, ↓e23, ↓e23_0, ↓e23_1, ↓e23_4, ↓e23_5, ↓e23_6, ↓e23_9, ↓e23_12, ↓e23_13, ↓e23_14, ↓e23_15, ↓e23_18, ↓e23_21, ↓e23_22, ↓e23_23, ↓e23_24, ↓e23_25, ↓e23_28, ↓e23_29, ↓e22, ↓e22_0, ↓e22_1, ↓e22_4, ↓e22_6, ↓e22_9, ↓e22_10, ↓e22_11, ↓e22_12, ↓e22_15, ↓e22_16, ↓e22_19, ↓e22_20, ↓e22_21, ↓e22_22, ↓e22_25, ↓e22_26, ↓e22_29, ↓e22_30, ↓e22_31, ↓e22_32, ↓e22_32i, ↓e22_33, ↓e22_36, ↓e22_37, ↓e22_38, ↓e22_41, ↓e22_42, znl_i, znl_r, znl_n, zcs_0, zcs_1, zcs_2, zcs_3, zcat_0, zcat_1, zcat_2, zcat_3, zbl_0, zbl_1, true_and, and_true, ↓zret_some, ↓zret_none, Nat.reduceAdd, Nat.reduceLeDiff, Nat.reduceMul, eq_self, Int.reduceToNat, Int.reduceLE, Int.reduceLT, Int.reduceNeg, and_self, zrg, zkc_0, zin_1, zin_2, zin_3, zin_4, zin_5, zin_6, zin_7, zin_8, zin_9, zaa_9, zkc_10, zin_11, zin_12, zkc_13, zin_14, zin_15, zkc_16, zin_17, zin_18, zkc_19, zin_20, zin_21, zin_22, zin_23, zin_24, zin_25, zin_26, zin_27, zin_28, zaa_28, zkc_29, zin_30, zin_31, zkc_32, zin_33, zin_34, zkc_35, zin_36, zin_37, zkc_38, zin_39, zin_40, zin_41, zin_42, zin_43, zin_44, zin_45, zin_46, zin_47, zaa_47, zkc_48, zin_49, zin_50, zkc_51, zin_52, zin_53, zkc_54, zin_55, zin_56, zkc_209, zkc_210, zin_211, zaa_211, zkc_212, zin_213, zkc_214, zkc_215, zin_216, zin_217, zkc_218, zin_219, zin_220, zin_221, zkc_222, zin_223, zaa_223, zin_224, zin_225, zkc_226, zin_227, zin_228, zin_229, zin_230, zin_231, zin_232, zkc_233, zin_234, zaa_234, zin_235, zin_236, zin_237, zin_238, zin_239, zin_240, zin_241, zin_242, zin_243, zin_244, zin_245, zin_246, zin_247, zin_248, zin_249, zin_250, zkc_251, zin_252, zin_253, zkc_374, zin_375, zin_376, zin_377, zin_378, zin_379, zin_380, zin_381, zin_382, zin_383, zin_384, zin_385, zin_386, zin_387, ↓reduceIte, m1, m2, m3, m4, r2, zf, h20, k1, k2, k3, show ¬ (42 : Int) = 35 by omega, show ¬ (-5 : Int) ≥ 0 by omega, show ¬ (1 : Int) = 0 by omega, not_false_eq_true, ne_eq]
            refine slot (D 0 2) (by omega) (by rw [ha]; exact decide_eq_true ⟨by omega, Or.inr (Or.inr ⟨rfl, za, zf⟩)⟩) (if_pos rfl).symm _ ?_
            rw [show m5 (D 0 2) = D 0 2 from if_neg (by omega)]
          · rw [e5] at m4
            simp only [↓e33, ↓e33_0, ↓e33_1, ↓e33_3, ↓e33_6, ↓e33_7, ↓e33_10, ↓e33_11, ↓e33_12, ↓e33_15, ↓e33_17, ↓e33_20, ↓e33_21, ↓e33_22, ↓e33_25, ↓e33_28, ↓e33_29, ↓e33_30, ↓e33_31, ↓e33_31i, ↓e33_32, ↓e33_35, ↓e33_36, ↓e33_37, ↓e33_40, ↓e33_41, ↓e35, ↓e35_0, ↓e35_1, ↓e35_36, ↓e35_37, ↓e35_38, ↓e35_39, ↓e35_42, ↓e35_43, ↓e35_46, ↓e35_47, ↓e35_50, ↓e35_53, ↓e35_54, ↓e35_55, ↓e35_58, ↓e35_59, ↓e35_62, ↓e35_63, ↓e35_66, ↓e35_69, ↓e35_70, ↓e35_71, ↓e23, ↓e23_0, ↓e23_1, ↓e23_4, ↓e23_5, ↓e23_6, ↓e23_9, ↓e23_12, ↓e23_13, ↓e23_14, ↓e23_15, ↓e23_18, ↓e23_21, ↓e23_22, ↓e23_23, ↓e23_24, ↓e23_25, ↓e23_28, ↓e23_29, ↓e22, ↓e22_0, ↓e22_1, ↓e22_4, ↓e22_6, ↓e22_9, ↓e22_10, ↓e22_11, ↓e22_12, ↓e22_15, ↓e22_16, ↓e22_19, ↓e22_20, ↓e22_21, ↓e22_22, ↓e22_25, ↓e22_26, ↓e22_29, ↓e22_30, ↓e22_31, ↓e22_32, ↓e22_32i, ↓e22_33, ↓e22_36, ↓e22_37, ↓e22_38, ↓e22_41, ↓e22_42, znl_i, znl_r, znl_n, zcs_0, zcs_1, zcs_2, zcs_3, zcat_0, zcat_1, zcat_2, zcat_3, zbl_0, zbl_1, true_and, and_true, ↓zret_some, ↓zret_none, Nat.reduceAdd, Nat.reduceLeDiff, Nat.reduceMul, eq_self, Int.reduceToNat, Int.reduceLE, Int.reduceLT, Int.reduceNeg, and_self, zrg, zkc_0, zin_1, zin_2, zin_3, zin_4, zin_5, zin_6, zin_7, zin_8, zin_9, zaa_9, zkc_10, zin_11, zin_12, zkc_13, zin_14, zin_15, zkc_16, zin_17, zin_18, zkc_19, zin_20, zin_21, zin_22, zin_23, zin_24, zin_25, zin_26, zin_27, zin_28, zaa_28, zkc_29, zin_30, zin_31, zkc_32, zin_33, zin_34, zkc_35, zin_36, zin_37, zkc_38, zin_39, zin_40, zin_41, zin_42, zin_43, zin_44, zin_45, zin_46, zin_47, zaa_47, zkc_48, zin_49, zin_50, zkc_51, zin_52, zin_53, zkc_54, zin_55, zin_56, zkc_209, zkc_210, zin_211, zaa_211, zkc_212, zin_213, zkc_214, zkc_215, zin_216, zin_217, zkc_218, zin_219, zin_220, zin_221, zkc_222, zin_223, zaa_223, zin_224, zin_225, zkc_226, zin_227, zin_228, zin_229, zin_230, zin_231, zin_232, zkc_233, zin_234, zaa_234, zin_235, zin_236, zin_237, zin_238, zin_239, zin_240, zin_241, zin_242, zin_243, zin_244, zin_245, zin_246, zin_247, zin_248, zin_249, zin_250, zkc_251, zin_252, zin_253, zkc_374, zin_375, zin_376, zin_377, zin_378, zin_379, zin_380, zin_381, zin_382, zin_383, zin_384, zin_385, zin_386, zin_387, ↓reduceIte, m1, m2, m3, m4, r2, zf, show ¬ (42 : Int) = 35 by omega, show ¬ (-5 : Int) ≥ 0 by omega, not_true_eq_false, ne_eq]
            exact hQ0 (by rw [ha]; exact decide_eq_false (fun z => by omega)) M (fun _ _ => rfl)
        · have e5 : m5 (D 0 3) = D 0 3 := if_neg za
          rw [e5] at m4 r3
          simp only [↓e33, ↓e33_0, ↓e33_1, ↓e33_3, ↓e33_6, ↓e33_7, ↓e33_10, ↓e33_11, ↓e33_12, ↓e33_15, ↓e33_17, ↓e33_20, ↓e33_21, ↓e33_22, ↓e33_25, ↓e33_28, ↓e33_29, ↓e33_30, ↓e33_31, ↓e33_31i, ↓e33_32, ↓e33_35, ↓e33_36, ↓e33_37, ↓e33_40, ↓e33_41, ↓e35, ↓e35_0, ↓e35_1, ↓e35_36, ↓e35_37, ↓e35_38, ↓e35_39, ↓e35_42, ↓e35_43, ↓e35_46, ↓e35_47, ↓e35_50, ↓e35_53, ↓e35_54, ↓e35_55, ↓e35_58, ↓e35_59, ↓e35_62, ↓e35_63, ↓e35_66, ↓e35_69, ↓e35_70, ↓e35_71, ↓e23, ↓e23_0, ↓e23_1, ↓e23_4, ↓e23_5, ↓e23_6, ↓e23_9, ↓e23_12, ↓e23_13, ↓e23_14, ↓e23_15, ↓e23_18, ↓e23_21, ↓e23_22, ↓e23_23, ↓e23_24, ↓e23_25, ↓e23_28, ↓e23_29, znl_i, znl_r, znl_n, zcs_0, zcs_1, zcs_2, zcs_3, zcat_0, zcat_1, zcat_2, zcat_3, zbl_0, zbl_1, true_and, and_true, ↓zret_some, ↓zret_none, Nat.reduceAdd, Nat.reduceLeDiff, Nat.reduceMul, eq_self, Int.reduceToNat, Int.reduceLE, Int.reduceLT, Int.reduceNeg, and_self, zrg, zkc_0, zin_1, zin_2, zin_3, zin_4, zin_5, zin_6, zin_7, zin_8, zin_9, zaa_9, zkc_10, zin_11, zin_12, zkc_13, zin_14, zin_15, zkc_16, zin_17, zin_18, zkc_19, zin_20, zin_21, zin_22, zin_23, zin_24, zin_25, zin_26, zin_27, zin_28, zaa_28, zkc_29, zin_30, zin_31, zkc_32, zin_33, zin_34, zkc_35, zin_36, zin_37, zkc_38, zin_39, zin_40, zin_41, zin_42, zin_43, zin_44, zin_45, zin_46, zin_47, zaa_47, zkc_48, zin_49, zin_50, zkc_51, zin_52, zin_53, zkc_54, zin_55, zin_56, zkc_209, zkc_210, zin_211, zaa_211, zkc_212, zin_213, zkc_214, zkc_215, zin_216, zin_217, zkc_218, zin_219, zin_220, zin_221, zkc_222, zin_223, zaa_223, zin_224, zin_225, zkc_226, zin_227, zin_228, zin_229, zin_230, zin_231, zin_232, zkc_233, zin_234, zaa_234, zin_235, zin_236, zin_237, zin_238, zin_239, zin_240, zin_241, zin_242, zin_243, zin_244, zin_245, zin_246, zin_247, zin_248, zin_249, zin_250, zkc_251, zin_252, zin_253, zkc_374, zin_375, zin_376, zin_377, zin_378, zin_379, zin_380, zin_381, zin_382, zin_383, zin_384, zin_385, zin_386, zin_387, ↓reduceIte, m1, m2, m3, m4, r3, show ¬ (42 : Int) = 35 by omega, show D 0 3 ≥ 0 by omega, not_true_eq_false, ne_eq]
          exact hQ0 (by rw [ha]; exact decide_eq_false (fun z => by omega)) M (fun _ _ => rfl)
      simp only [↓e33, ↓e33_0, ↓e33_1, ↓e33_3, ↓e33_6, ↓e33_7, ↓e33_10, ↓e33_11, ↓e33_12, ↓e33_15, ↓e33_17, ↓e33_20, ↓e33_21, ↓e33_22, ↓e33_25, ↓e33_28, ↓e33_29, ↓e33_30, ↓e33_31, ↓e33_31i, ↓e33_32, ↓e33_35, ↓e33_36, ↓e33_37, ↓e33_40, ↓e33_41, ↓e35, ↓e35_0, ↓e35_1, ↓e35_36, ↓e35_37, ↓e35_38, ↓e35_39, ↓e35_42, ↓e35_43, ↓e35_46, ↓e35_47, ↓e35_50, ↓e35_53, ↓e35_54, ↓e35_55, ↓e35_58, ↓e35_59, ↓e35_62, ↓e35_63, ↓e35_66, ↓e35_69, ↓e35_70, ↓e35_71, znl_i, znl_r, znl_n, zcs_0, zcs_1, zcs_2, zcs_3, zcat_0, zcat_1, zcat_2, zcat_3, zbl_0, zbl_1, true_and, and_true, ↓zret_some, ↓zret_none, Nat.reduceAdd, Nat.reduceLeDiff, Nat.reduceMul, eq_self, Int.reduceToNat, Int.reduceLE, Int.reduceLT, Int.reduceNeg, and_self, zrg, zkc_0, zin_1, zin_2, zin_3, zin_4, zin_5, zin_6, zin_7, zin_8, zin_9, zaa_9, zkc_10, zin_11, zin_12, zkc_13, zin_14, zin_15, zkc_16, zin_17, zin_18, zkc_19, zin_20, zin_21, zin_22, zin_23, zin_24, zin_25, zin_26, zin_27, zin_28, zaa_28, zkc_29, zin_30, zin_31, zkc_32, zin_33, zin_34, zkc_35, zin_36, zin_37, zkc_38, zin_39, zin_40, zin_41, zin_42, zin_43, zin_44, zin_45, zin_46, zin_47, zaa_47, zkc_48, zin_49, zin_50, zkc_51, zin_52, zin_53, zkc_54, zin_55, zin_56, zkc_209, zkc_210, zin_211, zaa_211, zkc_212, zin_213, zkc_214, zkc_215, zin_216, zin_217, zkc_218, zin_219, zin_220, zin_221, zkc_222, zin_223, zaa_223, zin_224, zin_225, zkc_226, zin_227, zin_228, zin_229, zin_230, zin_231, zin_232, zkc_233, zin_234, zaa_234, zin_235, zin_236, zin_237, zin_238, zin_239, zin_240, zin_241, zin_242, zin_243, zin_244, zin_245, zin_246, zin_247, zin_248, zin_249, zin_250, zkc_251, zin_252, zin_253, zkc_374, zin_375, zin_376, zin_377, zin_378, zin_379, zin_380, zin_381, zin_382, zin_383, zin_384, zin_385, zin_386, zin_387, ↓reduceIte, hc', c35, c42, c46, not_true_eq_false, ne_eq]
      exact hQ0 (by rw [ha]; exact decide_eq_false (fun z => by omega)) M (fun _ _ => rfl)
theorem s_readShape (d : Nat) (Q : zQ) (M : zM) (t : Nat → Int) (n : Nat) (hn : n ≤ 60) (hl : M 212 0 = n) (ht : ∀ j, j < n → M 213 j = t j) (htr : ∀ j, j < n → zrg (t j))
    (hQ : ∀ N, Fdr M N → (ferr t n = -1 → Cd N (rdS t n) ∧ WfD (rdS t n)) → Q (some (.inl (ferr t n))) N) : Sp (d + 5) 32 [.inr (.inr 214), .inr (.inr 212)] M Q := by
  have hnr : -2147483648 ≤ (n : Int) ∧ (n : Int) < 2147483648 := ⟨by omega, by omega⟩
  have loop : ∀ q k : Nat, k + q = n → ∀ N, Fdr M N → Cd N (rdS t k) → WfD (rdS t k) → erS t q k = erS t n 0 → RT (Sp (d + 4)) 32 Q 19 [some (.inr (.inr 214)), some (.inr (.inr 212)), some (.inl (k : Int))] [] N := by
    intro q
    induction q with
    | zero =>
      intro k hk N f1 f2 f3 hE
      obtain rfl : k = n := by omega
      have hl2 : N 212 0 = (k : Int) := by rw [f1 212 (by omega)]; exact hl
      rw [show erS t 0 k = -1 from rfl] at hE
      have hfe : ferr t k = if rdS t k 0 3 < 0 ∨ rdS t k 0 0 = 0 then (k : Int) else -1 := by unfold ferr; rw [← hE, if_neg (by omega)]
      have h9 := hQ N f1 (fun _ => ⟨f2, f3⟩)
      rw [hfe] at h9
      obtain ⟨m1, m2, m3, m4, m5'⟩ := id f2
      obtain ⟨h1, h2, h3, h4, h5⟩ := id f3
      have r0 : -2147483648 ≤ rdS t k 0 0 ∧ rdS t k 0 0 < 2147483648 := by omega
      have r3 : -2147483648 ≤ m5 (rdS t k 0 3) ∧ m5 (rdS t k 0 3) < 2147483648 := by unfold m5; split <;> omega
      rw [e32_19]
      simp only [↓e32, ↓e32_0, ↓e32_1, ↓e32_4, ↓e32_7, ↓e32_8, ↓e32_9, ↓e32_12, ↓e32_13, ↓e32_14, ↓e32_17, ↓e32_18, ↓e32_20, ↓e32_21, ↓e32_24, ↓e32_27, ↓e32_28, ↓e32_29, ↓e32_30, ↓e32_33, ↓e32_36, ↓e32_39, ↓e32_40, ↓e32_41, ↓e32_44, ↓e32_47, ↓e32_48, ↓e32_51, ↓e32_54, ↓e32_57, ↓e32_58, ↓e32_61, ↓e32_64, ↓e32_65, ↓e32_68, ↓e32_71, ↓e32_72, znl_i, znl_r, znl_n, zcs_0, zcs_1, zcs_2, zcs_3, zcat_0, zcat_1, zcat_2, zcat_3, zbl_0, zbl_1, true_and, and_true, ↓zret_some, ↓zret_none, Nat.reduceAdd, Nat.reduceLeDiff, Nat.reduceMul, eq_self, Int.reduceToNat, Int.reduceLE, Int.reduceLT, Int.reduceNeg, and_self, zrg, zkc_0, zin_1, zin_2, zin_3, zin_4, zin_5, zin_6, zin_7, zin_8, zin_9, zaa_9, zkc_10, zin_11, zin_12, zkc_13, zin_14, zin_15, zkc_16, zin_17, zin_18, zkc_19, zin_20, zin_21, zin_22, zin_23, zin_24, zin_25, zin_26, zin_27, zin_28, zaa_28, zkc_29, zin_30, zin_31, zkc_32, zin_33, zin_34, zkc_35, zin_36, zin_37, zkc_38, zin_39, zin_40, zin_41, zin_42, zin_43, zin_44, zin_45, zin_46, zin_47, zaa_47, zkc_48, zin_49, zin_50, zkc_51, zin_52, zin_53, zkc_54, zin_55, zin_56, zkc_209, zkc_210, zin_211, zaa_211, zkc_212, zin_213, zkc_214, zkc_215, zin_216, zin_217, zkc_218, zin_219, zin_220, zin_221, zkc_222, zin_223, zaa_223, zin_224, zin_225, zkc_226, zin_227, zin_228, zin_229, zin_230, zin_231, zin_232, zkc_233, zin_234, zaa_234, zin_235, zin_236, zin_237, zin_238, zin_239, zin_240, zin_241, zin_242, zin_243, zin_244, zin_245, zin_246, zin_247, zin_248, zin_249, zin_250, zkc_251, zin_252, zin_253, zkc_374, zin_375, zin_376, zin_377, zin_378, zin_379, zin_380, zin_381, zin_382, zin_383, zin_384, zin_385, zin_386, zin_387, hl2, hnr, ge_iff_le, Int.le_refl, ↓reduceIte, m1, m4, r0, r3, ne_eq, ite_not]
      by_cases a : rdS t k 0 3 < 0
      · rw [if_pos (Or.inl a)] at h9
        rw [if_pos (by unfold m5; rw [if_pos a]; omega)]
        exact h9
      · rw [if_neg (by unfold m5; rw [if_neg a]; omega)]
        by_cases b : rdS t k 0 0 = 0
        · rw [if_pos (Or.inr b)] at h9
          rw [if_pos b]
          exact h9
        · rw [if_neg (fun z => by omega)] at h9
          rw [if_neg b]
          exact h9
    | succ q ih =>
      intro k hk N f1 f2 f3 hE
      have hk1 : ¬ (k : Int) ≥ (n : Int) := by omega
      have hk2 : -2147483648 ≤ (k : Int) ∧ (k : Int) < 2147483648 := ⟨by omega, by omega⟩
      have hl2 : N 212 0 = (n : Int) := by rw [f1 212 (by omega)]; exact hl
      have hb : N 213 k = t k := by rw [f1 213 (by omega)]; exact ht k (by omega)
      have hat := fun Q => s_tat (d + 3) Q N k n hn (by omega) hl2
      simp only [if_pos (show k < n by omega), hb] at hat
      rw [erS_s] at hE
      rw [e32_19]
      simp only [↓e32, ↓e32_0, ↓e32_1, ↓e32_4, ↓e32_7, ↓e32_8, ↓e32_9, ↓e32_12, ↓e32_13, ↓e32_14, ↓e32_17, ↓e32_18, ↓e32_20, ↓e32_21, ↓e32_24, ↓e32_27, ↓e32_28, ↓e32_29, ↓e32_30, ↓e32_33, ↓e32_36, ↓e32_39, ↓e32_40, ↓e32_41, ↓e32_44, ↓e32_47, ↓e32_48, ↓e32_51, ↓e32_54, ↓e32_57, ↓e32_58, ↓e32_61, ↓e32_64, ↓e32_65, ↓e32_68, ↓e32_71, ↓e32_72, znl_i, znl_r, znl_n, zcs_0, zcs_1, zcs_2, zcs_3, zcat_0, zcat_1, zcat_2, zcat_3, zbl_0, zbl_1, true_and, and_true, ↓zret_some, ↓zret_none, Nat.reduceAdd, Nat.reduceLeDiff, Nat.reduceMul, eq_self, Int.reduceToNat, Int.reduceLE, Int.reduceLT, Int.reduceNeg, and_self, zrg, zkc_0, zin_1, zin_2, zin_3, zin_4, zin_5, zin_6, zin_7, zin_8, zin_9, zaa_9, zkc_10, zin_11, zin_12, zkc_13, zin_14, zin_15, zkc_16, zin_17, zin_18, zkc_19, zin_20, zin_21, zin_22, zin_23, zin_24, zin_25, zin_26, zin_27, zin_28, zaa_28, zkc_29, zin_30, zin_31, zkc_32, zin_33, zin_34, zkc_35, zin_36, zin_37, zkc_38, zin_39, zin_40, zin_41, zin_42, zin_43, zin_44, zin_45, zin_46, zin_47, zaa_47, zkc_48, zin_49, zin_50, zkc_51, zin_52, zin_53, zkc_54, zin_55, zin_56, zkc_209, zkc_210, zin_211, zaa_211, zkc_212, zin_213, zkc_214, zkc_215, zin_216, zin_217, zkc_218, zin_219, zin_220, zin_221, zkc_222, zin_223, zaa_223, zin_224, zin_225, zkc_226, zin_227, zin_228, zin_229, zin_230, zin_231, zin_232, zkc_233, zin_234, zaa_234, zin_235, zin_236, zin_237, zin_238, zin_239, zin_240, zin_241, zin_242, zin_243, zin_244, zin_245, zin_246, zin_247, zin_248, zin_249, zin_250, zkc_251, zin_252, zin_253, zkc_374, zin_375, zin_376, zin_377, zin_378, zin_379, zin_380, zin_381, zin_382, zin_383, zin_384, zin_385, zin_386, zin_387, hl2, hnr, hk1, hk2, ↓reduceIte, ↓hat]
      refine s_takes d _ N (rdS t k) (t k) (htr k (by omega)) f3 f2 (fun ha N2 g1 g2 => ?_) (fun ha N2 g2 => ?_)
      · rw [if_pos ha] at hE
        rw [zret_some]
        simp only [↓e32, ↓e32_0, ↓e32_1, ↓e32_4, ↓e32_7, ↓e32_8, ↓e32_9, ↓e32_12, ↓e32_13, ↓e32_14, ↓e32_17, ↓e32_18, ↓e32_20, ↓e32_21, ↓e32_24, ↓e32_27, ↓e32_28, ↓e32_29, ↓e32_30, ↓e32_33, ↓e32_36, ↓e32_39, ↓e32_40, ↓e32_41, ↓e32_44, ↓e32_47, ↓e32_48, ↓e32_51, ↓e32_54, ↓e32_57, ↓e32_58, ↓e32_61, ↓e32_64, ↓e32_65, ↓e32_68, ↓e32_71, ↓e32_72, znl_i, znl_r, znl_n, zcs_0, zcs_1, zcs_2, zcs_3, zcat_0, zcat_1, zcat_2, zcat_3, zbl_0, zbl_1, true_and, and_true, ↓zret_some, ↓zret_none, Nat.reduceAdd, Nat.reduceLeDiff, Nat.reduceMul, eq_self, Int.reduceToNat, Int.reduceLE, Int.reduceLT, Int.reduceNeg, and_self, zrg, zkc_0, zin_1, zin_2, zin_3, zin_4, zin_5, zin_6, zin_7, zin_8, zin_9, zaa_9, zkc_10, zin_11, zin_12, zkc_13, zin_14, zin_15, zkc_16, zin_17, zin_18, zkc_19, zin_20, zin_21, zin_22, zin_23, zin_24, zin_25, zin_26, zin_27, zin_28, zaa_28, zkc_29, zin_30, zin_31, zkc_32, zin_33, zin_34, zkc_35, zin_36, zin_37, zkc_38, zin_39, zin_40, zin_41, zin_42, zin_43, zin_44, zin_45, zin_46, zin_47, zaa_47, zkc_48, zin_49, zin_50, zkc_51, zin_52, zin_53, zkc_54, zin_55, zin_56, zkc_209, zkc_210, zin_211, zaa_211, zkc_212, zin_213, zkc_214, zkc_215, zin_216, zin_217, zkc_218, zin_219, zin_220, zin_221, zkc_222, zin_223, zaa_223, zin_224, zin_225, zkc_226, zin_227, zin_228, zin_229, zin_230, zin_231, zin_232, zkc_233, zin_234, zaa_234, zin_235, zin_236, zin_237, zin_238, zin_239, zin_240, zin_241, zin_242, zin_243, zin_244, zin_245, zin_246, zin_247, zin_248, zin_249, zin_250, zkc_251, zin_252, zin_253, zkc_374, zin_375, zin_376, zin_377, zin_378, zin_379, zin_380, zin_381, zin_382, zin_383, zin_384, zin_385, zin_386, zin_387, show ¬ (1 : Int) = 0 by omega, not_false_eq_true, ne_eq, ↓reduceIte]
        rw [show ((k : Int) + 1) = ((k + 1 : Nat) : Int) by omega]
        exact ih (k + 1) (by omega) N2 (fun b hb => (g2 b hb).trans (f1 b hb)) g1 (WfD_n f3 ha) hE
      · rw [if_neg (by rw [ha]; simp)] at hE
        have hfe : ferr t n = (k : Int) := by unfold ferr; rw [← hE, if_pos (by omega)]
        have h9 := hQ N2 (fun b hb => (g2 b hb).trans (f1 b hb)) (fun z => by rw [hfe] at z; omega)
        rw [hfe] at h9
        rw [zret_some]
        simp only [↓e32, ↓e32_0, ↓e32_1, ↓e32_4, ↓e32_7, ↓e32_8, ↓e32_9, ↓e32_12, ↓e32_13, ↓e32_14, ↓e32_17, ↓e32_18, ↓e32_20, ↓e32_21, ↓e32_24, ↓e32_27, ↓e32_28, ↓e32_29, ↓e32_30, ↓e32_33, ↓e32_36, ↓e32_39, ↓e32_40, ↓e32_41, ↓e32_44, ↓e32_47, ↓e32_48, ↓e32_51, ↓e32_54, ↓e32_57, ↓e32_58, ↓e32_61, ↓e32_64, ↓e32_65, ↓e32_68, ↓e32_71, ↓e32_72, znl_i, znl_r, znl_n, zcs_0, zcs_1, zcs_2, zcs_3, zcat_0, zcat_1, zcat_2, zcat_3, zbl_0, zbl_1, true_and, and_true, ↓zret_some, ↓zret_none, Nat.reduceAdd, Nat.reduceLeDiff, Nat.reduceMul, eq_self, Int.reduceToNat, Int.reduceLE, Int.reduceLT, Int.reduceNeg, and_self, zrg, zkc_0, zin_1, zin_2, zin_3, zin_4, zin_5, zin_6, zin_7, zin_8, zin_9, zaa_9, zkc_10, zin_11, zin_12, zkc_13, zin_14, zin_15, zkc_16, zin_17, zin_18, zkc_19, zin_20, zin_21, zin_22, zin_23, zin_24, zin_25, zin_26, zin_27, zin_28, zaa_28, zkc_29, zin_30, zin_31, zkc_32, zin_33, zin_34, zkc_35, zin_36, zin_37, zkc_38, zin_39, zin_40, zin_41, zin_42, zin_43, zin_44, zin_45, zin_46, zin_47, zaa_47, zkc_48, zin_49, zin_50, zkc_51, zin_52, zin_53, zkc_54, zin_55, zin_56, zkc_209, zkc_210, zin_211, zaa_211, zkc_212, zin_213, zkc_214, zkc_215, zin_216, zin_217, zkc_218, zin_219, zin_220, zin_221, zkc_222, zin_223, zaa_223, zin_224, zin_225, zkc_226, zin_227, zin_228, zin_229, zin_230, zin_231, zin_232, zkc_233, zin_234, zaa_234, zin_235, zin_236, zin_237, zin_238, zin_239, zin_240, zin_241, zin_242, zin_243, zin_244, zin_245, zin_246, zin_247, zin_248, zin_249, zin_250, zkc_251, zin_252, zin_253, zkc_374, zin_375, zin_376, zin_377, zin_378, zin_379, zin_380, zin_381, zin_382, zin_383, zin_384, zin_385, zin_386, zin_387, not_true_eq_false, ne_eq, ↓reduceIte]
        exact h9
  have h9 := loop n 0 (by omega) (zup (zup (zup (zup M 215 2 0) 215 3 (-5)) 214 1 0) 214 2 0) (fun b hb => by rw [zup_ne _ _ _ (by omega), zup_ne _ _ _ (by omega), zup_ne _ _ _ (by omega), zup_ne _ _ _ (by omega)]) ⟨by simp [zup, rdS, D0], by simp [zup, rdS, D0], by simp [zup, rdS, D0], by simp [zup, rdS, D0, m5], fun s hs => by
    have : rdS t 0 0 2 = 0 := rfl
    omega⟩ WfD_0 rfl
  simp only [↓e32, ↓e32_0, ↓e32_1, ↓e32_4, ↓e32_7, ↓e32_8, ↓e32_9, ↓e32_12, ↓e32_13, ↓e32_14, ↓e32_17, ↓e32_18, ↓e32_20, ↓e32_21, ↓e32_24, ↓e32_27, ↓e32_28, ↓e32_29, ↓e32_30, ↓e32_33, ↓e32_36, ↓e32_39, ↓e32_40, ↓e32_41, ↓e32_44, ↓e32_47, ↓e32_48, ↓e32_51, ↓e32_54, ↓e32_57, ↓e32_58, ↓e32_61, ↓e32_64, ↓e32_65, ↓e32_68, ↓e32_71, ↓e32_72, ↓e21, ↓e21_0, ↓e21_1, ↓e21_2, ↓e21_5, ↓e21_6, ↓e21_8, ↓e21_11, znl_i, znl_r, znl_n, zcs_0, zcs_1, zcs_2, zcs_3, zcat_0, zcat_1, zcat_2, zcat_3, zbl_0, zbl_1, true_and, and_true, ↓zret_some, ↓zret_none, Nat.reduceAdd, Nat.reduceLeDiff, Nat.reduceMul, eq_self, Int.reduceToNat, Int.reduceLE, Int.reduceLT, Int.reduceNeg, and_self, zrg, zkc_0, zin_1, zin_2, zin_3, zin_4, zin_5, zin_6, zin_7, zin_8, zin_9, zaa_9, zkc_10, zin_11, zin_12, zkc_13, zin_14, zin_15, zkc_16, zin_17, zin_18, zkc_19, zin_20, zin_21, zin_22, zin_23, zin_24, zin_25, zin_26, zin_27, zin_28, zaa_28, zkc_29, zin_30, zin_31, zkc_32, zin_33, zin_34, zkc_35, zin_36, zin_37, zkc_38, zin_39, zin_40, zin_41, zin_42, zin_43, zin_44, zin_45, zin_46, zin_47, zaa_47, zkc_48, zin_49, zin_50, zkc_51, zin_52, zin_53, zkc_54, zin_55, zin_56, zkc_209, zkc_210, zin_211, zaa_211, zkc_212, zin_213, zkc_214, zkc_215, zin_216, zin_217, zkc_218, zin_219, zin_220, zin_221, zkc_222, zin_223, zaa_223, zin_224, zin_225, zkc_226, zin_227, zin_228, zin_229, zin_230, zin_231, zin_232, zkc_233, zin_234, zaa_234, zin_235, zin_236, zin_237, zin_238, zin_239, zin_240, zin_241, zin_242, zin_243, zin_244, zin_245, zin_246, zin_247, zin_248, zin_249, zin_250, zkc_251, zin_252, zin_253, zkc_374, zin_375, zin_376, zin_377, zin_378, zin_379, zin_380, zin_381, zin_382, zin_383, zin_384, zin_385, zin_386, zin_387]
  exact h9
