/-! ### copies of shapes and worlds -/
theorem zcpy0 (f g : Nat → Int) (n : Nat) {j : Nat} (h : j < n) : va_cpy f g 0 0 n j = f j := by
  unfold va_cpy; rw [if_pos ⟨by omega, by omega⟩]; simp
theorem zkS {a : Nat} (ha : zkc a = 5) : zk (a + 1) = (0, 10, []) ∧ zk (a + 2) = (0, 10, []) := by
  have h : (List.range zN).all (fun a => decide (zkc a = 5 → zk (a + 1) = (0, 10, []) ∧ zk (a + 2) = (0, 10, []))) = true := by decide +kernel
  have hl : a < zN := zk_in (fun q => by unfold zkc at ha; rw [q] at ha; cases ha)
  exact of_decide_eq_true (List.all_eq_true.mp h a (List.mem_range.mpr hl)) ha
theorem zcpS {a o : Nat} (ha : zkc a = 5) (ho : zkc o = 5) : zcp (o + 1) (a + 1) 0 0 10 = True ∧ zcp (o + 2) (a + 2) 0 0 10 = True := by
  unfold zcp
  rw [(zkS ha).1, (zkS ha).2, (zkS ho).1, (zkS ho).2]
  simp
def zcpyS (M : zM) (a o : Nat) : zM := zup (zup (zrow (zrow M (a + 1) (va_cpy (M (o + 1)) (M (a + 1)) 0 0 10)) (a + 2) (va_cpy (M (o + 2)) (M (a + 2)) 0 0 10)) a 2 (M o 2)) a 3 (M o 3)
theorem s_copyS (d : Nat) (Q : zQ) (M : zM) (a o : Nat) (ha : zkc a = 5) (ho : zkc o = 5) (hne : a + 2 < o ∨ o + 2 < a) : Sp (d + 1) 20 [.inr (.inr a), .inr (.inr o)] M Q = Q none (zcpyS M a o) := by
  simp only [↓e20, ↓e20_0, ↓e20_1, ↓e20_4, ↓e20_5, ↓e20_6, ↓e20_9, ↓e20_10, ↓e20_12, ↓e20_15, ↓e20_16, ↓e20_19, ↓e20_20, ↓e20_21, ↓e20_24, ↓e20_25, ↓e20_27, ↓e20_30, ↓e20_31, ↓e20_32, ↓e20_35, ↓e20_38, ↓e20_39, ↓e20_40, ↓e20_43, ↓e20_46, znl_i, znl_r, znl_n, zcs_0, zcs_1, zcs_2, zcs_3, zcat_0, zcat_1, zcat_2, zcat_3, zbl_0, zbl_1, true_and, and_true, ↓zret_some, ↓zret_none, Nat.reduceAdd, Nat.reduceLeDiff, Nat.reduceMul, eq_self, Int.reduceToNat, ha, ho, (zcpS ha ho).1, (zcpS ha ho).2]
  have e1 : ¬ o = a := by omega
  have e2 : ¬ o = a + 1 := by omega
  have e3 : ¬ o = a + 2 := by omega
  have e4 : ¬ o + 2 = a + 1 := by omega
  simp [zcpyS, zrow, zup, e1, e2, e3, e4]
theorem zkcW_of {a : Nat} (h1 : a < 209) (h2 : a % 19 = 0) : zkc a = 10 := by
  have h : (List.range zN).all (fun a => decide (a < 209 ∧ a % 19 = 0 → zkc a = 10)) = true := by decide +kernel
  exact of_decide_eq_true (List.all_eq_true.mp h a (List.mem_range.mpr (by show a < 388; omega))) ⟨h1, h2⟩
theorem zkcWS {a j : Nat} (ha : zkc a = 10) (hj : j < 3) : zkc (a + 10 + 3 * j) = 5 := by
  obtain ⟨h1, h2⟩ := zkcW ha
  have h : (List.range zN).all (fun a => decide (a < 209 ∧ a % 19 = 0 → zkc (a + 10) = 5 ∧ zkc (a + 13) = 5 ∧ zkc (a + 16) = 5)) = true := by decide +kernel
  have h3 := of_decide_eq_true (List.all_eq_true.mp h a (List.mem_range.mpr (by show a < 388; omega))) ⟨h1, h2⟩
  rcases (show j = 0 ∨ j = 1 ∨ j = 2 by omega) with rfl | rfl | rfl
  · exact h3.1
  · exact h3.2.1
  · exact h3.2.2
theorem zaaW {a : Nat} (ha : zkc a = 10) (m : Nat) : zaa (a + 9) m = a + 10 + 3 * m := by
  obtain ⟨h1, h2⟩ := zkcW ha
  have hk : zk (a + 9) = (3, 3, [5, a + 9 + 1, 3]) := by
    unfold zk
    rw [if_pos (by omega), show (a + 9) % 19 = 9 by omega]
    rfl
  rw [zaa_of hk]
theorem zkWa {a : Nat} (ha : zkc a = 10) : zk (a + 1) = (0, 120, []) ∧ zk (a + 2) = (0, 10, []) ∧ zk (a + 3) = (0, 10, []) ∧ zk (a + 4) = (0, 10, []) ∧ zk (a + 5) = (0, 10, []) ∧ zk (a + 6) = (0, 10, []) ∧ zk (a + 7) = (0, 10, []) ∧ zk (a + 8) = (0, 8, []) := by
  obtain ⟨h1, h2⟩ := zkcW ha
  have hk : ∀ k, k < 19 → zk (a + k) = zkW (a + k) k := by
    intro k hk
    unfold zk
    rw [if_pos (by omega), show (a + k) % 19 = k by omega]
  exact ⟨hk 1 (by omega), hk 2 (by omega), hk 3 (by omega), hk 4 (by omega), hk 5 (by omega), hk 6 (by omega), hk 7 (by omega), hk 8 (by omega)⟩
theorem zcpW {a o : Nat} (ha : zkc a = 10) (ho : zkc o = 10) : zcp (o + 1) (a + 1) 0 0 120 = True ∧ zcp (o + 2) (a + 2) 0 0 10 = True ∧ zcp (o + 3) (a + 3) 0 0 10 = True ∧ zcp (o + 4) (a + 4) 0 0 10 = True ∧ zcp (o + 5) (a + 5) 0 0 10 = True ∧ zcp (o + 6) (a + 6) 0 0 10 = True ∧ zcp (o + 7) (a + 7) 0 0 10 = True ∧ zcp (o + 8) (a + 8) 0 0 8 = True := by
  unfold zcp
  obtain ⟨a1, a2, a3, a4, a5, a6, a7, a8⟩ := zkWa ha
  obtain ⟨b1, b2, b3, b4, b5, b6, b7, b8⟩ := zkWa ho
  rw [a1, a2, a3, a4, a5, a6, a7, a8, b1, b2, b3, b4, b5, b6, b7, b8]
  simp
def lenW (i : Nat) : Nat := if i = 1 then 120 else if i = 8 then 8 else 10
/-- the cells of world a in N: k of the rows and q of the shapes are those of world o in M, nothing else has changed -/
def Fcp (M N : zM) (a o k q : Nat) : Prop :=
  (∀ b, b < a ∨ a + 19 ≤ b → N b = M b) ∧ (∀ i, 1 ≤ i → i ≤ k → ∀ j, j < lenW i → N (a + i) j = M (o + i) j) ∧
  (∀ j, j < q → N (a + 10 + 3 * j) 2 = M (o + 10 + 3 * j) 2 ∧ N (a + 10 + 3 * j) 3 = M (o + 10 + 3 * j) 3 ∧ ∀ s, s < 10 → N (a + 11 + 3 * j) s = M (o + 11 + 3 * j) s ∧ N (a + 12 + 3 * j) s = M (o + 12 + 3 * j) s)
theorem Fcp_row {M N : zM} {a o k : Nat} (h : Fcp M N a o k 0) (hd : a + 19 ≤ o ∨ o + 19 ≤ a) (hk : k < 8) : Fcp M (zrow N (a + (k + 1)) (va_cpy (N (o + (k + 1))) (N (a + (k + 1))) 0 0 (lenW (k + 1)))) a o (k + 1) 0 := by
  obtain ⟨h1, h2, -⟩ := h
  refine ⟨fun b hb => ?_, fun i i1 i2 j hj => ?_, fun j hj => absurd hj (Nat.not_lt_zero j)⟩
  · rw [zrow_ne _ _ (by omega)]; exact h1 b hb
  · by_cases e : i = k + 1
    · subst e
      rw [zrow_self, zcpy0 _ _ _ hj, h1 (o + (k + 1)) (by omega)]
    · rw [zrow_ne _ _ (by omega)]
      exact h2 i i1 (by omega) j hj
theorem Fcp_shape {M N : zM} {a o q : Nat} (h : Fcp M N a o 8 q) (hd : a + 19 ≤ o ∨ o + 19 ≤ a) (hq : q < 3) : Fcp M (zcpyS N (a + 10 + 3 * q) (o + 10 + 3 * q)) a o 8 (q + 1) := by
  obtain ⟨h1, h2, h3⟩ := h
  have hz : ∀ b, b ≠ a + 10 + 3 * q → b ≠ a + 10 + 3 * q + 1 → b ≠ a + 10 + 3 * q + 2 → zcpyS N (a + 10 + 3 * q) (o + 10 + 3 * q) b = N b := by
    intro b b1 b2 b3
    unfold zcpyS
    rw [zup_ne _ _ _ b1, zup_ne _ _ _ b1, zrow_ne _ _ b3, zrow_ne _ _ b2]
  refine ⟨fun b hb => ?_, fun i i1 i2 j hj => ?_, fun j hj => ?_⟩
  · rw [hz b (by omega) (by omega) (by omega)]; exact h1 b hb
  · rw [hz (a + i) (by omega) (by omega) (by omega)]; exact h2 i i1 i2 j hj
  · by_cases e : j = q
    · subst e
      have o0 := h1 (o + 10 + 3 * j) (by omega)
      have o1 := h1 (o + 10 + 3 * j + 1) (by omega)
      have o2 := h1 (o + 10 + 3 * j + 2) (by omega)
      have e1 : a + 11 + 3 * j = a + 10 + 3 * j + 1 := by omega
      have e2 : a + 12 + 3 * j = a + 10 + 3 * j + 2 := by omega
      have e3 : o + 11 + 3 * j = o + 10 + 3 * j + 1 := by omega
      have e4 : o + 12 + 3 * j = o + 10 + 3 * j + 2 := by omega
      rw [e1, e2, e3, e4]
      generalize a + 10 + 3 * j = x at *
      generalize o + 10 + 3 * j = y at *
      unfold zcpyS
      refine ⟨?_, ?_, fun s hs => ⟨?_, ?_⟩⟩
      · simp [zup, o0]
      · simp [zup, o0]
      · rw [zup_ne _ _ _ (by omega), zup_ne _ _ _ (by omega), zrow_ne _ _ (by omega), zrow_self, zcpy0 _ _ _ hs, o1]
      · rw [zup_ne _ _ _ (by omega), zup_ne _ _ _ (by omega), zrow_self, zcpy0 _ _ _ hs, o2]
    · obtain ⟨g1, g2, g3⟩ := h3 j (by omega)
      refine ⟨?_, ?_, fun s hs => ⟨?_, ?_⟩⟩
      · rw [hz _ (by omega) (by omega) (by omega)]; exact g1
      · rw [hz _ (by omega) (by omega) (by omega)]; exact g2
      · rw [hz _ (by omega) (by omega) (by omega)]; exact (g3 s hs).1
      · rw [hz _ (by omega) (by omega) (by omega)]; exact (g3 s hs).2
theorem Fcp_end {M N S : zM} {a o : Nat} (h : Fcp M N a o 8 3) (hd : a + 19 ≤ o ∨ o + 19 ≤ a) (hR : RelC M o S) : RelC (zup (zup (zup N a 9 (M o 9)) a 10 (M o 10)) a 11 (M o 11)) a S := by
  obtain ⟨h1, h2, h3⟩ := h
  obtain ⟨r1, r2, r3, r4, r5, r6, r7, r8, r9, r10, r11, r12⟩ := hR
  have hz : ∀ b, b ≠ a → (zup (zup (zup N a 9 (M o 9)) a 10 (M o 10)) a 11 (M o 11)) b = N b := fun b hb => by rw [zup_ne _ _ _ hb, zup_ne _ _ _ hb, zup_ne _ _ _ hb]
  refine ⟨fun c hc => ?_, fun c hc => ?_, fun c hc => ?_, fun c hc => ?_, fun c hc => ?_, fun c hc => ?_, fun c hc => ?_, fun c hc => ?_, ?_, ?_, ?_, fun j hj => ⟨?_, ?_, fun s hs => ⟨?_, ?_⟩⟩⟩
  · rw [hz _ (by omega), h2 1 (by omega) (by omega) c hc]; exact r1 c hc
  · rw [hz _ (by omega), h2 2 (by omega) (by omega) c hc]; exact r2 c hc
  · rw [hz _ (by omega), h2 3 (by omega) (by omega) c hc]; exact r3 c hc
  · rw [hz _ (by omega), h2 4 (by omega) (by omega) c hc]; exact r4 c hc
  · rw [hz _ (by omega), h2 5 (by omega) (by omega) c hc]; exact r5 c hc
  · rw [hz _ (by omega), h2 6 (by omega) (by omega) c hc]; exact r6 c hc
  · rw [hz _ (by omega), h2 7 (by omega) (by omega) c hc]; exact r7 c hc
  · rw [hz _ (by omega), h2 8 (by omega) (by omega) c hc]; exact r8 c hc
  · rw [← r9]; simp [zup]
  · rw [← r10]; simp [zup]
  · rw [← r11]; simp [zup]
  · rw [hz _ (by omega), (h3 j hj).1]; exact (r12 j hj).1
  · rw [hz _ (by omega), (h3 j hj).2.1]; exact (r12 j hj).2.1
  · rw [hz _ (by omega), ((h3 j hj).2.2 s hs).1]; exact ((r12 j hj).2.2 s hs).1
  · rw [hz _ (by omega), ((h3 j hj).2.2 s hs).2]; exact ((r12 j hj).2.2 s hs).2
theorem s_copyW (d : Nat) (Q : zQ) (M S : zM) (a o : Nat) (ha : zkc a = 10) (ho : zkc o = 10) (hne : a ≠ o) (hR : RelC M o S) (hQ : ∀ M', RelC M' a S → (∀ b, b < a ∨ a + 19 ≤ b → M' b = M b) → Q none M') : Sp (d + 2) 53 [.inr (.inr a), .inr (.inr o)] M Q := by
  obtain ⟨c1, c2, c3, c4, c5, c6, c7, c8⟩ := zcpW ha ho
  obtain ⟨ha1, ha2⟩ := zkcW ha
  obtain ⟨ho1, ho2⟩ := zkcW ho
  have hd : a + 19 ≤ o ∨ o + 19 ≤ a := by omega
  have hz3 : ∀ i : Int, zin 3 (a + 9) i = (0 ≤ i ∧ i < 3) := fun i => (zinW ha i).2.2.2.2.2.2.2.2
  have ho3 : ∀ i : Int, zin 3 (o + 9) i = (0 ≤ i ∧ i < 3) := fun i => (zinW ho i).2.2.2.2.2.2.2.2
  have F0 : Fcp M M a o 0 0 := ⟨fun _ _ => rfl, fun i h1 h2 => by omega, fun j h1 => by omega⟩
  simp only [↓e53, ↓e53_0, ↓e53_1, ↓e53_4, ↓e53_5, ↓e53_6, ↓e53_9, ↓e53_10, ↓e53_12, ↓e53_16, ↓e53_19, ↓e53_20, ↓e53_21, ↓e53_24, ↓e53_25, ↓e53_27, ↓e53_30, ↓e53_31, ↓e53_34, ↓e53_35, ↓e53_36, ↓e53_39, ↓e53_40, ↓e53_42, ↓e53_45, ↓e53_46, ↓e53_49, ↓e53_50, ↓e53_51, ↓e53_54, ↓e53_55, ↓e53_57, ↓e53_60, ↓e53_61, ↓e53_64, ↓e53_65, ↓e53_66, ↓e53_69, ↓e53_70, ↓e53_72, ↓e53_75, ↓e53_76, ↓e53_79, ↓e53_80, ↓e53_81, ↓e53_84, ↓e53_85, ↓e53_87, ↓e53_90, ↓e53_91, ↓e53_94, ↓e53_95, ↓e53_96, ↓e53_99, ↓e53_100, ↓e53_102, ↓e53_105, ↓e53_106, ↓e53_109, ↓e53_110, ↓e53_111, ↓e53_114, ↓e53_115, ↓e53_117, ↓e53_120, ↓e53_121, ↓e53_122, ↓e53_123, ↓e53_124, ↓e53_127, ↓e53_128, ↓e53_131, ↓e53_132, ↓e53_133, ↓e53_134, ↓e53_137, ↓e53_138, ↓e53_139, ↓e53_142, ↓e53_145, ↓e53_148, ↓e53_149, ↓e53_150, ↓e53_153, ↓e53_156, ↓e53_157, ↓e53_158, ↓e53_161, ↓e53_164, ↓e53_165, ↓e53_166, ↓e53_169, ↓e53_172, znl_i, znl_r, znl_n, zcs_0, zcs_1, zcs_2, zcs_3, zcat_0, zcat_1, zcat_2, zcat_3, zbl_0, zbl_1, true_and, and_true, ↓zret_some, ↓zret_none, Nat.reduceAdd, Nat.reduceLeDiff, Nat.reduceMul, eq_self, Int.reduceToNat, ha, ho, c1]
  have F1 := Fcp_row F0 hd (by omega)
  simp only [lenW, Nat.reduceAdd, Nat.reduceEqDiff, ↓reduceIte] at F1
  generalize hN1 : zrow M (a + 1) _ = N1 at F1 ⊢
  simp only [↓e53, ↓e53_0, ↓e53_1, ↓e53_4, ↓e53_5, ↓e53_6, ↓e53_9, ↓e53_10, ↓e53_12, ↓e53_15, ↓e53_16, ↓e53_19, ↓e53_20, ↓e53_21, ↓e53_24, ↓e53_25, ↓e53_27, ↓e53_31, ↓e53_34, ↓e53_35, ↓e53_36, ↓e53_39, ↓e53_40, ↓e53_42, ↓e53_45, ↓e53_46, ↓e53_49, ↓e53_50, ↓e53_51, ↓e53_54, ↓e53_55, ↓e53_57, ↓e53_60, ↓e53_61, ↓e53_64, ↓e53_65, ↓e53_66, ↓e53_69, ↓e53_70, ↓e53_72, ↓e53_75, ↓e53_76, ↓e53_79, ↓e53_80, ↓e53_81, ↓e53_84, ↓e53_85, ↓e53_87, ↓e53_90, ↓e53_91, ↓e53_94, ↓e53_95, ↓e53_96, ↓e53_99, ↓e53_100, ↓e53_102, ↓e53_105, ↓e53_106, ↓e53_109, ↓e53_110, ↓e53_111, ↓e53_114, ↓e53_115, ↓e53_117, ↓e53_120, ↓e53_121, ↓e53_122, ↓e53_123, ↓e53_124, ↓e53_127, ↓e53_128, ↓e53_131, ↓e53_132, ↓e53_133, ↓e53_134, ↓e53_137, ↓e53_138, ↓e53_139, ↓e53_142, ↓e53_145, ↓e53_148, ↓e53_149, ↓e53_150, ↓e53_153, ↓e53_156, ↓e53_157, ↓e53_158, ↓e53_161, ↓e53_164, ↓e53_165, ↓e53_166, ↓e53_169, ↓e53_172, znl_i, znl_r, znl_n, zcs_0, zcs_1, zcs_2, zcs_3, zcat_0, zcat_1, zcat_2, zcat_3, zbl_0, zbl_1, true_and, and_true, ↓zret_some, ↓zret_none, Nat.reduceAdd, Nat.reduceLeDiff, Nat.reduceMul, eq_self, Int.reduceToNat, ha, ho, c2]
  have F2 := Fcp_row F1 hd (by omega)
  simp only [lenW, Nat.reduceAdd, Nat.reduceEqDiff, ↓reduceIte] at F2
  generalize hN2 : zrow N1 (a + 2) _ = N2 at F2 ⊢
  simp only [↓e53, ↓e53_0, ↓e53_1, ↓e53_4, ↓e53_5, ↓e53_6, ↓e53_9, ↓e53_10, ↓e53_12, ↓e53_15, ↓e53_16, ↓e53_19, ↓e53_20, ↓e53_21, ↓e53_24, ↓e53_25, ↓e53_27, ↓e53_30, ↓e53_31, ↓e53_34, ↓e53_35, ↓e53_36, ↓e53_39, ↓e53_40, ↓e53_42, ↓e53_46, ↓e53_49, ↓e53_50, ↓e53_51, ↓e53_54, ↓e53_55, ↓e53_57, ↓e53_60, ↓e53_61, ↓e53_64, ↓e53_65, ↓e53_66, ↓e53_69, ↓e53_70, ↓e53_72, ↓e53_75, ↓e53_76, ↓e53_79, ↓e53_80, ↓e53_81, ↓e53_84, ↓e53_85, ↓e53_87, ↓e53_90, ↓e53_91, ↓e53_94, ↓e53_95, ↓e53_96, ↓e53_99, ↓e53_100, ↓e53_102, ↓e53_105, ↓e53_106, ↓e53_109, ↓e53_110, ↓e53_111, ↓e53_114, ↓e53_115, ↓e53_117, ↓e53_120, ↓e53_121, ↓e53_122, ↓e53_123, ↓e53_124, ↓e53_127, ↓e53_128, ↓e53_131, ↓e53_132, ↓e53_133, ↓e53_134, ↓e53_137, ↓e53_138, ↓e53_139, ↓e53_142, ↓e53_145, ↓e53_148, ↓e53_149, ↓e53_150, ↓e53_153, ↓e53_156, ↓e53_157, ↓e53_158, ↓e53_161, ↓e53_164, ↓e53_165, ↓e53_166, ↓e53_169, ↓e53_172, znl_i, znl_r, znl_n, zcs_0, zcs_1, zcs_2, zcs_3, zcat_0, zcat_1, zcat_2, zcat_3, zbl_0, zbl_1, true_and, and_true, ↓zret_some, ↓zret_none, Nat.reduceAdd, Nat.reduceLeDiff, Nat.reduceMul, eq_self, Int.reduceToNat, ha, ho, c3]
  have F3 := Fcp_row F2 hd (by omega)
  simp only [lenW, Nat.reduceAdd, Nat.reduceEqDiff, ↓reduceIte] at F3
  generalize hN3 : zrow N2 (a + 3) _ = N3 at F3 ⊢
  simp only [↓e53, ↓e53_0, ↓e53_1, ↓e53_4, ↓e53_5, ↓e53_6, ↓e53_9, ↓e53_10, ↓e53_12, ↓e53_15, ↓e53_16, ↓e53_19, ↓e53_20, ↓e53_21, ↓e53_24, ↓e53_25, ↓e53_27, ↓e53_30, ↓e53_31, ↓e53_34, ↓e53_35, ↓e53_36, ↓e53_39, ↓e53_40, ↓e53_42, ↓e53_45, ↓e53_46, ↓e53_49, ↓e53_50, ↓e53_51, ↓e53_54, ↓e53_55, ↓e53_57, ↓e53_61, ↓e53_64, ↓e53_65, ↓e53_66, ↓e53_69, ↓e53_70, ↓e53_72, ↓e53_75, ↓e53_76, ↓e53_79, ↓e53_80, ↓e53_81, ↓e53_84, ↓e53_85, ↓e53_87, ↓e53_90, ↓e53_91, ↓e53_94, ↓e53_95, ↓e53_96, ↓e53_99, ↓e53_100, ↓e53_102, ↓e53_105, ↓e53_106, ↓e53_109, ↓e53_110, ↓e53_111, ↓e53_114, ↓e53_115, ↓e53_117, ↓e53_120, ↓e53_121, ↓e53_122, ↓e53_123, ↓e53_124, ↓e53_127, ↓e53_128, ↓e53_131, ↓e53_132, ↓e53_133, ↓e53_134, ↓e53_137, ↓e53_138, ↓e53_139, ↓e53_142, ↓e53_145, ↓e53_148, ↓e53_149, ↓e53_150, ↓e53_153, ↓e53_156, ↓e53_157, ↓e53_158, ↓e53_161, ↓e53_164, ↓e53_165, ↓e53_166, ↓e53_169, ↓e53_172, znl_i, znl_r, znl_n, zcs_0, zcs_1, zcs_2, zcs_3, zcat_0, zcat_1, zcat_2, zcat_3, zbl_0, zbl_1, true_and, and_true, ↓zret_some, ↓zret_none, Nat.reduceAdd, Nat.reduceLeDiff, Nat.reduceMul, eq_self, Int.reduceToNat, ha, ho, c4]
  have F4 := Fcp_row F3 hd (by omega)
  simp only [lenW, Nat.reduceAdd, Nat.reduceEqDiff, ↓reduceIte] at F4
  generalize hN4 : zrow N3 (a + 4) _ = N4 at F4 ⊢
  simp only [↓e53, ↓e53_0, ↓e53_1, ↓e53_4, ↓e53_5, ↓e53_6, ↓e53_9, ↓e53_10, ↓e53_12, ↓e53_15, ↓e53_16, ↓e53_19, ↓e53_20, ↓e53_21, ↓e53_24, ↓e53_25, ↓e53_27, ↓e53_30, ↓e53_31, ↓e53_34, ↓e53_35, ↓e53_36, ↓e53_39, ↓e53_40, ↓e53_42, ↓e53_45, ↓e53_46, ↓e53_49, ↓e53_50, ↓e53_51, ↓e53_54, ↓e53_55, ↓e53_57, ↓e53_60, ↓e53_61, ↓e53_64, ↓e53_65, ↓e53_66, ↓e53_69, ↓e53_70, ↓e53_72, ↓e53_76, ↓e53_79, ↓e53_80, ↓e53_81, ↓e53_84, ↓e53_85, ↓e53_87, ↓e53_90, ↓e53_91, ↓e53_94, ↓e53_95, ↓e53_96, ↓e53_99, ↓e53_100, ↓e53_102, ↓e53_105, ↓e53_106, ↓e53_109, ↓e53_110, ↓e53_111, ↓e53_114, ↓e53_115, ↓e53_117, ↓e53_120, ↓e53_121, ↓e53_122, ↓e53_123, ↓e53_124, ↓e53_127, ↓e53_128, ↓e53_131, ↓e53_132, ↓e53_133, ↓e53_134, ↓e53_137, ↓e53_138, ↓e53_139, ↓e53_142, ↓e53_145, ↓e53_148, ↓e53_149, ↓e53_150, ↓e53_153, ↓e53_156, ↓e53_157, ↓e53_158, ↓e53_161, ↓e53_164, ↓e53_165, ↓e53_166, ↓e53_169, ↓e53_172, znl_i, znl_r, znl_n, zcs_0, zcs_1, zcs_2, zcs_3, zcat_0, zcat_1, zcat_2, zcat_3, zbl_0, zbl_1, true_and, and_true, ↓zret_some, ↓zret_none, Nat.reduceAdd, Nat.reduceLeDiff, Nat.reduceMul, eq_self, Int.reduceToNat, ha, ho, c5]
  have F5 := Fcp_row F4 hd (by omega)
  simp only [lenW, Nat.reduceAdd, Nat.reduceEqDiff, ↓reduceIte] at F5
  generalize hN5 : zrow N4 (a + 5) _ = N5 at F5 ⊢
  simp only [↓e53, ↓e53_0, ↓e53_1, ↓e53_4, ↓e53_5, ↓e53_6, ↓e53_9, ↓e53_10, ↓e53_12, ↓e53_15, ↓e53_16, ↓e53_19, ↓e53_20, ↓e53_21, ↓e53_24, ↓e53_25, ↓e53_27, ↓e53_30, ↓e53_31, ↓e53_34, ↓e53_35, ↓e53_36, ↓e53_39, ↓e53_40, ↓e53_42, ↓e53_45, ↓e53_46, ↓e53_49, ↓e53_50, ↓e53_51, ↓e53_54, ↓e53_55, ↓e53_57, ↓e53_60, ↓e53_61, ↓e53_64, ↓e53_65, ↓e53_66, ↓e53_69, ↓e53_70, ↓e53_72, ↓e53_75, ↓e53_76, ↓e53_79, ↓e53_80, ↓e53_81, ↓e53_84, ↓e53_85, ↓e53_87, ↓e53_91, ↓e53_94, ↓e53_95, ↓e53_96, ↓e53_99, ↓e53_100, ↓e53_102, ↓e53_105, ↓e53_106, ↓e53_109, ↓e53_110, ↓e53_111, ↓e53_114, ↓e53_115, ↓e53_117, ↓e53_120, ↓e53_121, ↓e53_122, ↓e53_123, ↓e53_124, ↓e53_127, ↓e53_128, ↓e53_131, ↓e53_132, ↓e53_133, ↓e53_134, ↓e53_137, ↓e53_138, ↓e53_139, ↓e53_142, ↓e53_145, ↓e53_148, ↓e53_149, ↓e53_150, ↓e53_153, ↓e53_156, ↓e53_157, ↓e53_158, ↓e53_161, ↓e53_164, ↓e53_165, ↓e53_166, ↓e53_169, ↓e53_172, znl_i, znl_r, znl_n, zcs_0, zcs_1, zcs_2, zcs_3, zcat_0, zcat_1, zcat_2, zcat_3, zbl_0, zbl_1, true_and, and_true, ↓zret_some, ↓zret_none, Nat.reduceAdd, Nat.reduceLeDiff, Nat.reduceMul, eq_self, Int.reduceToNat, ha, ho, c6]
  have F6 := Fcp_row F5 hd (by omega)
  simp only [lenW, Nat.reduceAdd, Nat.reduceEqDiff, ↓reduceIte] at F6
  generalize hN6 : zrow N5 (a + 6) _ = N6 at F6 ⊢
  simp only [↓e53, ↓e53_0, ↓e53_1, ↓e53_4, ↓e53_5, ↓e53_6, ↓e53_9, ↓e53_10, ↓e53_12, ↓e53_15, ↓e53_16, ↓e53_19, ↓e53_20, ↓e53_21, ↓e53_24, ↓e53_25, ↓e53_27, ↓e53_30, ↓e53_31, ↓e53_34, ↓e53_35, ↓e53_36, ↓e53_39, ↓e53_40, ↓e53_42, ↓e53_45, ↓e53_46, ↓e53_49, ↓e53_50, ↓e53_51, ↓e53_54, ↓e53_55, ↓e53_57, ↓e53_60, ↓e53_61, ↓e53_64, ↓e53_65, ↓e53_66, ↓e53_69, ↓e53_70, ↓e53_72, ↓e53_75, ↓e53_76, ↓e53_79, ↓e53_80, ↓e53_81, ↓e53_84, ↓e53_85, ↓e53_87, ↓e53_90, ↓e53_91, ↓e53_94, ↓e53_95, ↓e53_96, ↓e53_99, ↓e53_100, ↓e53_102, ↓e53_106, ↓e53_109, ↓e53_110, ↓e53_111, ↓e53_114, ↓e53_115, ↓e53_117, ↓e53_120, ↓e53_121, ↓e53_122, ↓e53_123, ↓e53_124, ↓e53_127, ↓e53_128, ↓e53_131, ↓e53_132, ↓e53_133, ↓e53_134, ↓e53_137, ↓e53_138, ↓e53_139, ↓e53_142, ↓e53_145, ↓e53_148, ↓e53_149, ↓e53_150, ↓e53_153, ↓e53_156, ↓e53_157, ↓e53_158, ↓e53_161, ↓e53_164, ↓e53_165, ↓e53_166, ↓e53_169, ↓e53_172, znl_i, znl_r, znl_n, zcs_0, zcs_1, zcs_2, zcs_3, zcat_0, zcat_1, zcat_2, zcat_3, zbl_0, zbl_1, true_and, and_true, ↓zret_some, ↓zret_none, Nat.reduceAdd, Nat.reduceLeDiff, Nat.reduceMul, eq_self, Int.reduceToNat, ha, ho, c7]
  have F7 := Fcp_row F6 hd (by omega)
  simp only [lenW, Nat.reduceAdd, Nat.reduceEqDiff, ↓reduceIte] at F7
  generalize hN7 : zrow N6 (a + 7) _ = N7 at F7 ⊢
  simp only [↓e53, ↓e53_0, ↓e53_1, ↓e53_4, ↓e53_5, ↓e53_6, ↓e53_9, ↓e53_10, ↓e53_12, ↓e53_15, ↓e53_16, ↓e53_19, ↓e53_20, ↓e53_21, ↓e53_24, ↓e53_25, ↓e53_27, ↓e53_30, ↓e53_31, ↓e53_34, ↓e53_35, ↓e53_36, ↓e53_39, ↓e53_40, ↓e53_42, ↓e53_45, ↓e53_46, ↓e53_49, ↓e53_50, ↓e53_51, ↓e53_54, ↓e53_55, ↓e53_57, ↓e53_60, ↓e53_61, ↓e53_64, ↓e53_65, ↓e53_66, ↓e53_69, ↓e53_70, ↓e53_72, ↓e53_75, ↓e53_76, ↓e53_79, ↓e53_80, ↓e53_81, ↓e53_84, ↓e53_85, ↓e53_87, ↓e53_90, ↓e53_91, ↓e53_94, ↓e53_95, ↓e53_96, ↓e53_99, ↓e53_100, ↓e53_102, ↓e53_105, ↓e53_106, ↓e53_109, ↓e53_110, ↓e53_111, ↓e53_114, ↓e53_115, ↓e53_117, ↓e53_121, ↓e53_122, ↓e53_123, ↓e53_124, ↓e53_127, ↓e53_128, ↓e53_131, ↓e53_132, ↓e53_133, ↓e53_134, ↓e53_137, ↓e53_138, ↓e53_139, ↓e53_142, ↓e53_145, ↓e53_148, ↓e53_149, ↓e53_150, ↓e53_153, ↓e53_156, ↓e53_157, ↓e53_158, ↓e53_161, ↓e53_164, ↓e53_165, ↓e53_166, ↓e53_169, ↓e53_172, znl_i, znl_r, znl_n, zcs_0, zcs_1, zcs_2, zcs_3, zcat_0, zcat_1, zcat_2, zcat_3, zbl_0, zbl_1, true_and, and_true, ↓zret_some, ↓zret_none, Nat.reduceAdd, Nat.reduceLeDiff, Nat.reduceMul, eq_self, Int.reduceToNat, ha, ho, c8]
  have F8 := Fcp_row F7 hd (by omega)
  simp only [lenW, Nat.reduceAdd, Nat.reduceEqDiff, ↓reduceIte] at F8
  generalize hN8 : zrow N7 (a + 8) _ = N8 at F8 ⊢
  simp only [↓e53, ↓e53_0, ↓e53_1, ↓e53_4, ↓e53_5, ↓e53_6, ↓e53_9, ↓e53_10, ↓e53_12, ↓e53_15, ↓e53_16, ↓e53_19, ↓e53_20, ↓e53_21, ↓e53_24, ↓e53_25, ↓e53_27, ↓e53_30, ↓e53_31, ↓e53_34, ↓e53_35, ↓e53_36, ↓e53_39, ↓e53_40, ↓e53_42, ↓e53_45, ↓e53_46, ↓e53_49, ↓e53_50, ↓e53_51, ↓e53_54, ↓e53_55, ↓e53_57, ↓e53_60, ↓e53_61, ↓e53_64, ↓e53_65, ↓e53_66, ↓e53_69, ↓e53_70, ↓e53_72, ↓e53_75, ↓e53_76, ↓e53_79, ↓e53_80, ↓e53_81, ↓e53_84, ↓e53_85, ↓e53_87, ↓e53_90, ↓e53_91, ↓e53_94, ↓e53_95, ↓e53_96, ↓e53_99, ↓e53_100, ↓e53_102, ↓e53_105, ↓e53_106, ↓e53_109, ↓e53_110, ↓e53_111, ↓e53_114, ↓e53_115, ↓e53_117, ↓e53_120, ↓e53_121, ↓e53_123, ↓e53_124, ↓e53_127, ↓e53_128, ↓e53_131, ↓e53_132, ↓e53_133, ↓e53_134, ↓e53_137, ↓e53_138, ↓e53_139, ↓e53_142, ↓e53_145, ↓e53_148, ↓e53_149, ↓e53_150, ↓e53_153, ↓e53_156, ↓e53_157, ↓e53_158, ↓e53_161, ↓e53_164, ↓e53_165, ↓e53_166, ↓e53_169, ↓e53_172, znl_i, znl_r, znl_n, zcs_0, zcs_1, zcs_2, zcs_3, zcat_0, zcat_1, zcat_2, zcat_3, zbl_0, zbl_1, true_and, and_true, ↓zret_some, ↓zret_none, Nat.reduceAdd, Nat.reduceLeDiff, Nat.reduceMul, eq_self, Int.reduceToNat, ha, ho]
  rw [e53_122]
  simp only [↓e53, ↓e53_0, ↓e53_1, ↓e53_4, ↓e53_5, ↓e53_6, ↓e53_9, ↓e53_10, ↓e53_12, ↓e53_15, ↓e53_16, ↓e53_19, ↓e53_20, ↓e53_21, ↓e53_24, ↓e53_25, ↓e53_27, ↓e53_30, ↓e53_31, ↓e53_34, ↓e53_35, ↓e53_36, ↓e53_39, ↓e53_40, ↓e53_42, ↓e53_45, ↓e53_46, ↓e53_49, ↓e53_50, ↓e53_51, ↓e53_54, ↓e53_55, ↓e53_57, ↓e53_60, ↓e53_61, ↓e53_64, ↓e53_65, ↓e53_66, ↓e53_69, ↓e53_70, ↓e53_72, ↓e53_75, ↓e53_76, ↓e53_79, ↓e53_80, ↓e53_81, ↓e53_84, ↓e53_85, ↓e53_87, ↓e53_90, ↓e53_91, ↓e53_94, ↓e53_95, ↓e53_96, ↓e53_99, ↓e53_100, ↓e53_102, ↓e53_105, ↓e53_106, ↓e53_109, ↓e53_110, ↓e53_111, ↓e53_114, ↓e53_115, ↓e53_117, ↓e53_120, ↓e53_121, ↓e53_123, ↓e53_124, ↓e53_127, ↓e53_128, ↓e53_131, ↓e53_132, ↓e53_133, ↓e53_134, ↓e53_137, ↓e53_138, ↓e53_139, ↓e53_145, ↓e53_148, ↓e53_149, ↓e53_150, ↓e53_153, ↓e53_156, ↓e53_157, ↓e53_158, ↓e53_161, ↓e53_164, ↓e53_165, ↓e53_166, ↓e53_169, ↓e53_172, znl_i, znl_r, znl_n, zcs_0, zcs_1, zcs_2, zcs_3, zcat_0, zcat_1, zcat_2, zcat_3, zbl_0, zbl_1, true_and, and_true, ↓zret_some, ↓zret_none, Nat.reduceAdd, Nat.reduceLeDiff, Nat.reduceMul, eq_self, Int.reduceToNat, ha, ho, zrg, hz3, ho3, zaaW ha, zaaW ho, Int.reduceLE, Int.reduceLT, Int.reduceAdd, ge_iff_le, ↓reduceIte, ↓s_copyS d _ N8 (a + 10 + 3 * 0) (o + 10 + 3 * 0) (zkcWS ha (by omega)) (zkcWS ho (by omega)) (by omega)]
  refine ⟨zkcWS (j := 0) ha (by omega), ?_⟩
  have F9 := Fcp_shape F8 hd (q := 0) (by omega)
  simp only [Nat.reduceAdd, Nat.reduceMul] at F9
  generalize hN9 : zcpyS N8 (a + 10 + 0) (o + 10 + 0) = N9 at F9 ⊢
  simp only [↓e53, ↓e53_0, ↓e53_1, ↓e53_4, ↓e53_5, ↓e53_6, ↓e53_9, ↓e53_10, ↓e53_12, ↓e53_15, ↓e53_16, ↓e53_19, ↓e53_20, ↓e53_21, ↓e53_24, ↓e53_25, ↓e53_27, ↓e53_30, ↓e53_31, ↓e53_34, ↓e53_35, ↓e53_36, ↓e53_39, ↓e53_40, ↓e53_42, ↓e53_45, ↓e53_46, ↓e53_49, ↓e53_50, ↓e53_51, ↓e53_54, ↓e53_55, ↓e53_57, ↓e53_60, ↓e53_61, ↓e53_64, ↓e53_65, ↓e53_66, ↓e53_69, ↓e53_70, ↓e53_72, ↓e53_75, ↓e53_76, ↓e53_79, ↓e53_80, ↓e53_81, ↓e53_84, ↓e53_85, ↓e53_87, ↓e53_90, ↓e53_91, ↓e53_94, ↓e53_95, ↓e53_96, ↓e53_99, ↓e53_100, ↓e53_102, ↓e53_105, ↓e53_106, ↓e53_109, ↓e53_110, ↓e53_111, ↓e53_114, ↓e53_115, ↓e53_117, ↓e53_120, ↓e53_121, ↓e53_123, ↓e53_124, ↓e53_127, ↓e53_128, ↓e53_131, ↓e53_132, ↓e53_133, ↓e53_134, ↓e53_137, ↓e53_138, ↓e53_139, ↓e53_142, ↓e53_145, ↓e53_148, ↓e53_149, ↓e53_150, ↓e53_153, ↓e53_156, ↓e53_157, ↓e53_158, ↓e53_161, ↓e53_164, ↓e53_165, ↓e53_166, ↓e53_169, ↓e53_172, znl_i, znl_r, znl_n, zcs_0, zcs_1, zcs_2, zcs_3, zcat_0, zcat_1, zcat_2, zcat_3, zbl_0, zbl_1, true_and, and_true, ↓zret_some, ↓zret_none, Nat.reduceAdd, Nat.reduceLeDiff, Nat.reduceMul, eq_self, Int.reduceToNat, ha, ho]
  rw [e53_122]
  simp only [↓e53, ↓e53_0, ↓e53_1, ↓e53_4, ↓e53_5, ↓e53_6, ↓e53_9, ↓e53_10, ↓e53_12, ↓e53_15, ↓e53_16, ↓e53_19, ↓e53_20, ↓e53_21, ↓e53_24, ↓e53_25, ↓e53_27, ↓e53_30, ↓e53_31, ↓e53_34, ↓e53_35, ↓e53_36, ↓e53_39, ↓e53_40, ↓e53_42, ↓e53_45, ↓e53_46, ↓e53_49, ↓e53_50, ↓e53_51, ↓e53_54, ↓e53_55, ↓e53_57, ↓e53_60, ↓e53_61, ↓e53_64, ↓e53_65, ↓e53_66, ↓e53_69, ↓e53_70, ↓e53_72, ↓e53_75, ↓e53_76, ↓e53_79, ↓e53_80, ↓e53_81, ↓e53_84, ↓e53_85, ↓e53_87, ↓e53_90, ↓e53_91, ↓e53_94, ↓e53_95, ↓e53_96, ↓e53_99, ↓e53_100, ↓e53_102, ↓e53_105, ↓e53_106, ↓e53_109, ↓e53_110, ↓e53_111, ↓e53_114, ↓e53_115, ↓e53_117, ↓e53_120, ↓e53_121, ↓e53_123, ↓e53_124, ↓e53_127, ↓e53_128, ↓e53_131, ↓e53_132, ↓e53_133, ↓e53_134, ↓e53_137, ↓e53_138, ↓e53_139, ↓e53_145, ↓e53_148, ↓e53_149, ↓e53_150, ↓e53_153, ↓e53_156, ↓e53_157, ↓e53_158, ↓e53_161, ↓e53_164, ↓e53_165, ↓e53_166, ↓e53_169, ↓e53_172, znl_i, znl_r, znl_n, zcs_0, zcs_1, zcs_2, zcs_3, zcat_0, zcat_1, zcat_2, zcat_3, zbl_0, zbl_1, true_and, and_true, ↓zret_some, ↓zret_none, Nat.reduceAdd, Nat.reduceLeDiff, Nat.reduceMul, eq_self, Int.reduceToNat, ha, ho, zrg, hz3, ho3, zaaW ha, zaaW ho, Int.reduceLE, Int.reduceLT, Int.reduceAdd, ge_iff_le, ↓reduceIte, ↓s_copyS d _ N9 (a + 10 + 3 * 1) (o + 10 + 3 * 1) (zkcWS ha (by omega)) (zkcWS ho (by omega)) (by omega)]
  refine ⟨zkcWS (j := 1) ha (by omega), ?_⟩
  have F10 := Fcp_shape F9 hd (q := 1) (by omega)
  simp only [Nat.reduceAdd, Nat.reduceMul] at F10
  generalize hN10 : zcpyS N9 (a + 10 + 3) (o + 10 + 3) = N10 at F10 ⊢
  simp only [↓e53, ↓e53_0, ↓e53_1, ↓e53_4, ↓e53_5, ↓e53_6, ↓e53_9, ↓e53_10, ↓e53_12, ↓e53_15, ↓e53_16, ↓e53_19, ↓e53_20, ↓e53_21, ↓e53_24, ↓e53_25, ↓e53_27, ↓e53_30, ↓e53_31, ↓e53_34, ↓e53_35, ↓e53_36, ↓e53_39, ↓e53_40, ↓e53_42, ↓e53_45, ↓e53_46, ↓e53_49, ↓e53_50, ↓e53_51, ↓e53_54, ↓e53_55, ↓e53_57, ↓e53_60, ↓e53_61, ↓e53_64, ↓e53_65, ↓e53_66, ↓e53_69, ↓e53_70, ↓e53_72, ↓e53_75, ↓e53_76, ↓e53_79, ↓e53_80, ↓e53_81, ↓e53_84, ↓e53_85, ↓e53_87, ↓e53_90, ↓e53_91, ↓e53_94, ↓e53_95, ↓e53_96, ↓e53_99, ↓e53_100, ↓e53_102, ↓e53_105, ↓e53_106, ↓e53_109, ↓e53_110, ↓e53_111, ↓e53_114, ↓e53_115, ↓e53_117, ↓e53_120, ↓e53_121, ↓e53_123, ↓e53_124, ↓e53_127, ↓e53_128, ↓e53_131, ↓e53_132, ↓e53_133, ↓e53_134, ↓e53_137, ↓e53_138, ↓e53_139, ↓e53_142, ↓e53_145, ↓e53_148, ↓e53_149, ↓e53_150, ↓e53_153, ↓e53_156, ↓e53_157, ↓e53_158, ↓e53_161, ↓e53_164, ↓e53_165, ↓e53_166, ↓e53_169, ↓e53_172, znl_i, znl_r, znl_n, zcs_0, zcs_1, zcs_2, zcs_3, zcat_0, zcat_1, zcat_2, zcat_3, zbl_0, zbl_1, true_and, and_true, ↓zret_some, ↓zret_none, Nat.reduceAdd, Nat.reduceLeDiff, Nat.reduceMul, eq_self, Int.reduceToNat, ha, ho]
  rw [e53_122]
  simp only [↓e53, ↓e53_0, ↓e53_1, ↓e53_4, ↓e53_5, ↓e53_6, ↓e53_9, ↓e53_10, ↓e53_12, ↓e53_15, ↓e53_16, ↓e53_19, ↓e53_20, ↓e53_21, ↓e53_24, ↓e53_25, ↓e53_27, ↓e53_30, ↓e53_31, ↓e53_34, ↓e53_35, ↓e53_36, ↓e53_39, ↓e53_40, ↓e53_42, ↓e53_45, ↓e53_46, ↓e53_49, ↓e53_50, ↓e53_51, ↓e53_54, ↓e53_55, ↓e53_57, ↓e53_60, ↓e53_61, ↓e53_64, ↓e53_65, ↓e53_66, ↓e53_69, ↓e53_70, ↓e53_72, ↓e53_75, ↓e53_76, ↓e53_79, ↓e53_80, ↓e53_81, ↓e53_84, ↓e53_85, ↓e53_87, ↓e53_90, ↓e53_91, ↓e53_94, ↓e53_95, ↓e53_96, ↓e53_99, ↓e53_100, ↓e53_102, ↓e53_105, ↓e53_106, ↓e53_109, ↓e53_110, ↓e53_111, ↓e53_114, ↓e53_115, ↓e53_117, ↓e53_120, ↓e53_121, ↓e53_123, ↓e53_124, ↓e53_127, ↓e53_128, ↓e53_131, ↓e53_132, ↓e53_133, ↓e53_134, ↓e53_137, ↓e53_138, ↓e53_139, ↓e53_145, ↓e53_148, ↓e53_149, ↓e53_150, ↓e53_153, ↓e53_156, ↓e53_157, ↓e53_158, ↓e53_161, ↓e53_164, ↓e53_165, ↓e53_166, ↓e53_169, ↓e53_172, znl_i, znl_r, znl_n, zcs_0, zcs_1, zcs_2, zcs_3, zcat_0, zcat_1, zcat_2, zcat_3, zbl_0, zbl_1, true_and, and_true, ↓zret_some, ↓zret_none, Nat.reduceAdd, Nat.reduceLeDiff, Nat.reduceMul, eq_self, Int.reduceToNat, ha, ho, zrg, hz3, ho3, zaaW ha, zaaW ho, Int.reduceLE, Int.reduceLT, Int.reduceAdd, ge_iff_le, ↓reduceIte, ↓s_copyS d _ N10 (a + 10 + 3 * 2) (o + 10 + 3 * 2) (zkcWS ha (by omega)) (zkcWS ho (by omega)) (by omega)]
  refine ⟨zkcWS (j := 2) ha (by omega), ?_⟩
  have F11 := Fcp_shape F10 hd (q := 2) (by omega)
  simp only [Nat.reduceAdd, Nat.reduceMul] at F11
  generalize hN11 : zcpyS N10 (a + 10 + 6) (o + 10 + 6) = N11 at F11 ⊢
  simp only [↓e53, ↓e53_0, ↓e53_1, ↓e53_4, ↓e53_5, ↓e53_6, ↓e53_9, ↓e53_10, ↓e53_12, ↓e53_15, ↓e53_16, ↓e53_19, ↓e53_20, ↓e53_21, ↓e53_24, ↓e53_25, ↓e53_27, ↓e53_30, ↓e53_31, ↓e53_34, ↓e53_35, ↓e53_36, ↓e53_39, ↓e53_40, ↓e53_42, ↓e53_45, ↓e53_46, ↓e53_49, ↓e53_50, ↓e53_51, ↓e53_54, ↓e53_55, ↓e53_57, ↓e53_60, ↓e53_61, ↓e53_64, ↓e53_65, ↓e53_66, ↓e53_69, ↓e53_70, ↓e53_72, ↓e53_75, ↓e53_76, ↓e53_79, ↓e53_80, ↓e53_81, ↓e53_84, ↓e53_85, ↓e53_87, ↓e53_90, ↓e53_91, ↓e53_94, ↓e53_95, ↓e53_96, ↓e53_99, ↓e53_100, ↓e53_102, ↓e53_105, ↓e53_106, ↓e53_109, ↓e53_110, ↓e53_111, ↓e53_114, ↓e53_115, ↓e53_117, ↓e53_120, ↓e53_121, ↓e53_123, ↓e53_124, ↓e53_127, ↓e53_128, ↓e53_131, ↓e53_132, ↓e53_133, ↓e53_134, ↓e53_137, ↓e53_138, ↓e53_139, ↓e53_142, ↓e53_145, ↓e53_148, ↓e53_149, ↓e53_150, ↓e53_153, ↓e53_156, ↓e53_157, ↓e53_158, ↓e53_161, ↓e53_164, ↓e53_165, ↓e53_166, ↓e53_169, ↓e53_172, znl_i, znl_r, znl_n, zcs_0, zcs_1, zcs_2, zcs_3, zcat_0, zcat_1, zcat_2, zcat_3, zbl_0, zbl_1, true_and, and_true, ↓zret_some, ↓zret_none, Nat.reduceAdd, Nat.reduceLeDiff, Nat.reduceMul, eq_self, Int.reduceToNat, ha, ho]
  rw [e53_122]
  simp only [↓e53, ↓e53_0, ↓e53_1, ↓e53_4, ↓e53_5, ↓e53_6, ↓e53_9, ↓e53_10, ↓e53_12, ↓e53_15, ↓e53_16, ↓e53_19, ↓e53_20, ↓e53_21, ↓e53_24, ↓e53_25, ↓e53_27, ↓e53_30, ↓e53_31, ↓e53_34, ↓e53_35, ↓e53_36, ↓e53_39, ↓e53_40, ↓e53_42, ↓e53_45, ↓e53_46, ↓e53_49, ↓e53_50, ↓e53_51, ↓e53_54, ↓e53_55, ↓e53_57, ↓e53_60, ↓e53_61, ↓e53_64, ↓e53_65, ↓e53_66, ↓e53_69, ↓e53_70, ↓e53_72, ↓e53_75, ↓e53_76, ↓e53_79, ↓e53_80, ↓e53_81, ↓e53_84, ↓e53_85, ↓e53_87, ↓e53_90, ↓e53_91, ↓e53_94, ↓e53_95, ↓e53_96, ↓e53_99, ↓e53_100, ↓e53_102, ↓e53_105, ↓e53_106, ↓e53_109, ↓e53_110, ↓e53_111, ↓e53_114, ↓e53_115, ↓e53_117, ↓e53_120, ↓e53_121, ↓e53_123, ↓e53_124, ↓e53_127, ↓e53_128, ↓e53_131, ↓e53_132, ↓e53_133, ↓e53_134, ↓e53_137, ↓e53_138, ↓e53_139, ↓e53_142, ↓e53_145, ↓e53_148, ↓e53_149, ↓e53_150, ↓e53_153, ↓e53_156, ↓e53_157, ↓e53_158, ↓e53_161, ↓e53_164, ↓e53_165, ↓e53_166, ↓e53_169, ↓e53_172, znl_i, znl_r, znl_n, zcs_0, zcs_1, zcs_2, zcs_3, zcat_0, zcat_1, zcat_2, zcat_3, zbl_0, zbl_1, true_and, and_true, ↓zret_some, ↓zret_none, Nat.reduceAdd, Nat.reduceLeDiff, Nat.reduceMul, eq_self, Int.reduceToNat, ha, ho, zrg, Int.reduceLE, Int.reduceLT, Int.reduceAdd, ge_iff_le, ↓reduceIte]
  have e0 := F11.1 o (by omega)
  have e1 : ¬ o = a := fun h => hne h.symm
  have h10 : ∀ x y : Int, zup N11 a 9 x o 10 = M o 10 := fun x y => by rw [zup_ne _ _ _ e1, e0]
  have h11 : ∀ x y : Int, zup (zup N11 a 9 x) a 10 y o 11 = M o 11 := fun x y => by rw [zup_ne _ _ _ e1, zup_ne _ _ _ e1, e0]
  rw [e0, h10 _ 0, h11]
  refine hQ _ (Fcp_end F11 hd hR) (fun b hb => ?_)
  rw [zup_ne _ _ _ (by omega), zup_ne _ _ _ (by omega), zup_ne _ _ _ (by omega)]
  exact F11.1 b hb
