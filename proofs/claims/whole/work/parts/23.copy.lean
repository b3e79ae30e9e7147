/-! ### copies of shapes and worlds -/
theorem zcpy0 (f g : Nat → Int) (n : Nat) {j : Nat} (h : j < n) : va_cpy f g 0 0 n j = f j := by
  unfold va_cpy; rw [if_pos ⟨by omega, by omega⟩]; simp
theorem zkS {a : Nat} (ha : zkc a = 5) : zk (a + 1) = (0, 10, []) ∧ zk (a + 2) = (0, 10, []) := by
  have h : (List.range zN).all (fun a => decide (zkc a = 5 → zk (a + 1) = (0, 10, []) ∧ zk (a + 2) = (0, 10, []))) = true := by decide +kernel
  have hl : a < zN := zk_in (fun q => by unfold zkc at ha; rw [q] at ha; cases ha)
  exact of_decide_eq_true (List.all_eq_true.mp h a (List.mem_range.mpr hl)) ha
theorem zcpS {a o : Nat} (ha : zkc a = 5) (ho : zkc o = 5) : zcp (o + 1) (a + 1) 0 0 10 = True ∧ zcp (o + 2) (a + 2) 0 0 10 = True := by
  unfold zcp
  rw [(zkS ha).1, (zkS ha).2, (zkS ho).1, (zkS ho).2]
  simp
def zcpyS (M : zM) (a o : Nat) : zM := zup (zup (zrow (zrow M (a + 1) (va_cpy (M (o + 1)) (M (a + 1)) 0 0 10)) (a + 2) (va_cpy (M (o + 2)) (M (a + 2)) 0 0 10)) a 2 (M o 2)) a 3 (M o 3)
theorem s_copyS (d : Nat) (Q : zQ) (M : zM) (a o : Nat) (ha : zkc a = 5) (ho : zkc o = 5) (hne : a + 2 < o ∨ o + 2 < a) : Sp (d + 1) 20 [.inr (.inr a), .inr (.inr o)] M Q = Q none (zcpyS M a o) := by
  simp only [↓e20, ↓e20_0, ↓e20_1, ↓e20_4, ↓e20_5, ↓e20_6, ↓e20_9, ↓e20_10, ↓e20_12, ↓e20_15, ↓e20_16, ↓e20_19, ↓e20_20, ↓e20_21, ↓e20_24, ↓e20_25, ↓e20_27, ↓e20_30, ↓e20_31, ↓e20_32, ↓e20_35, ↓e20_38, ↓e20_39, ↓e20_40, ↓e20_43, ↓e20_46, znl_i, znl_r, znl_n, zcs_0, zcs_1, zcs_2, zcs_3, zcat_0, zcat_1, zcat_2, zcat_3, zbl_0, zbl_1, true_and, and_true, ↓zret_some, ↓zret_none, Nat.reduceAdd, Nat.reduceLeDiff, Nat.reduceMul, eq_self, ha, ho, (zcpS ha ho).1, (zcpS ha ho).2]
  have e1 : ¬ o = a := by omega
  have e2 : ¬ o = a + 1 := by omega
  have e3 : ¬ o = a + 2 := by omega
  have e4 : ¬ o + 2 = a + 1 := by omega
  simp [zcpyS, zrow, zup, e1, e2, e3, e4]
theorem zkcW_of {a : Nat} (h1 : a < 209) (h2 : a % 19 = 0) : zkc a = 10 := by
  have h : (List.range zN).all (fun a => decide (a < 209 ∧ a % 19 = 0 → zkc a = 10)) = true := by decide +kernel
  exact of_decide_eq_true (List.all_eq_true.mp h a (List.mem_range.mpr (by show a < 388; omega))) ⟨h1, h2⟩
theorem zkcWS {a j : Nat} (ha : zkc a = 10) (hj : j < 3) : zkc (a + 10 + 3 * j) = 5 := by
  obtain ⟨h1, h2⟩ := zkcW ha
  have h : (List.range zN).all (fun a => decide (a < 209 ∧ a % 19 = 0 → zkc (a + 10) = 5 ∧ zkc (a + 13) = 5 ∧ zkc (a + 16) = 5)) = true := by decide +kernel
  have h3 := of_decide_eq_true (List.all_eq_true.mp h a (List.mem_range.mpr (by show a < 388; omega))) ⟨h1, h2⟩
  rcases (show j = 0 ∨ j = 1 ∨ j = 2 by omega) with rfl | rfl | rfl
  · exact h3.1
  · exact h3.2.1
  · exact h3.2.2
theorem zaaW {a : Nat} (ha : zkc a = 10) (m : Nat) : zaa (a + 9) m = a + 10 + 3 * m := by
  obtain ⟨h1, h2⟩ := zkcW ha
  have hk : zk (a + 9) = (3, 3, [5, a + 9 + 1, 3]) := by
    unfold zk
    rw [if_pos (by omega), show (a + 9) % 19 = 9 by omega]
    rfl
  rw [zaa_of hk]
theorem zkWa {a : Nat} (ha : zkc a = 10) : zk (a + 1) = (0, 120, []) ∧ zk (a + 2) = (0, 10, []) ∧ zk (a + 3) = (0, 10, []) ∧ zk (a + 4) = (0, 10, []) ∧ zk (a + 5) = (0, 10, []) ∧ zk (a + 6) = (0, 10, []) ∧ zk (a + 7) = (0, 10, []) ∧ zk (a + 8) = (0, 8, []) := by
  obtain ⟨h1, h2⟩ := zkcW ha
  have hk : ∀ k, k < 19 → zk (a + k) = zkW (a + k) k := by
    intro k hk
    unfold zk
    rw [if_pos (by omega), show (a + k) % 19 = k by omega]
  exact ⟨hk 1 (by omega), hk 2 (by omega), hk 3 (by omega), hk 4 (by omega), hk 5 (by omega), hk 6 (by omega), hk 7 (by omega), hk 8 (by omega)⟩
theorem zcpW {a o : Nat} (ha : zkc a = 10) (ho : zkc o = 10) : zcp (o + 1) (a + 1) 0 0 120 = True ∧ zcp (o + 2) (a + 2) 0 0 10 = True ∧ zcp (o + 3) (a + 3) 0 0 10 = True ∧ zcp (o + 4) (a + 4) 0 0 10 = True ∧ zcp (o + 5) (a + 5) 0 0 10 = True ∧ zcp (o + 6) (a + 6) 0 0 10 = True ∧ zcp (o + 7) (a + 7) 0 0 10 = True ∧ zcp (o + 8) (a + 8) 0 0 8 = True := by
  unfold zcp
  obtain ⟨a1, a2, a3, a4, a5, a6, a7, a8⟩ := zkWa ha
  obtain ⟨b1, b2, b3, b4, b5, b6, b7, b8⟩ := zkWa ho
  rw [a1, a2, a3, a4, a5, a6, a7, a8, b1, b2, b3, b4, b5, b6, b7, b8]
  simp
theorem s_copyW (d : Nat) (Q : zQ) (M S : zM) (a o : Nat) (ha : zkc a = 10) (ho : zkc o = 10) (hne : a ≠ o) (hR : RelC M o S) (hQ : ∀ M', RelC M' a S → (∀ b, b < a ∨ a + 19 ≤ b → M' b = M b) → Q none M') : Sp (d + 2) 53 [.inr (.inr a), .inr (.inr o)] M Q := by
  obtain ⟨c1, c2, c3, c4, c5, c6, c7, c8⟩ := zcpW ha ho
  obtain ⟨ha1, ha2⟩ := zkcW ha
  obtain ⟨ho1, ho2⟩ := zkcW ho
  have hd : a + 19 ≤ o ∨ o + 19 ≤ a := by omega
  have hz3 : ∀ i : Int, zin 3 (a + 9) i = (0 ≤ i ∧ i < 3) := fun i => (zinW ha i).2.2.2.2.2.2.2.2
  have ho3 : ∀ i : Int, zin 3 (o + 9) i = (0 ≤ i ∧ i < 3) := fun i => (zinW ho i).2.2.2.2.2.2.2.2
  have s0 := zkcWS (j := 0) ha (by omega)
  have s1 := zkcWS (j := 1) ha (by omega)
  have s2 := zkcWS (j := 2) ha (by omega)
  have t0 := zkcWS (j := 0) ho (by omega)
  have t1 := zkcWS (j := 1) ho (by omega)
  have t2 := zkcWS (j := 2) ho (by omega)
  simp only [↓e53, ↓e53_0, ↓e53_1, ↓e53_4, ↓e53_5, ↓e53_6, ↓e53_9, ↓e53_10, ↓e53_12, ↓e53_15, ↓e53_16, ↓e53_19, ↓e53_20, ↓e53_21, ↓e53_24, ↓e53_25, ↓e53_27, ↓e53_30, ↓e53_31, ↓e53_34, ↓e53_35, ↓e53_36, ↓e53_39, ↓e53_40, ↓e53_42, ↓e53_45, ↓e53_46, ↓e53_49, ↓e53_50, ↓e53_51, ↓e53_54, ↓e53_55, ↓e53_57, ↓e53_60, ↓e53_61, ↓e53_64, ↓e53_65, ↓e53_66, ↓e53_69, ↓e53_70, ↓e53_72, ↓e53_75, ↓e53_76, ↓e53_79, ↓e53_80, ↓e53_81, ↓e53_84, ↓e53_85, ↓e53_87, ↓e53_90, ↓e53_91, ↓e53_94, ↓e53_95, ↓e53_96, ↓e53_99, ↓e53_100, ↓e53_102, ↓e53_105, ↓e53_106, ↓e53_109, ↓e53_110, ↓e53_111, ↓e53_114, ↓e53_115, ↓e53_117, ↓e53_120, ↓e53_121, ↓e53_122, ↓e53_123, ↓e53_124, ↓e53_127, ↓e53_128, ↓e53_131, ↓e53_132, ↓e53_133, ↓e53_134, ↓e53_137, ↓e53_138, ↓e53_139, ↓e53_142, ↓e53_145, ↓e53_148, ↓e53_149, ↓e53_150, ↓e53_153, ↓e53_156, ↓e53_157, ↓e53_158, ↓e53_161, ↓e53_164, ↓e53_165, ↓e53_166, ↓e53_169, ↓e53_172, znl_i, znl_r, znl_n, zcs_0, zcs_1, zcs_2, zcs_3, zcat_0, zcat_1, zcat_2, zcat_3, zbl_0, zbl_1, true_and, and_true, ↓zret_some, ↓zret_none, Nat.reduceAdd, Nat.reduceLeDiff, Nat.reduceMul, eq_self, ha, ho, c1, c2, c3, c4, c5, c6, c7, c8, hz3, ho3, zrg, zaaW ha, zaaW ho, ↓reduceIte, Int.reduceAdd, Int.reduceLE, Int.reduceLT, Int.reduceToNat, ge_iff_le]
  sorry
