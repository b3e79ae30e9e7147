/-! ### recognized agrees -/
def tcx (way : Nat) (c r : Int) : Int := if way % 4 = 0 then (if 4 ≤ way then -c else c) else if way % 4 = 1 then -r else if way % 4 = 2 then -(if 4 ≤ way then -c else c) else r
def tcy (way : Nat) (c r : Int) : Int := if way % 4 = 0 then r else if way % 4 = 1 then (if 4 ≤ way then -c else c) else if way % 4 = 2 then -r else -(if 4 ≤ way then -c else c)
theorem s_mirrored (d : Nat) (Q : zQ) (M : zM) (a s way : Nat) (ha : zkc a = 5) (hs : s < 10) (hw : way < 8) : Sp (d + 1) 29 [.inr (.inr a), .inl (s : Int), .inl (way : Int)] M Q = Q (some (.inl (if 4 ≤ way then -M (a + 1) s else M (a + 1) s))) M := by
  have hz : ∀ i : Int, zin 0 (a + 1) i = (0 ≤ i ∧ i < 10) := fun i => zin_of (n := 10) (zkS ha).1
  have hs0 : 0 ≤ (s : Int) ∧ (s : Int) < 10 := ⟨by omega, by omega⟩
  have hwr : -2147483648 ≤ (way : Int) ∧ (way : Int) < 2147483648 := ⟨by omega, by omega⟩
  simp only [↓e29, ↓e29_0, ↓e29_1, ↓e29_2, ↓e29_5, ↓e29_6, ↓e29_9, ↓e29_10, ↓e29_11, ↓e29_12, ↓e29_15, ↓e29_16, ↓e29_19, ↓e29_20, ↓e29_21, znl_i, znl_r, znl_n, zcs_0, zcs_1, zcs_2, zcs_3, zcat_0, zcat_1, zcat_2, zcat_3, zbl_0, zbl_1, true_and, and_true, ↓zret_some, ↓zret_none, Nat.reduceAdd, Nat.reduceLeDiff, Nat.reduceMul, eq_self, Int.reduceToNat, Int.reduceLE, Int.reduceLT, Int.reduceNeg, and_self, zrg, ha, hz, hs0, hwr, Int.toNat_natCast]
  by_cases z : 4 ≤ way
  · rw [if_neg (by omega), if_pos z]
  · rw [if_pos (by omega), if_neg z]
theorem s_turnedColumn (d : Nat) (Q : zQ) (M : zM) (a s way : Nat) (ha : zkc a = 5) (hs : s < 10) (hw : way < 8) : Sp (d + 2) 30 [.inr (.inr a), .inl (s : Int), .inl (way : Int)] M Q = Q (some (.inl (tcx way (M (a + 1) s) (M (a + 2) s)))) M := by
  have hz : ∀ i : Int, zin 0 (a + 2) i = (0 ≤ i ∧ i < 10) := fun i => zin_of (n := 10) (zkS ha).2
  have hs0 : 0 ≤ (s : Int) ∧ (s : Int) < 10 := ⟨by omega, by omega⟩
  have hwr : -2147483648 ≤ (way : Int) ∧ (way : Int) < 2147483648 := ⟨by omega, by omega⟩
  have hw0 : 0 ≤ (way : Int) := by omega
  have e : (way : Int) % 4 = ((way % 4 : Nat) : Int) := by omega
  have er : -2147483648 ≤ ((way % 4 : Nat) : Int) ∧ ((way % 4 : Nat) : Int) < 2147483648 := ⟨by omega, by omega⟩
  simp only [↓e30, ↓e30_0, ↓e30_1, ↓e30_2, ↓e30_3, ↓e30_28, ↓e30_29, ↓e30_30, ↓e30_31, ↓e30_34, ↓e30_35, ↓e30_36, ↓e30_39, ↓e30_40, ↓e30_41, ↓e30_42, ↓e30_43, ↓e30_44, ↓e30_45, ↓e30_46, ↓e30_49, ↓e30_50, ↓e30_51, ↓e30_52, ↓e30_55, ↓e30_56, ↓e30_57, znl_i, znl_r, znl_n, zcs_0, zcs_1, zcs_2, zcs_3, zcat_0, zcat_1, zcat_2, zcat_3, zbl_0, zbl_1, true_and, and_true, ↓zret_some, ↓zret_none, Nat.reduceAdd, Nat.reduceLeDiff, Nat.reduceMul, eq_self, Int.reduceToNat, Int.reduceLE, Int.reduceLT, Int.reduceNeg, and_self, zrg, ha, hz, hs0, hw0, hwr, e, er, Int.toNat_natCast, ↓s_mirrored d _ M a s way ha hs hw]
  unfold tcx
  by_cases z0 : way % 4 = 0
  · rw [if_pos (by omega), if_pos z0]
  rw [if_neg (by omega), if_neg z0]
  by_cases z1 : way % 4 = 1
  · rw [if_pos (by omega), if_pos z1]
  rw [if_neg (by omega), if_neg z1]
  by_cases z2 : way % 4 = 2
  · rw [if_pos (by omega), if_pos z2]
  rw [if_neg (by omega), if_neg z2]
theorem s_turnedRow (d : Nat) (Q : zQ) (M : zM) (a s way : Nat) (ha : zkc a = 5) (hs : s < 10) (hw : way < 8) : Sp (d + 2) 31 [.inr (.inr a), .inl (s : Int), .inl (way : Int)] M Q = Q (some (.inl (tcy way (M (a + 1) s) (M (a + 2) s)))) M := by
  have hz : ∀ i : Int, zin 0 (a + 2) i = (0 ≤ i ∧ i < 10) := fun i => zin_of (n := 10) (zkS ha).2
  have hs0 : 0 ≤ (s : Int) ∧ (s : Int) < 10 := ⟨by omega, by omega⟩
  have hwr : -2147483648 ≤ (way : Int) ∧ (way : Int) < 2147483648 := ⟨by omega, by omega⟩
  have hw0 : 0 ≤ (way : Int) := by omega
  have e : (way : Int) % 4 = ((way % 4 : Nat) : Int) := by omega
  have er : -2147483648 ≤ ((way % 4 : Nat) : Int) ∧ ((way % 4 : Nat) : Int) < 2147483648 := ⟨by omega, by omega⟩
  simp only [↓e31, ↓e31_0, ↓e31_1, ↓e31_2, ↓e31_3, ↓e31_28, ↓e31_29, ↓e31_32, ↓e31_33, ↓e31_34, ↓e31_35, ↓e31_36, ↓e31_37, ↓e31_38, ↓e31_41, ↓e31_42, ↓e31_43, ↓e31_46, ↓e31_47, ↓e31_48, ↓e31_49, ↓e31_50, ↓e31_51, ↓e31_52, ↓e31_53, ↓e31_56, ↓e31_57, znl_i, znl_r, znl_n, zcs_0, zcs_1, zcs_2, zcs_3, zcat_0, zcat_1, zcat_2, zcat_3, zbl_0, zbl_1, true_and, and_true, ↓zret_some, ↓zret_none, Nat.reduceAdd, Nat.reduceLeDiff, Nat.reduceMul, eq_self, Int.reduceToNat, Int.reduceLE, Int.reduceLT, Int.reduceNeg, and_self, zrg, ha, hz, hs0, hw0, hwr, e, er, Int.toNat_natCast, ↓s_mirrored d _ M a s way ha hs hw]
  unfold tcy
  by_cases z0 : way % 4 = 0
  · rw [if_pos (by omega), if_pos z0]
  rw [if_neg (by omega), if_neg z0]
  by_cases z1 : way % 4 = 1
  · rw [if_pos (by omega), if_pos z1]
  rw [if_neg (by omega), if_neg z1]
  by_cases z2 : way % 4 = 2
  · rw [if_pos (by omega), if_pos z2]
  rw [if_neg (by omega), if_neg z2]
theorem tc_rng {way : Nat} {c r : Int} (hc : 0 ≤ c ∧ c < 6) (hr : 0 ≤ r ∧ r < 6) : -6 ≤ tcx way c r ∧ tcx way c r ≤ 6 ∧ -6 ≤ tcy way c r ∧ tcy way c r ≤ 6 := by
  unfold tcx tcy
  refine ⟨?_, ?_, ?_, ?_⟩ <;> (repeat' split) <;> omega
theorem tc_lin (way : Nat) (c r a b : Int) : tcx way (c - a) (r - b) = tcx way c r - tcx way a b ∧ tcy way (c - a) (r - b) = tcy way c r - tcy way a b := by
  unfold tcx tcy
  refine ⟨?_, ?_⟩ <;> (repeat' split) <;> omega
/-- where a slot is by a way, the first slot being at p -/
def wx (S : zM) (j way : Nat) (p : Int) (k : Nat) : Int := p % 12 + (tcx way (S (12 + j) k) (S (15 + j) k) - tcx way (S (12 + j) 0) (S (15 + j) 0))
def wy (S : zM) (j way : Nat) (p : Int) (k : Nat) : Int := p / 12 + (tcy way (S (12 + j) k) (S (15 + j) k) - tcy way (S (12 + j) 0) (S (15 + j) 0))
abbrev okw (S : zM) (j way : Nat) (p : Int) (k : Nat) : Prop := (0 ≤ wx S j way p k ∧ wx S j way p k < 12 ∧ 0 ≤ wy S j way p k ∧ wy S j way p k < 10) ∧ 0 ≤ onS S (12 * wy S j way p k + wx S j way p k)
def mkB (S : zM) (j way : Nat) (p : Int) : Nat → Nat → Int
  | 0, _ => 1
  | n + 1, k => if okw S j way p k then mkB S j way p n (k + 1) else 0
theorem mkB_s (S : zM) (j way : Nat) (p : Int) (n k : Nat) : mkB S j way p (n + 1) k = if okw S j way p k then mkB S j way p n (k + 1) else 0 := rfl
theorem mkB_01 (S : zM) (j way : Nat) (p : Int) : ∀ n k : Nat, mkB S j way p n k = 0 ∨ mkB S j way p n k = 1
  | 0, _ => Or.inr rfl
  | n + 1, k => by
    rw [mkB_s]
    split
    · exact mkB_01 S j way p n (k + 1)
    · exact Or.inl rfl
def mmB (S : zM) (j way sz : Nat) : Nat → Nat → Int
  | 0, _ => 0
  | n + 1, k => if 0 ≤ S 1 k ∧ mkB S j way (S 1 k) sz 0 = 1 then 1 else mmB S j way sz n (k + 1)
theorem mmB_s (S : zM) (j way sz n k : Nat) : mmB S j way sz (n + 1) k = if 0 ≤ S 1 k ∧ mkB S j way (S 1 k) sz 0 = 1 then 1 else mmB S j way sz n (k + 1) := rfl
theorem mmB_01 (S : zM) (j way sz : Nat) : ∀ n k : Nat, mmB S j way sz n k = 0 ∨ mmB S j way sz n k = 1
  | 0, _ => Or.inl rfl
  | n + 1, k => by
    rw [mmB_s]
    split
    · exact Or.inr rfl
    · exact mmB_01 S j way sz n (k + 1)
def lwy (S : zM) (j sz : Nat) : Nat → Nat → Int
  | 0, _ => -5
  | n + 1, k => if mmB S j k sz 10 0 = 1 then (k : Int) else lwy S j sz n (k + 1)
theorem lwy_s (S : zM) (j sz n k : Nat) : lwy S j sz (n + 1) k = if mmB S j k sz 10 0 = 1 then (k : Int) else lwy S j sz n (k + 1) := rfl
theorem z01r {x : Int} (h : x = 0 ∨ x = 1) : -2147483648 ≤ x ∧ x < 2147483648 := by omega
theorem s_isMadeFrom (d : Nat) (Q : zQ) (M S : zM) (j way p n : Nat) (hj : j < 3) (hw : way < 8) (hp : p < 120) (hR : RelC M 0 S) (hW : WfS S) (hn : S (9 + j) 0 = n) (hn0 : 0 < n) :
    Sp (d + 3) 28 [.inr (.inr (10 + 3 * j)), .inr (.inr 0), .inl (way : Int), .inl (p : Int)] M Q = Q (some (.inl (mkB S j way p n 0))) M := by
  obtain ⟨c1, c2, c3⟩ := hR.2.2.2.2.2.2.2.2.2.2.2 j hj
  simp only [Nat.zero_add] at c1 c2 c3
  obtain ⟨w1, w2, w3, w4, w5⟩ := hW.2.2.2.2.2.2.2.2.2 j hj
  have hn10 : n ≤ 10 := by omega
  have hzk : zkc (10 + 3 * j) = 5 := by have := zkcWS (a := 0) (j := j) zkc_0 hj; simpa using this
  have hp0 : 0 ≤ (p : Int) := by omega
  have hpr : -2147483648 ≤ (p : Int) ∧ (p : Int) < 2147483648 := ⟨by omega, by omega⟩
  have hnr : -2147483648 ≤ (n : Int) ∧ (n : Int) < 2147483648 := ⟨by omega, by omega⟩
  have hsz : M (10 + 3 * j) 2 = (n : Int) := by rw [c1, hn]
  have tC := fun Q (s : Nat) (hs : s < 10) => s_turnedColumn d Q M (10 + 3 * j) s way hzk hs hw
  have tR := fun Q (s : Nat) (hs : s < 10) => s_turnedRow d Q M (10 + 3 * j) s way hzk hs hw
  simp only [show 10 + 3 * j + 1 = 11 + 3 * j by omega, show 10 + 3 * j + 2 = 12 + 3 * j by omega] at tC tR
  have tC' : ∀ Q (s : Nat), s < 10 → Sp (d + 2) 30 [.inr (.inr (10 + 3 * j)), .inl (s : Int), .inl (way : Int)] M Q = Q (some (.inl (tcx way (S (12 + j) s) (S (15 + j) s)))) M := fun Q s hs => by rw [tC Q s hs, (c3 s hs).1, (c3 s hs).2]
  have tR' : ∀ Q (s : Nat), s < 10 → Sp (d + 2) 31 [.inr (.inr (10 + 3 * j)), .inl (s : Int), .inl (way : Int)] M Q = Q (some (.inl (tcy way (S (12 + j) s) (S (15 + j) s)))) M := fun Q s hs => by rw [tR Q s hs, (c3 s hs).1, (c3 s hs).2]
  have tC0 : ∀ Q, Sp (d + 2) 30 [.inr (.inr (10 + 3 * j)), .inl 0, .inl (way : Int)] M Q = Q (some (.inl (tcx way (S (12 + j) 0) (S (15 + j) 0)))) M := fun Q => tC' Q 0 (by omega)
  have tR0 : ∀ Q, Sp (d + 2) 31 [.inr (.inr (10 + 3 * j)), .inl 0, .inl (way : Int)] M Q = Q (some (.inl (tcy way (S (12 + j) 0) (S (15 + j) 0)))) M := fun Q => tR' Q 0 (by omega)
  have b0 := w5 0 (by omega)
  have t0 := tc_rng (way := way) (c := S (12 + j) 0) (r := S (15 + j) 0) ⟨b0.1, b0.2.1⟩ ⟨b0.2.2.1, b0.2.2.2⟩
  generalize hcx : (p : Int) % 12 - tcx way (S (12 + j) 0) (S (15 + j) 0) = cx
  generalize hcy : (p : Int) / 12 - tcy way (S (12 + j) 0) (S (15 + j) 0) = cy
  have loop : ∀ q k : Nat, k + q = n → ∀ w7, RT (Sp (d + 2)) 28 Q 29 [some (.inr (.inr (10 + 3 * j))), some (.inr (.inr 0)), some (.inl (way : Int)), some (.inl (p : Int)), some (.inl cx), some (.inl cy), some (.inl (k : Int)), w7] [] M = Q (some (.inl (mkB S j way p q k))) M := by
    intro q
    induction q with
    | zero =>
      intro k hk w7
      obtain rfl : k = n := by omega
      rw [e28_29]
      simp only [↓e28, ↓e28_0, ↓e28_1, ↓e28_3, ↓e28_4, ↓e28_5, ↓e28_6, ↓e28_7, ↓e28_10, ↓e28_11, ↓e28_13, ↓e28_14, ↓e28_16, ↓e28_17, ↓e28_18, ↓e28_19, ↓e28_20, ↓e28_23, ↓e28_24, ↓e28_26, ↓e28_27, ↓e28_31, ↓e28_32, ↓e28_35, ↓e28_38, ↓e28_40, ↓e28_41, ↓e28_43, ↓e28_44, ↓e28_47, ↓e28_48, ↓e28_50, ↓e28_51, ↓e28_53, ↓e28_54, ↓e28_57, ↓e28_58, ↓e28_61, ↓e28_63, ↓e28_65, ↓e28_68, ↓e28_69, ↓e28_72, ↓e28_74, ↓e28_75, ↓e28_78, ↓e28_79, ↓e28_80, ↓e28_83, ↓e28_86, ↓e28_87, znl_i, znl_r, znl_n, zcs_0, zcs_1, zcs_2, zcs_3, zcat_0, zcat_1, zcat_2, zcat_3, zbl_0, zbl_1, true_and, and_true, ↓zret_some, ↓zret_none, Nat.reduceAdd, Nat.reduceLeDiff, Nat.reduceMul, eq_self, Int.reduceToNat, Int.reduceLE, Int.reduceLT, Int.reduceNeg, and_self, zrg, hzk, hsz, hnr, ge_iff_le, Int.le_refl, ↓reduceIte]
      rfl
    | succ q ih =>
      intro k hk w7
      have hk10 : k < 10 := by omega
      have hk1 : ¬ (k : Int) ≥ (n : Int) := by omega
      have hk2 : -2147483648 ≤ (k : Int) ∧ (k : Int) < 2147483648 := ⟨by omega, by omega⟩
      have bk := w5 k (by omega)
      have tk := tc_rng (way := way) (c := S (12 + j) k) (r := S (15 + j) k) ⟨bk.1, bk.2.1⟩ ⟨bk.2.2.1, bk.2.2.2⟩
      have ex : cx + tcx way (S (12 + j) k) (S (15 + j) k) = wx S j way p k := by unfold wx; omega
      have ey : cy + tcy way (S (12 + j) k) (S (15 + j) k) = wy S j way p k := by unfold wy; omega
      have rx : zrg (wx S j way p k) := by unfold wx zrg; omega
      have ry : zrg (wy S j way p k) := by unfold wy zrg; omega
      have next := fun w7 => ih (k + 1) (by omega) w7
      have hca := fun Q => s_cellAt (d + 1) Q M (wx S j way p k) (wy S j way p k) rx ry
      rw [mkB_s, e28_29]
      by_cases hin : 0 ≤ wx S j way p k ∧ wx S j way p k < 12 ∧ 0 ≤ wy S j way p k ∧ wy S j way p k < 10
      · obtain ⟨c, hc⟩ : ∃ c : Nat, 12 * wy S j way p k + wx S j way p k = c := ⟨(12 * wy S j way p k + wx S j way p k).toNat, by omega⟩
        have hc120 : c < 120 := by omega
        have hc0 : 0 ≤ (c : Int) ∧ (c : Int) < 120 := ⟨by omega, by omega⟩
        simp only [if_pos hin, hc] at hca
        have hh := hold_C hR hc120
        have hor := onS_rng S c
        have hhr : -2147483648 ≤ M 1 c ∧ M 1 c < 2147483648 := by rw [hh]; split <;> omega
        simp only [↓e28, ↓e28_0, ↓e28_1, ↓e28_3, ↓e28_4, ↓e28_5, ↓e28_6, ↓e28_7, ↓e28_10, ↓e28_11, ↓e28_13, ↓e28_14, ↓e28_16, ↓e28_17, ↓e28_18, ↓e28_19, ↓e28_20, ↓e28_23, ↓e28_24, ↓e28_26, ↓e28_27, ↓e28_31, ↓e28_32, ↓e28_35, ↓e28_38, ↓e28_40, ↓e28_41, ↓e28_43, ↓e28_44, ↓e28_47, ↓e28_48, ↓e28_50, ↓e28_51, ↓e28_53, ↓e28_54, ↓e28_57, ↓e28_58, ↓e28_61, ↓e28_63, ↓e28_65, ↓e28_68, ↓e28_69, ↓e28_72, ↓e28_74, ↓e28_75, ↓e28_78, ↓e28_79, ↓e28_83, ↓e28_86, ↓e28_87, znl_i, znl_r, znl_n, zcs_0, zcs_1, zcs_2, zcs_3, zcat_0, zcat_1, zcat_2, zcat_3, zbl_0, zbl_1, true_and, and_true, ↓zret_some, ↓zret_none, Nat.reduceAdd, Nat.reduceLeDiff, Nat.reduceMul, eq_self, Int.reduceToNat, Int.reduceLE, Int.reduceLT, Int.reduceNeg, and_self, zrg, zkc_0, zin_1, zin_2, zin_3, zin_4, zin_5, zin_6, zin_7, zin_8, zin_9, zaa_9, zkc_10, zin_11, zin_12, zkc_13, zin_14, zin_15, zkc_16, zin_17, zin_18, zkc_19, zin_20, zin_21, zin_22, zin_23, zin_24, zin_25, zin_26, zin_27, zin_28, zaa_28, zkc_29, zin_30, zin_31, zkc_32, zin_33, zin_34, zkc_35, zin_36, zin_37, zkc_38, zin_39, zin_40, zin_41, zin_42, zin_43, zin_44, zin_45, zin_46, zin_47, zaa_47, zkc_48, zin_49, zin_50, zkc_51, zin_52, zin_53, zkc_54, zin_55, zin_56, zkc_209, zkc_210, zin_211, zaa_211, zkc_212, zin_213, zkc_214, zkc_215, zin_216, zin_217, zkc_218, zin_219, zin_220, zin_221, zkc_222, zin_223, zaa_223, zin_224, zin_225, zkc_226, zin_227, zin_228, zin_229, zin_230, zin_231, zin_232, zkc_233, zin_234, zaa_234, zin_235, zin_236, zin_237, zin_238, zin_239, zin_240, zin_241, zin_242, zin_243, zin_244, zin_245, zin_246, zin_247, zin_248, zin_249, zin_250, zkc_251, zin_252, zin_253, zkc_374, zin_375, zin_376, zin_377, zin_378, zin_379, zin_380, zin_381, zin_382, zin_383, zin_384, zin_385, zin_386, zin_387, hzk, hsz, hnr, hk1, hk2, ↓reduceIte, ↓tC' _ k hk10, ↓tR' _ k hk10, ex, ey, ↓hca, show ¬ (c : Int) < 0 by omega, show -2147483648 ≤ (c : Int) ∧ (c : Int) < 2147483648 by omega, hc0, hhr, Int.toNat_natCast]
        by_cases ho : 0 ≤ onS S c
        · have hw1 : ¬ S 0 c = 1 := fun z => by have := on_wall hW z; omega
          rw [if_pos (by rw [hh, if_neg hw1]; omega), if_pos ⟨hin, by rw [hc]; exact ho⟩]
          simp only [↓e28, ↓e28_0, ↓e28_1, ↓e28_3, ↓e28_4, ↓e28_5, ↓e28_6, ↓e28_7, ↓e28_10, ↓e28_11, ↓e28_13, ↓e28_14, ↓e28_16, ↓e28_17, ↓e28_18, ↓e28_19, ↓e28_20, ↓e28_23, ↓e28_24, ↓e28_26, ↓e28_27, ↓e28_31, ↓e28_32, ↓e28_35, ↓e28_38, ↓e28_40, ↓e28_41, ↓e28_43, ↓e28_44, ↓e28_47, ↓e28_48, ↓e28_50, ↓e28_51, ↓e28_53, ↓e28_54, ↓e28_57, ↓e28_58, ↓e28_61, ↓e28_63, ↓e28_65, ↓e28_68, ↓e28_69, ↓e28_72, ↓e28_74, ↓e28_75, ↓e28_78, ↓e28_79, ↓e28_80, ↓e28_83, ↓e28_86, ↓e28_87, znl_i, znl_r, znl_n, zcs_0, zcs_1, zcs_2, zcs_3, zcat_0, zcat_1, zcat_2, zcat_3, zbl_0, zbl_1, true_and, and_true, ↓zret_some, ↓zret_none, Nat.reduceAdd, Nat.reduceLeDiff, Nat.reduceMul, eq_self, Int.reduceToNat, Int.reduceLE, Int.reduceLT, Int.reduceNeg, and_self]
          rw [show ((k : Int) + 1) = ((k + 1 : Nat) : Int) by omega]
          exact next _
        · rw [if_neg (by rw [hh]; split <;> omega), if_neg (fun z => ho (by have := z.2; rw [hc] at this; exact this))]
      · simp only [if_neg hin] at hca
        simp only [↓e28, ↓e28_0, ↓e28_1, ↓e28_3, ↓e28_4, ↓e28_5, ↓e28_6, ↓e28_7, ↓e28_10, ↓e28_11, ↓e28_13, ↓e28_14, ↓e28_16, ↓e28_17, ↓e28_18, ↓e28_19, ↓e28_20, ↓e28_23, ↓e28_24, ↓e28_26, ↓e28_27, ↓e28_31, ↓e28_32, ↓e28_35, ↓e28_38, ↓e28_40, ↓e28_41, ↓e28_43, ↓e28_44, ↓e28_47, ↓e28_48, ↓e28_50, ↓e28_51, ↓e28_53, ↓e28_54, ↓e28_57, ↓e28_58, ↓e28_61, ↓e28_63, ↓e28_65, ↓e28_68, ↓e28_69, ↓e28_72, ↓e28_74, ↓e28_75, ↓e28_78, ↓e28_79, ↓e28_83, ↓e28_86, ↓e28_87, znl_i, znl_r, znl_n, zcs_0, zcs_1, zcs_2, zcs_3, zcat_0, zcat_1, zcat_2, zcat_3, zbl_0, zbl_1, true_and, and_true, ↓zret_some, ↓zret_none, Nat.reduceAdd, Nat.reduceLeDiff, Nat.reduceMul, eq_self, Int.reduceToNat, Int.reduceLE, Int.reduceLT, Int.reduceNeg, and_self, zrg, zkc_0, zin_1, zin_2, zin_3, zin_4, zin_5, zin_6, zin_7, zin_8, zin_9, zaa_9, zkc_10, zin_11, zin_12, zkc_13, zin_14, zin_15, zkc_16, zin_17, zin_18, zkc_19, zin_20, zin_21, zin_22, zin_23, zin_24, zin_25, zin_26, zin_27, zin_28, zaa_28, zkc_29, zin_30, zin_31, zkc_32, zin_33, zin_34, zkc_35, zin_36, zin_37, zkc_38, zin_39, zin_40, zin_41, zin_42, zin_43, zin_44, zin_45, zin_46, zin_47, zaa_47, zkc_48, zin_49, zin_50, zkc_51, zin_52, zin_53, zkc_54, zin_55, zin_56, zkc_209, zkc_210, zin_211, zaa_211, zkc_212, zin_213, zkc_214, zkc_215, zin_216, zin_217, zkc_218, zin_219, zin_220, zin_221, zkc_222, zin_223, zaa_223, zin_224, zin_225, zkc_226, zin_227, zin_228, zin_229, zin_230, zin_231, zin_232, zkc_233, zin_234, zaa_234, zin_235, zin_236, zin_237, zin_238, zin_239, zin_240, zin_241, zin_242, zin_243, zin_244, zin_245, zin_246, zin_247, zin_248, zin_249, zin_250, zkc_251, zin_252, zin_253, zkc_374, zin_375, zin_376, zin_377, zin_378, zin_379, zin_380, zin_381, zin_382, zin_383, zin_384, zin_385, zin_386, zin_387, hzk, hsz, hnr, hk1, hk2, ↓reduceIte, ↓tC' _ k hk10, ↓tR' _ k hk10, ex, ey, ↓hca, show (-5 : Int) < 0 by omega]
        rw [if_neg (fun z => hin z.1)]
  have h9 := loop n 0 (by omega) none
  simp only [↓e28, ↓e28_0, ↓e28_1, ↓e28_3, ↓e28_4, ↓e28_5, ↓e28_6, ↓e28_7, ↓e28_10, ↓e28_11, ↓e28_13, ↓e28_14, ↓e28_16, ↓e28_17, ↓e28_18, ↓e28_19, ↓e28_20, ↓e28_23, ↓e28_24, ↓e28_26, ↓e28_27, ↓e28_31, ↓e28_32, ↓e28_35, ↓e28_38, ↓e28_40, ↓e28_41, ↓e28_43, ↓e28_44, ↓e28_47, ↓e28_48, ↓e28_50, ↓e28_51, ↓e28_53, ↓e28_54, ↓e28_57, ↓e28_58, ↓e28_61, ↓e28_63, ↓e28_65, ↓e28_68, ↓e28_69, ↓e28_72, ↓e28_74, ↓e28_75, ↓e28_78, ↓e28_79, ↓e28_80, ↓e28_83, ↓e28_86, ↓e28_87, znl_i, znl_r, znl_n, zcs_0, zcs_1, zcs_2, zcs_3, zcat_0, zcat_1, zcat_2, zcat_3, zbl_0, zbl_1, true_and, and_true, ↓zret_some, ↓zret_none, Nat.reduceAdd, Nat.reduceLeDiff, Nat.reduceMul, eq_self, Int.reduceToNat, Int.reduceLE, Int.reduceLT, Int.reduceNeg, and_self, zrg, hzk, hp0, hpr, ↓tC0, ↓tR0, hcx, hcy]
  exact h9
theorem s_isMade (d : Nat) (Q : zQ) (M S : zM) (j way n : Nat) (hj : j < 3) (hw : way < 8) (hR : RelC M 0 S) (hW : WfS S) (hn : S (9 + j) 0 = n) (hn0 : 0 < n) :
    Sp (d + 4) 27 [.inr (.inr (10 + 3 * j)), .inr (.inr 0), .inl (way : Int)] M Q = Q (some (.inl (mmB S j way n 10 0))) M := by
  have loop : ∀ q k : Nat, k + q = 10 → RT (Sp (d + 3)) 27 Q 2 [some (.inr (.inr (10 + 3 * j))), some (.inr (.inr 0)), some (.inl (way : Int)), some (.inl (k : Int))] [] M = Q (some (.inl (mmB S j way n q k))) M := by
    intro q
    induction q with
    | zero =>
      intro k hk
      obtain rfl : k = 10 := by omega
      rw [e27_2]
      simp only [↓e27, ↓e27_0, ↓e27_1, ↓e27_3, ↓e27_5, ↓e27_8, ↓e27_9, ↓e27_10, ↓e27_13, ↓e27_16, ↓e27_17, ↓e27_18, ↓e27_19, ↓e27_20, ↓e27_23, ↓e27_24, ↓e27_25, ↓e27_28, ↓e27_31, ↓e27_32, ↓e27_33, ↓e27_36, ↓e27_39, ↓e27_40, znl_i, znl_r, znl_n, zcs_0, zcs_1, zcs_2, zcs_3, zcat_0, zcat_1, zcat_2, zcat_3, zbl_0, zbl_1, true_and, and_true, ↓zret_some, ↓zret_none, Nat.reduceAdd, Nat.reduceLeDiff, Nat.reduceMul, eq_self, Int.reduceToNat, Int.reduceLE, Int.reduceLT, Int.reduceNeg, and_self, zrg, Int.cast_ofNat_Int, ge_iff_le, Int.le_refl, ↓reduceIte]
      rfl
    | succ q ih =>
      intro k hk
      have hk10 : k < 10 := by omega
      have hk0 : 0 ≤ (k : Int) ∧ (k : Int) < 10 := ⟨by omega, by omega⟩
      have hk1 : ¬ (k : Int) ≥ 10 := by omega
      have hk2 : -2147483648 ≤ (k : Int) ∧ (k : Int) < 2147483648 := ⟨by omega, by omega⟩
      have hzz := zb01 (isM S k)
      have hzk : zkc (10 + 3 * j) = 5 := by have := zkcWS (a := 0) (j := j) zkc_0 hj; simpa using this
      have next := ih (k + 1) (by omega)
      rw [mmB_s, e27_2]
      simp only [↓e27, ↓e27_0, ↓e27_1, ↓e27_3, ↓e27_5, ↓e27_8, ↓e27_9, ↓e27_10, ↓e27_13, ↓e27_17, ↓e27_18, ↓e27_19, ↓e27_20, ↓e27_23, ↓e27_24, ↓e27_25, ↓e27_28, ↓e27_31, ↓e27_32, ↓e27_36, ↓e27_39, ↓e27_40, znl_i, znl_r, znl_n, zcs_0, zcs_1, zcs_2, zcs_3, zcat_0, zcat_1, zcat_2, zcat_3, zbl_0, zbl_1, true_and, and_true, ↓zret_some, ↓zret_none, Nat.reduceAdd, Nat.reduceLeDiff, Nat.reduceMul, eq_self, Int.reduceToNat, Int.reduceLE, Int.reduceLT, Int.reduceNeg, and_self, zrg, zkc_0, zin_1, zin_2, zin_3, zin_4, zin_5, zin_6, zin_7, zin_8, zin_9, zaa_9, zkc_10, zin_11, zin_12, zkc_13, zin_14, zin_15, zkc_16, zin_17, zin_18, zkc_19, zin_20, zin_21, zin_22, zin_23, zin_24, zin_25, zin_26, zin_27, zin_28, zaa_28, zkc_29, zin_30, zin_31, zkc_32, zin_33, zin_34, zkc_35, zin_36, zin_37, zkc_38, zin_39, zin_40, zin_41, zin_42, zin_43, zin_44, zin_45, zin_46, zin_47, zaa_47, zkc_48, zin_49, zin_50, zkc_51, zin_52, zin_53, zkc_54, zin_55, zin_56, zkc_209, zkc_210, zin_211, zaa_211, zkc_212, zin_213, zkc_214, zkc_215, zin_216, zin_217, zkc_218, zin_219, zin_220, zin_221, zkc_222, zin_223, zaa_223, zin_224, zin_225, zkc_226, zin_227, zin_228, zin_229, zin_230, zin_231, zin_232, zkc_233, zin_234, zaa_234, zin_235, zin_236, zin_237, zin_238, zin_239, zin_240, zin_241, zin_242, zin_243, zin_244, zin_245, zin_246, zin_247, zin_248, zin_249, zin_250, zkc_251, zin_252, zin_253, zkc_374, zin_375, zin_376, zin_377, zin_378, zin_379, zin_380, zin_381, zin_382, zin_383, zin_384, zin_385, zin_386, zin_387, hk1, hk2, ↓reduceIte, ↓s_hasMember (d + 2) _ M S 0 k zkc_0 hR hW hk2, hzz]
      have e33 : RT (Sp (d + 3)) 27 Q 33 [some (.inr (.inr (10 + 3 * j))), some (.inr (.inr 0)), some (.inl (way : Int)), some (.inl (k : Int))] [] M = Q (some (.inl (mmB S j way n q (k + 1)))) M := by
        simp only [↓e27, ↓e27_0, ↓e27_1, ↓e27_3, ↓e27_5, ↓e27_8, ↓e27_9, ↓e27_10, ↓e27_13, ↓e27_16, ↓e27_17, ↓e27_18, ↓e27_19, ↓e27_20, ↓e27_23, ↓e27_24, ↓e27_25, ↓e27_28, ↓e27_31, ↓e27_32, ↓e27_33, ↓e27_36, ↓e27_39, ↓e27_40, znl_i, znl_r, znl_n, zcs_0, zcs_1, zcs_2, zcs_3, zcat_0, zcat_1, zcat_2, zcat_3, zbl_0, zbl_1, true_and, and_true, ↓zret_some, ↓zret_none, Nat.reduceAdd, Nat.reduceLeDiff, Nat.reduceMul, eq_self, Int.reduceToNat, Int.reduceLE, Int.reduceLT, Int.reduceNeg, and_self]
        rw [show ((k : Int) + 1) = ((k + 1 : Nat) : Int) by omega]
        exact next
      by_cases a : 0 ≤ S 1 k
      · have hm : isM S k := ⟨by omega, by omega, by rw [Int.toNat_natCast]; exact a⟩
        obtain ⟨p, hp⟩ : ∃ p : Nat, S 1 k = p := ⟨(S 1 k).toNat, by omega⟩
        have hp120 := (hW.2.1 k hk10).2
        have hcell := hR.2.1 k hk10
        simp only [Nat.zero_add] at hcell
        rw [if_neg (by omega), hp] at hcell
        have h01 := mkB_01 S j way p n 0
        have hbr := z01r h01
        rw [show zb (isM S k) = 1 from if_pos hm, if_neg (by omega)]
        simp only [↓e27, ↓e27_0, ↓e27_1, ↓e27_3, ↓e27_5, ↓e27_8, ↓e27_9, ↓e27_10, ↓e27_13, ↓e27_16, ↓e27_17, ↓e27_18, ↓e27_19, ↓e27_20, ↓e27_23, ↓e27_24, ↓e27_25, ↓e27_28, ↓e27_31, ↓e27_32, ↓e27_36, ↓e27_39, ↓e27_40, znl_i, znl_r, znl_n, zcs_0, zcs_1, zcs_2, zcs_3, zcat_0, zcat_1, zcat_2, zcat_3, zbl_0, zbl_1, true_and, and_true, ↓zret_some, ↓zret_none, Nat.reduceAdd, Nat.reduceLeDiff, Nat.reduceMul, eq_self, Int.reduceToNat, Int.reduceLE, Int.reduceLT, Int.reduceNeg, and_self, zrg, zkc_0, zin_1, zin_2, zin_3, zin_4, zin_5, zin_6, zin_7, zin_8, zin_9, zaa_9, zkc_10, zin_11, zin_12, zkc_13, zin_14, zin_15, zkc_16, zin_17, zin_18, zkc_19, zin_20, zin_21, zin_22, zin_23, zin_24, zin_25, zin_26, zin_27, zin_28, zaa_28, zkc_29, zin_30, zin_31, zkc_32, zin_33, zin_34, zkc_35, zin_36, zin_37, zkc_38, zin_39, zin_40, zin_41, zin_42, zin_43, zin_44, zin_45, zin_46, zin_47, zaa_47, zkc_48, zin_49, zin_50, zkc_51, zin_52, zin_53, zkc_54, zin_55, zin_56, zkc_209, zkc_210, zin_211, zaa_211, zkc_212, zin_213, zkc_214, zkc_215, zin_216, zin_217, zkc_218, zin_219, zin_220, zin_221, zkc_222, zin_223, zaa_223, zin_224, zin_225, zkc_226, zin_227, zin_228, zin_229, zin_230, zin_231, zin_232, zkc_233, zin_234, zaa_234, zin_235, zin_236, zin_237, zin_238, zin_239, zin_240, zin_241, zin_242, zin_243, zin_244, zin_245, zin_246, zin_247, zin_248, zin_249, zin_250, zkc_251, zin_252, zin_253, zkc_374, zin_375, zin_376, zin_377, zin_378, zin_379, zin_380, zin_381, zin_382, zin_383, zin_384, zin_385, zin_386, zin_387, hk0, Int.toNat_natCast, hcell, hzk, ↓s_isMadeFrom d _ M S j way p n hj hw (show p < 120 by omega) hR hW hn hn0, hbr]
        rw [e33, hp]
        rcases h01 with z | z
        · rw [z, if_pos rfl, if_neg (fun y => by omega)]
        · rw [z, if_neg (by omega), if_pos ⟨by omega, rfl⟩]
      · have hm : ¬ isM S k := fun z => a (by have := z.2.2; rw [Int.toNat_natCast] at this; exact this)
        rw [show zb (isM S k) = 0 from if_neg hm, if_pos rfl, if_neg (fun z => a z.1)]
        exact e33
  have h9 := loop 10 0 rfl
  simp only [↓e27, ↓e27_0, ↓e27_1, ↓e27_3, ↓e27_5, ↓e27_8, ↓e27_9, ↓e27_10, ↓e27_13, ↓e27_16, ↓e27_17, ↓e27_18, ↓e27_19, ↓e27_20, ↓e27_23, ↓e27_24, ↓e27_25, ↓e27_28, ↓e27_31, ↓e27_32, ↓e27_33, ↓e27_36, ↓e27_39, ↓e27_40, znl_i, znl_r, znl_n, zcs_0, zcs_1, zcs_2, zcs_3, zcat_0, zcat_1, zcat_2, zcat_3, zbl_0, zbl_1, true_and, and_true, ↓zret_some, ↓zret_none, Nat.reduceAdd, Nat.reduceLeDiff, Nat.reduceMul, eq_self, Int.reduceToNat, Int.reduceLE, Int.reduceLT, Int.reduceNeg, and_self]
  exact h9
theorem s_lowestWay (d : Nat) (Q : zQ) (M S : zM) (j n : Nat) (hj : j < 3) (hR : RelC M 0 S) (hW : WfS S) (hn : S (9 + j) 0 = n) (hn0 : 0 < n) :
    Sp (d + 5) 26 [.inr (.inr (10 + 3 * j)), .inr (.inr 0)] M Q = Q (some (.inl (if cntM S 10 = n then lwy S j n 8 0 else -5))) M := by
  have hzk : zkc (10 + 3 * j) = 5 := by have := zkcWS (a := 0) (j := j) zkc_0 hj; simpa using this
  obtain ⟨c1, c2, c3⟩ := hR.2.2.2.2.2.2.2.2.2.2.2 j hj
  simp only [Nat.zero_add] at c1
  obtain ⟨w1, w2, w3, w4, w5⟩ := hW.2.2.2.2.2.2.2.2.2 j hj
  have hnr : -2147483648 ≤ (n : Int) ∧ (n : Int) < 2147483648 := ⟨by omega, by omega⟩
  have hcl := cnt_le S 10
  have hcn := cnt_nn S 10
  have hcr : -2147483648 ≤ cntM S 10 ∧ cntM S 10 < 2147483648 := by omega
  have loop : ∀ q k : Nat, k + q = 8 → RT (Sp (d + 4)) 26 Q 16 [some (.inr (.inr (10 + 3 * j))), some (.inr (.inr 0)), some (.inl (k : Int))] [] M = Q (some (.inl (lwy S j n q k))) M := by
    intro q
    induction q with
    | zero =>
      intro k hk
      obtain rfl : k = 8 := by omega
      rw [e26_16]
      simp only [↓e26, ↓e26_0, ↓e26_1, ↓e26_4, ↓e26_5, ↓e26_8, ↓e26_11, ↓e26_13, ↓e26_14, ↓e26_15, ↓e26_17, ↓e26_19, ↓e26_22, ↓e26_23, ↓e26_24, ↓e26_25, ↓e26_28, ↓e26_31, ↓e26_32, ↓e26_33, ↓e26_36, ↓e26_39, ↓e26_41, znl_i, znl_r, znl_n, zcs_0, zcs_1, zcs_2, zcs_3, zcat_0, zcat_1, zcat_2, zcat_3, zbl_0, zbl_1, true_and, and_true, ↓zret_some, ↓zret_none, Nat.reduceAdd, Nat.reduceLeDiff, Nat.reduceMul, eq_self, Int.reduceToNat, Int.reduceLE, Int.reduceLT, Int.reduceNeg, and_self, zrg, Int.cast_ofNat_Int, ge_iff_le, Int.le_refl, ↓reduceIte]
      rfl
    | succ q ih =>
      intro k hk
      have hk1 : ¬ (k : Int) ≥ 8 := by omega
      have hk2 : -2147483648 ≤ (k : Int) ∧ (k : Int) < 2147483648 := ⟨by omega, by omega⟩
      have h01 := mmB_01 S j k n 10 0
      have hbr := z01r h01
      have next := ih (k + 1) (by omega)
      rw [lwy_s, e26_16]
      simp only [↓e26, ↓e26_0, ↓e26_1, ↓e26_4, ↓e26_5, ↓e26_8, ↓e26_11, ↓e26_13, ↓e26_14, ↓e26_15, ↓e26_17, ↓e26_19, ↓e26_22, ↓e26_23, ↓e26_24, ↓e26_25, ↓e26_28, ↓e26_31, ↓e26_32, ↓e26_33, ↓e26_36, ↓e26_39, ↓e26_41, znl_i, znl_r, znl_n, zcs_0, zcs_1, zcs_2, zcs_3, zcat_0, zcat_1, zcat_2, zcat_3, zbl_0, zbl_1, true_and, and_true, ↓zret_some, ↓zret_none, Nat.reduceAdd, Nat.reduceLeDiff, Nat.reduceMul, eq_self, Int.reduceToNat, Int.reduceLE, Int.reduceLT, Int.reduceNeg, and_self, zrg, zkc_0, zin_1, zin_2, zin_3, zin_4, zin_5, zin_6, zin_7, zin_8, zin_9, zaa_9, zkc_10, zin_11, zin_12, zkc_13, zin_14, zin_15, zkc_16, zin_17, zin_18, zkc_19, zin_20, zin_21, zin_22, zin_23, zin_24, zin_25, zin_26, zin_27, zin_28, zaa_28, zkc_29, zin_30, zin_31, zkc_32, zin_33, zin_34, zkc_35, zin_36, zin_37, zkc_38, zin_39, zin_40, zin_41, zin_42, zin_43, zin_44, zin_45, zin_46, zin_47, zaa_47, zkc_48, zin_49, zin_50, zkc_51, zin_52, zin_53, zkc_54, zin_55, zin_56, zkc_209, zkc_210, zin_211, zaa_211, zkc_212, zin_213, zkc_214, zkc_215, zin_216, zin_217, zkc_218, zin_219, zin_220, zin_221, zkc_222, zin_223, zaa_223, zin_224, zin_225, zkc_226, zin_227, zin_228, zin_229, zin_230, zin_231, zin_232, zkc_233, zin_234, zaa_234, zin_235, zin_236, zin_237, zin_238, zin_239, zin_240, zin_241, zin_242, zin_243, zin_244, zin_245, zin_246, zin_247, zin_248, zin_249, zin_250, zkc_251, zin_252, zin_253, zkc_374, zin_375, zin_376, zin_377, zin_378, zin_379, zin_380, zin_381, zin_382, zin_383, zin_384, zin_385, zin_386, zin_387, hk1, hk2, hzk, ↓reduceIte, ↓s_isMade d _ M S j k n hj (show k < 8 by omega) hR hW hn hn0, hbr]
      rw [show ((k : Int) + 1) = ((k + 1 : Nat) : Int) by omega, next]
      rcases h01 with z | z
      · rw [z, if_pos rfl, if_neg (by omega)]
      · rw [z, if_neg (by omega), if_pos rfl]
  have h9 := loop 8 0 rfl
  simp only [↓e26, ↓e26_0, ↓e26_1, ↓e26_4, ↓e26_5, ↓e26_8, ↓e26_11, ↓e26_13, ↓e26_14, ↓e26_15, ↓e26_17, ↓e26_19, ↓e26_22, ↓e26_23, ↓e26_24, ↓e26_25, ↓e26_28, ↓e26_31, ↓e26_32, ↓e26_33, ↓e26_36, ↓e26_39, ↓e26_41, znl_i, znl_r, znl_n, zcs_0, zcs_1, zcs_2, zcs_3, zcat_0, zcat_1, zcat_2, zcat_3, zbl_0, zbl_1, true_and, and_true, ↓zret_some, ↓zret_none, Nat.reduceAdd, Nat.reduceLeDiff, Nat.reduceMul, eq_self, Int.reduceToNat, Int.reduceLE, Int.reduceLT, Int.reduceNeg, and_self, zrg, zkc_0, zin_1, zin_2, zin_3, zin_4, zin_5, zin_6, zin_7, zin_8, zin_9, zaa_9, zkc_10, zin_11, zin_12, zkc_13, zin_14, zin_15, zkc_16, zin_17, zin_18, zkc_19, zin_20, zin_21, zin_22, zin_23, zin_24, zin_25, zin_26, zin_27, zin_28, zaa_28, zkc_29, zin_30, zin_31, zkc_32, zin_33, zin_34, zkc_35, zin_36, zin_37, zkc_38, zin_39, zin_40, zin_41, zin_42, zin_43, zin_44, zin_45, zin_46, zin_47, zaa_47, zkc_48, zin_49, zin_50, zkc_51, zin_52, zin_53, zkc_54, zin_55, zin_56, zkc_209, zkc_210, zin_211, zaa_211, zkc_212, zin_213, zkc_214, zkc_215, zin_216, zin_217, zkc_218, zin_219, zin_220, zin_221, zkc_222, zin_223, zaa_223, zin_224, zin_225, zkc_226, zin_227, zin_228, zin_229, zin_230, zin_231, zin_232, zkc_233, zin_234, zaa_234, zin_235, zin_236, zin_237, zin_238, zin_239, zin_240, zin_241, zin_242, zin_243, zin_244, zin_245, zin_246, zin_247, zin_248, zin_249, zin_250, zkc_251, zin_252, zin_253, zkc_374, zin_375, zin_376, zin_377, zin_378, zin_379, zin_380, zin_381, zin_382, zin_383, zin_384, zin_385, zin_386, zin_387, hzk, ↓s_living (d + 3) _ M 0 zkc_0, Nat.zero_add, live_C hR hW, c1, hn, hnr, hcr]
  by_cases z : cntM S 10 = n
  · rw [if_pos z, if_pos z]
    exact h9
  · rw [if_neg z, if_neg z]
