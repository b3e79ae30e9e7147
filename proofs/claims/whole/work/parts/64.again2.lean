/-! ### that least sum is the best assignment's -/
theorem fo_lt {S : zM} {i : Nat} (h : i < (folN S 10).length) : fo S i < 10 ∧ isF S (fo S i) = true := lst_mem (fo_at h)
theorem fo_inj {S : zM} {i j : Nat} (hi : i < (folN S 10).length) (hj : j < (folN S 10).length) (h : fo S i = fo S j) : i = j := lst_inj (fo_at hi) (by rw [h]; exact fo_at hj)
theorem fo_ex {S : zM} {m : Nat} (hm : m < 10) (h : isF S m = true) : ∃ i, i < (folN S 10).length ∧ fo S i = m := by
  obtain ⟨i, hi⟩ := lst_idx hm h
  have h1 := (List.getElem?_eq_some_iff.mp hi).1
  have h2 : i < (folN S 10).length := h1
  refine ⟨i, h2, ?_⟩
  have h3 := fo_at h2
  have h4 : (folN S 10)[i]? = some m := hi
  rw [h4] at h3
  exact (Option.some.inj h3).symm
def op (S : zM) (r : Nat) : Nat := (opnN S (nsl S).toNat).getD r 0
theorem op_at {S : zM} {r : Nat} (h : r < (opnN S (nsl S).toNat).length) : (opnN S (nsl S).toNat)[r]? = some (op S r) := by
  unfold op
  rw [List.getD_eq_getElem?_getD, List.getElem?_eq_getElem h]; rfl
theorem op_lt {S : zM} {r : Nat} (h : r < (opnN S (nsl S).toNat).length) : op S r < (nsl S).toNat ∧ isO S (op S r) = true := lst_mem (op_at h)
theorem op_inj {S : zM} {i j : Nat} (hi : i < (opnN S (nsl S).toNat).length) (hj : j < (opnN S (nsl S).toNat).length) (h : op S i = op S j) : i = j := lst_inj (op_at hi) (by rw [h]; exact op_at hj)
theorem op_ex {S : zM} {s : Nat} (hs : s < (nsl S).toNat) (h : isO S s = true) : ∃ r, r < (opnN S (nsl S).toNat).length ∧ op S r = s := by
  obtain ⟨i, hi⟩ := lst_idx hs h
  have h1 := (List.getElem?_eq_some_iff.mp hi).1
  have h2 : i < (opnN S (nsl S).toNat).length := h1
  refine ⟨i, h2, ?_⟩
  have h3 := op_at h2
  have h4 : (opnN S (nsl S).toNat)[i]? = some s := hi
  rw [h4] at h3
  exact (Option.some.inj h3).symm
theorem gv_fol {S : zM} (hW : WfS S) : gvn S = smN (gv (fo S) (bT S)) (folN S 10).length ∧ gvs S = smN (ds S (fo S) (bT S)) (folN S 10).length := by
  have hno : ∀ m : Nat, m < 10 → ¬ isF S m = true → bT S m < 0 := fun m hm h => by
    rcases bT_cases hW hm with q | ⟨s, q1, q2, q3, q4, -⟩
    · omega
    · exact absurd q4 h
  constructor
  · have h1 := sm_filt (isF S) (fun m => if bT S m < 0 then 0 else 1) 10
    unfold gvn
    rw [smN_congr (g := fun m => if isF S m = true then (if bT S m < 0 then 0 else 1) else 0) 10 (fun m hm => by
      show (if bT S m < 0 then (0 : Int) else 1) = if isF S m = true then (if bT S m < 0 then 0 else 1) else 0
      by_cases z : isF S m = true
      · rw [if_pos z]
      · rw [if_neg z, if_pos (hno m hm z)]), ← h1]
    rfl
  · have h1 := sm_filt (isF S) (fun m => if bT S m < 0 then 0 else dm S m (bT S m).toNat) 10
    unfold gvs
    rw [smN_congr (g := fun m => if isF S m = true then (if bT S m < 0 then 0 else dm S m (bT S m).toNat) else 0) 10 (fun m hm => by
      show (if bT S m < 0 then (0 : Int) else dm S m (bT S m).toNat) = if isF S m = true then (if bT S m < 0 then 0 else dm S m (bT S m).toNat) else 0
      by_cases z : isF S m = true
      · rw [if_pos z]
      · rw [if_neg z, if_pos (hno m hm z)]), ← h1]
    rfl
theorem gv_rng {S : zM} (hW : WfS S) : 0 ≤ gvn S ∧ gvn S ≤ 9 ∧ 0 ≤ gvs S ∧ gvs S ≤ 119 * gvn S := by
  obtain ⟨h1, h2⟩ := gv_fol hW
  have h3 := ds_bnd hW (bT_is hW).1 (folN S 10).length (Nat.le_refl _)
  have h4 := fol_len9 hW
  rw [h1, h2]
  omega
/-- how far the follower i is from the open slot r -/
noncomputable def Dri (S : zM) (r i : Nat) : Int := dd (S 0) (plc S (op S r)).toNat (S 1 (fo S i)).toNat
theorem Dri_dm {S : zM} {r i : Nat} : (0 ≤ Dri S r i ↔ 0 ≤ dm S (fo S i) (op S r)) ∧ (0 ≤ Dri S r i → Dri S r i = dm S (fo S i) (op S r)) := by
  have h := dst_rng (S 0) (plc S (op S r)).toNat (S 1 (fo S i)).toNat
  unfold Dri dd dm
  split
  · exact ⟨by omega, fun q => by omega⟩
  · exact ⟨by omega, fun _ => rfl⟩
theorem xy_cost {S : zM} {x y t : Nat → Int} {p k : Nat} (hxy : ∀ r i : Nat, r < p → i < k → (x r = i ↔ y i = r)) (hx : ∀ r, r < p → x r < 0 ∨ ∃ i : Nat, x r = i ∧ i < k) (hy : ∀ i, i < k → y i < 0 ∨ ∃ r : Nat, y i = r ∧ r < p ∧ 0 ≤ Dri S r i) (ht : ∀ i, i < k → t (fo S i) = if y i < 0 then -1 else ((op S (y i).toNat : Nat) : Int)) :
    smN (cst (Dri S) x) p = 1100 * (p - smN (gv (fo S) t) k) + smN (ds S (fo S) t) k := by
  have hy' : ∀ i, i < k → y i < 0 ∨ ∃ r : Nat, y i = r ∧ r < p := fun i hi => by
    rcases hy i hi with h | ⟨r, h1, h2, -⟩
    · exact Or.inl h
    · exact Or.inr ⟨r, h1, h2⟩
  have b1 := smN_both (fun _ _ => 1) hxy hx hy'
  have b2 := smN_both (fun i r => Dri S r i) hxy hx hy'
  have g1 : smN (gv (fo S) t) k = smN (fun i => if y i < 0 then 0 else 1) k := smN_congr k (fun i hi => by
    unfold gv
    rw [ht i hi]
    by_cases z : y i < 0
    · rw [if_pos z, if_pos z, if_pos (by omega)]
    · rw [if_neg z, if_neg z, if_neg (by omega)])
  have g2 : smN (ds S (fo S) t) k = smN (fun i => if y i < 0 then 0 else Dri S (y i).toNat i) k := smN_congr k (fun i hi => by
    show ds S (fo S) t i = if y i < 0 then 0 else Dri S (y i).toNat i
    unfold ds
    rw [ht i hi]
    rcases hy i hi with z | ⟨r, z1, z2, z3⟩
    · rw [if_pos z, if_pos z, if_pos (by omega)]
    · rw [if_neg (by omega), if_neg (by omega), if_neg (by omega), z1]
      simp only [Int.toNat_natCast]
      exact (Dri_dm.2 z3).symm)
  have c1 : smN (cst (Dri S) x) p = smN (fun r => (fun r => 1100 + -1100 * (if x r < 0 then 0 else 1)) r + (fun r => if x r < 0 then 0 else Dri S r (x r).toNat) r) p := smN_congr p (fun r hr => by
    show cst (Dri S) x r = (1100 + -1100 * (if x r < 0 then 0 else 1)) + if x r < 0 then 0 else Dri S r (x r).toNat
    unfold cst
    by_cases z : x r < 0
    · simp [z]
    · simp [z])
  have c2 : smN (fun r => 1100 + -1100 * (if x r < 0 then 0 else 1)) p = smN (fun _ => 1100) p + smN (fun r => -1100 * (if x r < 0 then 0 else 1)) p := smN_add (fun _ => 1100) (fun r => -1100 * (if x r < 0 then 0 else 1)) p
  have c3 : smN (fun r => -1100 * (if x r < 0 then 0 else 1)) p = -1100 * smN (fun r => if x r < 0 then 0 else 1) p := smN_mul (-1100) _ p
  rw [c1, smN_add, c2, c3, smN_const, g1, g2, ← b1, ← b2]
  omega
theorem xy_A {S : zM} (hW : WfS S) {t : Nat → Int} (hF : Fe (wo S) (nsl S).toNat t) : ∃ x, Xv (Dri S) (folN S 10).length (opnN S (nsl S).toNat).length x ∧ smN (cst (Dri S) x) (opnN S (nsl S).toNat).length = 1100 * ((opnN S (nsl S).toNat).length - smN (gv (fo S) t) (folN S 10).length) + smN (ds S (fo S) t) (folN S 10).length := by
  generalize hk : (folN S 10).length = k at *
  generalize hp : (opnN S (nsl S).toNat).length = p at *
  have hyx : ∀ i : Nat, ∃ v : Int, i < k → (v = -1 ∧ t (fo S i) = -1) ∨ ∃ r : Nat, v = r ∧ r < p ∧ t (fo S i) = ((op S r : Nat) : Int) ∧ 0 ≤ Dri S r i := fun i => by
    by_cases z : i < k
    · rcases hF.1 (fo S i) (fo_lt (by omega)).1 with q | ⟨s, q1, q2, q3⟩
      · exact ⟨-1, fun _ => Or.inl ⟨rfl, q⟩⟩
      · have h := wo_pos hW q3
        obtain ⟨r, r1, r2⟩ := op_ex q2 h.2.1
        exact ⟨r, fun _ => Or.inr ⟨r, rfl, by omega, by rw [q1, r2], Dri_dm.1.mpr (by rw [r2]; exact h.2.2.1)⟩⟩
    · exact ⟨-1, fun y => absurd y z⟩
  obtain ⟨y, hy⟩ := Classical.axiomOfChoice hyx
  have hxx : ∀ r : Nat, ∃ v : Int, (v = -1 ∧ ∀ i, i < k → y i ≠ r) ∨ ∃ i : Nat, v = i ∧ i < k ∧ y i = r := fun r => by
    by_cases z : ∃ i, i < k ∧ y i = r
    · obtain ⟨i, i1, i2⟩ := z
      exact ⟨i, Or.inr ⟨i, rfl, i1, i2⟩⟩
    · exact ⟨-1, Or.inl ⟨rfl, fun i i1 i2 => z ⟨i, i1, i2⟩⟩⟩
  obtain ⟨x, hx⟩ := Classical.axiomOfChoice hxx
  have yinj : ∀ i j r : Nat, i < k → j < k → y i = r → y j = r → i = j := fun i j r hi hj h1 h2 => by
    rcases hy i hi with ⟨a1, -⟩ | ⟨r1, a1, a2, a3, a4⟩
    · omega
    rcases hy j hj with ⟨b1, -⟩ | ⟨r2, b1, b2, b3, b4⟩
    · omega
    obtain rfl : r1 = r2 := by omega
    exact fo_inj (S := S) (by omega) (by omega) (hF.2 _ _ (fo_lt (by omega)).1 (fo_lt (by omega)).1 (by omega) (by omega))
  have hxy : ∀ r i : Nat, r < p → i < k → (x r = i ↔ y i = r) := fun r i hr hi => by
    rcases hx r with ⟨a1, a2⟩ | ⟨j, a1, a2, a3⟩
    · exact ⟨fun h => by omega, fun h => absurd h (a2 i hi)⟩
    · refine ⟨fun h => ?_, fun h => ?_⟩
      · obtain rfl : j = i := by omega
        exact a3
      · have := yinj i j r hi a2 h a3
        omega
  refine ⟨x, ⟨fun r hr => ?_, fun r s hr hs h1 h2 => ?_⟩, xy_cost (y := y) hxy (fun r hr => ?_) (fun i hi => ?_) (fun i hi => ?_)⟩
  · rcases hx r with ⟨a1, -⟩ | ⟨j, a1, a2, a3⟩
    · exact Or.inl a1
    · rcases hy j a2 with ⟨b1, -⟩ | ⟨r2, b1, b2, b3, b4⟩
      · omega
      · obtain rfl : r2 = r := by omega
        exact Or.inr ⟨j, a1, a2, b4⟩
  · obtain ⟨i, hi⟩ : ∃ i : Nat, x r = i := ⟨(x r).toNat, by omega⟩
    rcases hx r with ⟨a1, -⟩ | ⟨j, a1, a2, a3⟩
    · omega
    rcases hx s with ⟨b1, -⟩ | ⟨e, b1, b2, b3⟩
    · omega
    obtain rfl : j = e := by omega
    omega
  · rcases hx r with ⟨a1, -⟩ | ⟨j, a1, a2, a3⟩
    · exact Or.inl (by omega)
    · exact Or.inr ⟨j, a1, a2⟩
  · rcases hy i hi with ⟨b1, -⟩ | ⟨r2, b1, b2, b3, b4⟩
    · exact Or.inl (by omega)
    · exact Or.inr ⟨r2, b1, b2, b4⟩
  · rcases hy i hi with ⟨b1, b2⟩ | ⟨r2, b1, b2, b3, b4⟩
    · rw [if_pos (by omega)]; exact b2
    · rw [if_neg (by omega), b1, Int.toNat_natCast]; exact b3
theorem xy_B {S : zM} (hW : WfS S) {x : Nat → Int} (hX : Xv (Dri S) (folN S 10).length (opnN S (nsl S).toNat).length x) : ∃ t, Fe (wo S) (nsl S).toNat t ∧ smN (cst (Dri S) x) (opnN S (nsl S).toNat).length = 1100 * ((opnN S (nsl S).toNat).length - smN (gv (fo S) t) (folN S 10).length) + smN (ds S (fo S) t) (folN S 10).length := by
  generalize hk : (folN S 10).length = k at *
  generalize hp : (opnN S (nsl S).toNat).length = p at *
  have hyx : ∀ i : Nat, ∃ v : Int, (v = -1 ∧ ∀ r, r < p → x r ≠ i) ∨ ∃ r : Nat, v = r ∧ r < p ∧ x r = i := fun i => by
    by_cases z : ∃ r, r < p ∧ x r = i
    · obtain ⟨r, r1, r2⟩ := z
      exact ⟨r, Or.inr ⟨r, rfl, r1, r2⟩⟩
    · exact ⟨-1, Or.inl ⟨rfl, fun r r1 r2 => z ⟨r, r1, r2⟩⟩⟩
  obtain ⟨y, hy⟩ := Classical.axiomOfChoice hyx
  have htx : ∀ m : Nat, ∃ v : Int, (∀ i, i < k → fo S i = m → v = if y i < 0 then -1 else ((op S (y i).toNat : Nat) : Int)) ∧ ((∀ i, i < k → fo S i ≠ m) → v = -1) := fun m => by
    by_cases z : ∃ i, i < k ∧ fo S i = m
    · obtain ⟨i, i1, i2⟩ := z
      refine ⟨if y i < 0 then -1 else ((op S (y i).toNat : Nat) : Int), fun j j1 j2 => ?_, fun w => absurd i2 (w i i1)⟩
      obtain rfl : i = j := fo_inj (S := S) (by omega) (by omega) (by rw [i2, j2])
      rfl
    · exact ⟨-1, fun i i1 i2 => absurd ⟨i, i1, i2⟩ z, fun _ => rfl⟩
  obtain ⟨t, ht⟩ := Classical.axiomOfChoice htx
  have ht1 : ∀ i, i < k → t (fo S i) = if y i < 0 then -1 else ((op S (y i).toNat : Nat) : Int) := fun i hi => (ht _).1 i hi rfl
  have hD : ∀ i : Nat, i < k → y i < 0 ∨ ∃ r : Nat, y i = r ∧ r < p ∧ 0 ≤ Dri S r i ∧ x r = i := fun i hi => by
    rcases hy i with ⟨a1, -⟩ | ⟨r, a1, a2, a3⟩
    · exact Or.inl (by omega)
    · refine Or.inr ⟨r, a1, a2, ?_, a3⟩
      rcases hX.1 r a2 with q | ⟨j, q1, q2, q3⟩
      · omega
      · obtain rfl : j = i := by omega
        exact q3
  have hxy : ∀ r i : Nat, r < p → i < k → (x r = i ↔ y i = r) := fun r i hr hi => by
    rcases hy i with ⟨a1, a2⟩ | ⟨e, a1, a2, a3⟩
    · exact ⟨fun h => absurd h (a2 r hr), fun h => by omega⟩
    · refine ⟨fun h => ?_, fun h => ?_⟩
      · have := hX.2 r e hr a2 (by omega) (by omega)
        omega
      · obtain rfl : e = r := by omega
        exact a3
  have hz : ∀ m : Nat, 0 ≤ t m → ∃ i, i < k ∧ fo S i = m := fun m hm => by
    by_cases z : ∃ i, i < k ∧ fo S i = m
    · exact z
    · have := (ht m).2 (fun i i1 i2 => z ⟨i, i1, i2⟩); omega
  refine ⟨t, ⟨fun m hm => ?_, fun m e hm he h1 h2 => ?_⟩, xy_cost (y := y) hxy (fun r hr => ?_) (fun i hi => ?_) ht1⟩
  · by_cases z : ∃ i, i < k ∧ fo S i = m
    · obtain ⟨i, i1, rfl⟩ := z
      have h1 := ht1 i i1
      rcases hD i i1 with q | ⟨r, q1, q2, q3, q4⟩
      · rw [if_pos q] at h1; exact Or.inl h1
      · rw [if_neg (by omega), q1, Int.toNat_natCast] at h1
        have h2 := op_lt (S := S) (r := r) (by omega)
        have h3 := fo_lt (S := S) (i := i) (by omega)
        have h4 := Dri_dm.1.mp q3
        have h5 := isO_plc h2.2
        have h6 := dst_lt (w := S 0) (a := (plc S (op S r)).toNat) (c := (S 1 (fo S i)).toNat) (by omega)
        refine Or.inr ⟨op S r, h1, h2.1, ?_⟩
        unfold wo
        rw [if_pos ⟨h3.2, h2.2, h4⟩]
        unfold dm
        omega
    · exact Or.inl ((ht m).2 (fun i i1 i2 => z ⟨i, i1, i2⟩))
  · obtain ⟨i, i1, rfl⟩ := hz m h1
    obtain ⟨j, j1, rfl⟩ := hz e (by omega)
    have a1 := ht1 i i1
    have a2 := ht1 j j1
    rcases hD i i1 with q | ⟨r, q1, q2, q3, q4⟩
    · rw [if_pos q] at a1; omega
    rcases hD j j1 with q | ⟨s, s1, s2, s3, s4⟩
    · rw [if_pos q] at a2; omega
    rw [if_neg (by omega), q1, Int.toNat_natCast] at a1
    rw [if_neg (by omega), s1, Int.toNat_natCast] at a2
    obtain rfl : r = s := op_inj (S := S) (by omega) (by omega) (by omega)
    have : i = j := by omega
    rw [this]
  · rcases hX.1 r hr with q | ⟨j, q1, q2, q3⟩
    · exact Or.inl (by omega)
    · exact Or.inr ⟨j, q1, q2⟩
  · rcases hD i hi with q | ⟨r, q1, q2, q3, q4⟩
    · exact Or.inl q
    · exact Or.inr ⟨r, q1, q2, q3⟩
theorem ag_least {S : zM} (hW : WfS S) {l : Int} (h1 : ∀ set : Nat, set < 512 → l ≤ lsq (Dri S) (folN S 10).length (opnN S (nsl S).toNat).length set) (h2 : ∃ set, l = lsq (Dri S) (folN S 10).length (opnN S (nsl S).toNat).length set) : 0 ≤ l ∧ l < 20000 ∧ l % 1100 = gvs S := by
  have hk9 := fol_len9 hW
  have hp9 := opn_len9 hW
  obtain ⟨g1, g2⟩ := gv_fol hW
  obtain ⟨x, x1, x2⟩ := xy_A hW (bT_is hW).1
  have u1 := lsq_up _ x1
  have u2 := usx_lt _ x1.1
  have u3 : 2 ^ (folN S 10).length ≤ 2 ^ 9 := Nat.pow_le_pow_right (by omega) (by omega)
  have u4 := h1 _ (show usx x (opnN S (nsl S).toNat).length < 512 by omega)
  have b1 := ds_bnd hW (bT_is hW).1 (folN S 10).length (Nat.le_refl _)
  have v1 := vl_sum hW (bT_is hW).1
  have y0 : 0 ≤ smN (cst (Dri S) x) (opnN S (nsl S).toNat).length := (smN_ge _ (fun r hr => by
    unfold cst
    rcases x1.1 r hr with q | ⟨i, q1, q2, q3⟩
    · rw [if_pos (by omega)]; omega
    · rw [if_neg (by omega), q1, Int.toNat_natCast]; exact q3)).1
  obtain ⟨set, hs⟩ := h2
  rcases lsq_low (D := Dri S) (k := (folN S 10).length) (opnN S (nsl S).toNat).length set with q | ⟨z, z1, z2, z3⟩
  · omega
  · obtain ⟨t, t1, t2⟩ := xy_B hW z1
    have b2 := ds_bnd hW t1 (folN S 10).length (Nat.le_refl _)
    have v2 := vl_sum hW t1
    have w := ((bT_is hW).2 t t1).1
    rw [g2]
    generalize smN (gv (fo S) t) (folN S 10).length = ct at *
    generalize smN (gv (fo S) (bT S)) (folN S 10).length = cb at *
    generalize smN (ds S (fo S) t) (folN S 10).length = dt at *
    generalize smN (ds S (fo S) (bT S)) (folN S 10).length = db at *
    have y1 : ct ≤ cb := by omega
    have y2 : cb ≤ ct := by omega
    have y3 : dt = db := by omega
    have y4 : l = 1100 * ((opnN S (nsl S).toNat).length - cb) + db := by omega
    have y5 : 0 ≤ ((opnN S (nsl S).toNat).length : Int) - cb := by omega
    omega
