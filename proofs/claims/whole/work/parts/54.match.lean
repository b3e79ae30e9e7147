/-! ### the cheapest matching is the best assignment -/
theorem lst_mono {q : Nat → Bool} {k : Nat} {i j : Nat} {a b : Nat} (hi : ((List.range k).filter q)[i]? = some a) (hj : ((List.range k).filter q)[j]? = some b) (h : i < j) : a < b := by
  have h1 : List.Pairwise (· < ·) ((List.range k).filter q) := List.Pairwise.filter _ List.pairwise_lt_range
  obtain ⟨i1, i2⟩ := List.getElem?_eq_some_iff.mp hi
  obtain ⟨j1, j2⟩ := List.getElem?_eq_some_iff.mp hj
  have := List.pairwise_iff_getElem.mp h1 i j i1 j1 h
  omega
theorem lst_inj {q : Nat → Bool} {k i j a : Nat} (hi : ((List.range k).filter q)[i]? = some a) (hj : ((List.range k).filter q)[j]? = some a) : i = j := by
  rcases Nat.lt_trichotomy i j with z | z | z
  · have := lst_mono hi hj z; omega
  · exact z
  · have := lst_mono hj hi z; omega
theorem lst_idx {q : Nat → Bool} {k a : Nat} (h : a < k) (hq : q a = true) : ∃ i : Nat, ((List.range k).filter q)[i]? = some a :=
  List.mem_iff_getElem?.mp (List.mem_filter.mpr ⟨List.mem_range.mpr h, hq⟩)
theorem lst_mem {q : Nat → Bool} {k i a : Nat} (h : ((List.range k).filter q)[i]? = some a) : a < k ∧ q a = true := by
  obtain ⟨h2, h3⟩ := List.mem_filter.mp (List.mem_of_getElem? h)
  exact ⟨List.mem_range.mp h2, h3⟩
theorem smN_mul (c : Int) (f : Nat → Int) : ∀ n : Nat, smN (fun i => c * f i) n = c * smN f n
  | 0 => by simp [smN]
  | n + 1 => by
    unfold smN
    rw [smN_mul c f n, Int.mul_add]
theorem smN_ge {f : Nat → Int} : ∀ n : Nat, (∀ i, i < n → 0 ≤ f i) → 0 ≤ smN f n ∧ ∀ i, i < n → f i ≤ smN f n
  | 0, _ => ⟨Int.le_refl _, fun i hi => absurd hi (Nat.not_lt_zero i)⟩
  | n + 1, h => by
    obtain ⟨h1, h2⟩ := smN_ge n (fun i hi => h i (by omega))
    have h3 := h n (by omega)
    have h4 : smN f (n + 1) = smN f n + f n := rfl
    refine ⟨by omega, fun i hi => ?_⟩
    by_cases z : i = n
    · subst z; omega
    · have := h2 i (by omega); omega
theorem smN_const (c : Int) : ∀ n : Nat, smN (fun _ => c) n = c * n
  | 0 => by simp [smN]
  | n + 1 => by
    have h4 : smN (fun _ => c) (n + 1) = smN (fun _ => c) n + c := rfl
    rw [h4, smN_const c n, show ((n + 1 : Nat) : Int) = (n : Int) + 1 by omega, Int.mul_add]
    omega
theorem sm_filt (q : Nat → Bool) (g : Nat → Int) : ∀ k : Nat, smN (fun i => g (((List.range k).filter q).getD i 0)) ((List.range k).filter q).length = smN (fun m => if q m = true then g m else 0) k
  | 0 => rfl
  | k + 1 => by
    have h1 := sm_filt q g k
    have h2 : smN (fun m => if q m = true then g m else 0) (k + 1) = smN (fun m => if q m = true then g m else 0) k + (if q k = true then g k else 0) := rfl
    rw [h2, ← h1, filt_succ]
    by_cases hq : q k = true
    · rw [if_pos hq, if_pos hq, List.length_append, List.length_singleton]
      generalize (List.range k).filter q = l
      show smN _ l.length + _ = _
      congr 1
      · apply smN_congr
        intro i hi
        simp only [List.getD_eq_getElem?_getD]
        rw [List.getElem?_append_left hi]
      · simp [List.getD_eq_getElem?_getD]
    · rw [if_neg hq, if_neg hq, List.append_nil]; omega
def hor (f : Nat → Int) : Nat → Int
  | 0 => 0
  | k + 1 => 11 * hor f k + f k
theorem hor_sm (f : Nat → Int) : ∀ k : Nat, smN (fun i => f i * (11 : Int) ^ (k - (i + 1))) k = hor f k
  | 0 => rfl
  | k + 1 => by
    have h1 : smN (fun i => f i * (11 : Int) ^ (k + 1 - (i + 1))) (k + 1) = smN (fun i => f i * (11 : Int) ^ (k + 1 - (i + 1))) k + f k * (11 : Int) ^ (k + 1 - (k + 1)) := rfl
    have h2 : smN (fun i => f i * (11 : Int) ^ (k + 1 - (i + 1))) k = smN (fun i => 11 * (f i * (11 : Int) ^ (k - (i + 1)))) k := smN_congr k (fun i hi => by
      show f i * (11 : Int) ^ (k + 1 - (i + 1)) = 11 * (f i * (11 : Int) ^ (k - (i + 1)))
      rw [show k + 1 - (i + 1) = (k - (i + 1)) + 1 by omega, Int.pow_succ, ← Int.mul_assoc]
      exact Int.mul_comm _ _)
    rw [h1, h2, smN_mul, hor_sm f k]
    simp [hor]
theorem hor_rng {f : Nat → Int} : ∀ k : Nat, (∀ i, i < k → 0 ≤ f i ∧ f i ≤ 10) → 0 ≤ hor f k ∧ hor f k < (11 : Int) ^ k
  | 0, _ => ⟨Int.le_refl _, by show (0 : Int) < 11 ^ 0; decide⟩
  | k + 1, h => by
    have h1 := hor_rng k (fun i hi => h i (by omega))
    have h2 := h k (by omega)
    have h3 : hor f (k + 1) = 11 * hor f k + f k := rfl
    rw [Int.pow_succ]
    omega
theorem hor_lt {f g : Nat → Int} {i : Nat} (hs : ∀ j, j < i → f j = g j) (hi : f i < g i) : ∀ k : Nat, i < k → (∀ j, j < k → 0 ≤ f j ∧ f j ≤ 10 ∧ 0 ≤ g j ∧ g j ≤ 10) → hor f k < hor g k
  | 0, h, _ => absurd h (Nat.not_lt_zero i)
  | k + 1, h, hr => by
    have h3 : hor f (k + 1) = 11 * hor f k + f k := rfl
    have h4 : hor g (k + 1) = 11 * hor g k + g k := rfl
    have h5 := hr k (by omega)
    by_cases z : i = k
    · subst z
      have h6 : ∀ n, n ≤ i → hor f n = hor g n := by
        intro n
        induction n with
        | zero => intro _; rfl
        | succ n ih =>
          intro hn
          have a1 := ih (by omega)
          have a2 := hs n (by omega)
          show 11 * hor f n + f n = 11 * hor g n + g n
          rw [a1, a2]
      have := h6 i (Nat.le_refl i)
      omega
    · have := hor_lt hs hi k (by omega) (fun j hj => hr j (by omega))
      omega
theorem eleven9 {k : Nat} (h : k < 10) : (11 : Int) ^ k ≤ 2357947691 ∧ 1 ≤ (11 : Int) ^ k := by
  have : ∀ k : Nat, k < 10 → (11 : Int) ^ k ≤ 2357947691 ∧ 1 ≤ (11 : Int) ^ k := by decide
  exact this k h
theorem wo_pos {S : zM} (hW : WfS S) {m s : Nat} (h : 0 < wo S m s) : isF S m = true ∧ isO S s = true ∧ 0 ≤ dm S m s ∧ dm S m s < 120 ∧ wo S m s = 10000 - dm S m s := by
  unfold wo at h ⊢
  split at h
  · rename_i q
    rw [if_pos q]
    have h1 := q.2.1
    unfold isO at h1
    have h2 := (of_decide_eq_true h1).2
    have h3 := (plc_rng h2).1
    exact ⟨q.1, q.2.1, q.2.2, dst_lt (by omega), rfl⟩
  · omega
theorem wo_nn (S : zM) (hW : WfS S) (m s : Nat) : 0 ≤ wo S m s := by
  unfold wo
  split
  · rename_i q
    have h1 := q.2.1
    unfold isO at h1
    have h2 := (of_decide_eq_true h1).2
    have h3 := (plc_rng h2).1
    have := dst_lt (w := S 0) (a := (plc S s).toNat) (c := (S 1 m).toNat) (by omega)
    unfold dm
    omega
  · omega
def fo (S : zM) (i : Nat) : Nat := (folN S 10).getD i 0
theorem fo_at {S : zM} {i : Nat} (h : i < (folN S 10).length) : (folN S 10)[i]? = some (fo S i) := by
  unfold fo
  rw [List.getD_eq_getElem?_getD, List.getElem?_eq_getElem h]; rfl
/-- an assignment's numbers, row by row -/
def gv (F : Nat → Nat) (t : Nat → Int) (i : Nat) : Int := if t (F i) < 0 then 0 else 1
noncomputable def ds (S : zM) (F : Nat → Nat) (t : Nat → Int) (i : Nat) : Int := if t (F i) < 0 then 0 else dm S (F i) (t (F i)).toNat
def dg (F : Nat → Nat) (t : Nat → Int) (i : Nat) : Int := if t (F i) < 0 then 10 else t (F i)
noncomputable def rp (S : zM) (F : Nat → Nat) (k : Nat) (t : Nat → Int) (i : Nat) : Int := 2357947691 * (1100 * (1 + -1 * gv F t i) + ds S F t i) + dg F t i * (11 : Int) ^ (k - (i + 1))
theorem rp_sum (S : zM) (F : Nat → Nat) (t : Nat → Int) (k : Nat) : smN (rp S F k t) k = 2357947691 * (1100 * (k - smN (gv F t) k) + smN (ds S F t) k) + hor (dg F t) k := by
  have h1 : smN (rp S F k t) k = smN (fun i => (fun i => 2357947691 * (1100 * (1 + -1 * gv F t i) + ds S F t i)) i + (fun i => dg F t i * (11 : Int) ^ (k - (i + 1))) i) k := rfl
  rw [h1, smN_add, hor_sm, smN_mul]
  have h2 : smN (fun i => 1100 * (1 + -1 * gv F t i) + ds S F t i) k = smN (fun i => 1100 * (1 + -1 * gv F t i)) k + smN (ds S F t) k := smN_add (fun i => 1100 * (1 + -1 * gv F t i)) (ds S F t) k
  have h3 : smN (fun i => 1100 * (1 + -1 * gv F t i)) k = 1100 * smN (fun i => 1 + -1 * gv F t i) k := smN_mul 1100 _ k
  have h4 : smN (fun i => 1 + -1 * gv F t i) k = smN (fun _ => 1) k + smN (fun i => -1 * gv F t i) k := smN_add (fun _ => 1) (fun i => -1 * gv F t i) k
  have h5 : smN (fun i => -1 * gv F t i) k = -1 * smN (gv F t) k := smN_mul (-1) _ k
  have h6 := smN_const 1 k
  rw [h2, h3, h4, h5, h6]
  have h7 : (1 : Int) * k + -1 * smN (gv F t) k = k - smN (gv F t) k := by omega
  rw [h7]
theorem vl_sum {S : zM} (hW : WfS S) {n : Nat} {t : Nat → Int} (hF : Fe (wo S) n t) : smN (vl (wo S) t) 10 = 10000 * smN (gv (fo S) t) (folN S 10).length - smN (ds S (fo S) t) (folN S 10).length := by
  have h0 : smN (vl (wo S) t) 10 = smN (fun m => if isF S m = true then vl (wo S) t m else 0) 10 := smN_congr 10 (fun m hm => by
    split
    · rfl
    · rename_i q
      rcases hF.1 m hm with z | ⟨s, z1, z2, z3⟩
      · unfold vl; rw [if_pos (by omega)]
      · exact absurd (wo_pos hW z3).1 q)
  have h1 := sm_filt (isF S) (vl (wo S) t) 10
  rw [h0, ← h1]
  show smN (fun i => vl (wo S) t (fo S i)) (folN S 10).length = _
  have h2 : smN (fun i => vl (wo S) t (fo S i)) (folN S 10).length = smN (fun i => (fun i => 10000 * gv (fo S) t i) i + (fun i => -1 * ds S (fo S) t i) i) (folN S 10).length := smN_congr _ (fun i hi => by
    show vl (wo S) t (fo S i) = 10000 * gv (fo S) t i + -1 * ds S (fo S) t i
    have hm := fo_at hi
    have hm10 := (lst_mem hm).1
    unfold vl gv ds
    rcases hF.1 _ hm10 with z | ⟨s, z1, z2, z3⟩
    · rw [if_pos (by omega), if_pos (by omega), if_pos (by omega)]; omega
    · have := (wo_pos hW z3).2.2.2.2
      rw [if_neg (by omega), if_neg (by omega), if_neg (by omega), z1, Int.toNat_natCast, this]; omega)
  rw [h2, smN_add, smN_mul, smN_mul]
  omega
/-- the bounds of an assignment's numbers -/
theorem ds_bnd {S : zM} (hW : WfS S) {n : Nat} {t : Nat → Int} (hF : Fe (wo S) n t) : ∀ k : Nat, k ≤ (folN S 10).length → 0 ≤ smN (ds S (fo S) t) k ∧ smN (ds S (fo S) t) k ≤ 119 * smN (gv (fo S) t) k ∧ 0 ≤ smN (gv (fo S) t) k ∧ smN (gv (fo S) t) k ≤ k
  | 0, _ => by simp [smN]
  | k + 1, h => by
    obtain ⟨h1, h2, h3, h4⟩ := ds_bnd hW hF k (by omega)
    have hm := fo_at (S := S) (i := k) (by omega)
    have hm10 := (lst_mem hm).1
    have e1 : smN (ds S (fo S) t) (k + 1) = smN (ds S (fo S) t) k + ds S (fo S) t k := rfl
    have e2 : smN (gv (fo S) t) (k + 1) = smN (gv (fo S) t) k + gv (fo S) t k := rfl
    have h5 : 0 ≤ ds S (fo S) t k ∧ ds S (fo S) t k ≤ 119 * gv (fo S) t k ∧ 0 ≤ gv (fo S) t k ∧ gv (fo S) t k ≤ 1 := by
      unfold ds gv
      rcases hF.1 _ hm10 with z | ⟨s, z1, z2, z3⟩
      · rw [if_pos (by omega), if_pos (by omega)]; omega
      · have := wo_pos hW z3
        rw [if_neg (by omega), if_neg (by omega), z1, Int.toNat_natCast]; omega
    omega
