/-! ### sums, and that the matching is cheapest -/
def smN (f : Nat → Int) : Nat → Int
  | 0 => 0
  | n + 1 => smN f n + f n
theorem smN_congr {f g : Nat → Int} : ∀ n : Nat, (∀ i, i < n → f i = g i) → smN f n = smN g n
  | 0, _ => rfl
  | n + 1, h => by
    unfold smN
    rw [smN_congr n (fun i hi => h i (by omega)), h n (by omega)]
theorem smN_le {f g : Nat → Int} : ∀ n : Nat, (∀ i, i < n → f i ≤ g i) → smN f n ≤ smN g n
  | 0, _ => Int.le_refl _
  | n + 1, h => by
    have h1 := smN_le n (fun i hi => h i (by omega))
    have h2 := h n (by omega)
    unfold smN
    omega
theorem smN_add (f g : Nat → Int) : ∀ n : Nat, smN (fun i => f i + g i) n = smN f n + smN g n
  | 0 => rfl
  | n + 1 => by
    unfold smN
    rw [smN_add f g n]
    omega
theorem smN_zero : ∀ n : Nat, smN (fun _ => 0) n = 0
  | 0 => rfl
  | n + 1 => by unfold smN; rw [smN_zero n]; omega
theorem smN_pick (w : Nat → Int) (x : Nat) : ∀ n : Nat, smN (fun c => if x = c then w c else 0) n = if x < n then w x else 0
  | 0 => by simp [smN]
  | n + 1 => by
    unfold smN
    rw [smN_pick w x n]
    by_cases h1 : x < n
    · rw [if_pos h1, if_neg (by omega), if_pos (by omega)]; omega
    · by_cases h2 : x = n
      · subst h2; simp
      · rw [if_neg h1, if_neg h2, if_neg (by omega)]; omega
/-- how often t takes the value c among its first k -/
def cntI (t : Nat → Nat) (c : Nat) : Nat → Int
  | 0 => 0
  | k + 1 => cntI t c k + (if t k = c then 1 else 0)
theorem smN_dbl (w : Nat → Int) (t : Nat → Nat) (n : Nat) : ∀ k : Nat, (∀ i, i < k → t i < n) → smN (fun i => w (t i)) k = smN (fun c => cntI t c k * w c) n
  | 0, _ => by
    have : (fun c => cntI t c 0 * w c) = fun _ => 0 := by funext c; simp [cntI]
    rw [this, smN_zero]; rfl
  | k + 1, h => by
    have h1 := smN_dbl w t n k (fun i hi => h i (by omega))
    have h2 := smN_pick w (t k) n
    rw [if_pos (h k (by omega))] at h2
    have h3 : (fun c => cntI t c (k + 1) * w c) = fun c => cntI t c k * w c + (if t k = c then w c else 0) := by
      funext c
      show (cntI t c k + (if t k = c then 1 else 0)) * w c = _
      by_cases z : t k = c
      · rw [if_pos z, if_pos z]; rw [Int.add_mul]; omega
      · rw [if_neg z, if_neg z]; rw [Int.add_mul]; omega
    rw [h3, smN_add, h2, ← h1]
    rfl
theorem cntI_0 {t : Nat → Nat} {c : Nat} : ∀ k : Nat, (∀ i, i < k → t i ≠ c) → cntI t c k = 0
  | 0, _ => rfl
  | k + 1, h => by
    unfold cntI
    rw [cntI_0 k (fun i hi => h i (by omega)), if_neg (h k (by omega))]; rfl
theorem cntI_inj {t : Nat → Nat} {c : Nat} : ∀ k : Nat, (∀ i j, i < k → j < k → t i = t j → i = j) → 0 ≤ cntI t c k ∧ cntI t c k ≤ 1
  | 0, _ => ⟨Int.le_refl _, by show (0 : Int) ≤ 1; omega⟩
  | k + 1, h => by
    have h1 := cntI_inj (t := t) (c := c) k (fun i j hi hj => h i j (by omega) (by omega))
    unfold cntI
    by_cases z : t k = c
    · rw [if_pos z, cntI_0 k (fun i hi e => by have := h i k (by omega) (by omega) (by rw [e, z]); omega)]
      omega
    · rw [if_neg z]; omega
theorem cntI_ge {t : Nat → Nat} {c : Nat} : ∀ k : Nat, 0 ≤ cntI t c k ∧ ∀ i, i < k → t i = c → 1 ≤ cntI t c k
  | 0 => ⟨Int.le_refl _, fun i hi => absurd hi (Nat.not_lt_zero i)⟩
  | k + 1 => by
    obtain ⟨h1, h2⟩ := cntI_ge (t := t) (c := c) k
    unfold cntI
    refine ⟨by split <;> omega, fun i hi e => ?_⟩
    by_cases z : i = k
    · subst z; rw [if_pos e]; omega
    · have := h2 i (by omega) e
      split <;> omega
/-- the columns' shares at the columns that rows hold sum to no more than at any other columns -/
theorem smN_cols {w : Nat → Int} {n k : Nat} {s t : Nat → Nat} (hw : ∀ c, c < n → w c ≤ 0) (hs : ∀ i, i < k → s i < n) (ht : ∀ i, i < k → t i < n) (hi : ∀ i j, i < k → j < k → t i = t j → i = j) (hz : ∀ c, c < n → (∀ i, i < k → s i ≠ c) → w c = 0) :
    smN (fun i => w (s i)) k ≤ smN (fun i => w (t i)) k := by
  rw [smN_dbl w s n k hs, smN_dbl w t n k ht]
  apply smN_le
  intro c hc
  have h1 := cntI_inj (t := t) (c := c) k hi
  have h2 := hw c hc
  by_cases z : ∃ i, i < k ∧ s i = c
  · obtain ⟨i, i1, i2⟩ := z
    have h3 := (cntI_ge (t := s) (c := c) k).2 i i1 i2
    have h4 : cntI t c k = 0 ∨ cntI t c k = 1 := by omega
    have h5 : cntI s c k * w c ≤ 1 * w c := Int.mul_le_mul_of_nonpos_right h3 h2
    rcases h4 with q | q <;> rw [q] <;> omega
  · have h3 := hz c hc (fun i i1 i2 => z ⟨i, i1, i2⟩)
    rw [h3]; simp
theorem HM_opt {N : zM} {n k : Nat} (h : HM N n k) (hk : k < 10) (s t : Nat → Nat) (hs : ∀ i, i < k → 1 ≤ s i ∧ s i ≤ n ∧ N 235 (s i) = ((i + 1 : Nat) : Int)) (ht : ∀ i, i < k → 1 ≤ t i ∧ t i ≤ n) (hi : ∀ i j, i < k → j < k → t i = t j → i = j) :
    smN (fun i => N (240 + (i + 1)) (s i)) k ≤ smN (fun i => N (240 + (i + 1)) (t i)) k := by
  obtain ⟨m1, m2, m3, m4, m5, m6, m7⟩ := h
  have e1 : smN (fun i => N (240 + (i + 1)) (s i)) k = smN (fun i => N 236 (i + 1) + N 237 (s i)) k := smN_congr k (fun i hi => (m5 (i + 1) (s i) (by omega) (hs i hi).1 (hs i hi).2.1 (hs i hi).2.2).symm)
  have e2 : smN (fun i => N 236 (i + 1) + N 237 (t i)) k ≤ smN (fun i => N (240 + (i + 1)) (t i)) k := smN_le k (fun i hi => m4 (i + 1) (t i) (by omega) (by omega) (ht i hi).1 (ht i hi).2)
  rw [smN_add (fun i => N 236 (i + 1)) (fun i => N 237 (s i))] at e1
  rw [smN_add (fun i => N 236 (i + 1)) (fun i => N 237 (t i))] at e2
  have e3 : smN (fun i => (fun c => if c = 0 then 0 else N 237 c) (s i)) k ≤ smN (fun i => (fun c => if c = 0 then 0 else N 237 c) (t i)) k := by
    refine smN_cols (w := fun c => if c = 0 then 0 else N 237 c) (s := s) (t := t) (n := n + 1) (fun c hc => ?_) (fun i hi => by have := hs i hi; omega) (fun i hi => by have := ht i hi; omega) hi (fun c hc hno => ?_)
    · show (if c = 0 then 0 else N 237 c) ≤ 0
      split
      · exact Int.le_refl _
      · exact (m6 c (by omega) (by omega)).1
    · show (if c = 0 then 0 else N 237 c) = 0
      split
      · rfl
      · refine (m6 c (by omega) (by omega)).2 ?_
        rcases Int.lt_trichotomy (N 235 c) 0 with z | z | z
        · have := m1 c (by omega) (by omega); omega
        · exact z
        · exfalso
          have h1 := m1 c (by omega) (by omega)
          have h2 := hs ((N 235 c).toNat - 1) (by omega)
          exact hno ((N 235 c).toNat - 1) (by omega) (m2 _ c h2.1 h2.2.1 (by omega) (by omega) (by rw [h2.2.2]; omega) (by rw [h2.2.2]; omega))
  have e4 : smN (fun i => (fun c => if c = 0 then 0 else N 237 c) (s i)) k = smN (fun i => N 237 (s i)) k := smN_congr k (fun i hi => by show (if s i = 0 then 0 else N 237 (s i)) = _; rw [if_neg (by have := hs i hi; omega)])
  have e5 : smN (fun i => (fun c => if c = 0 then 0 else N 237 c) (t i)) k = smN (fun i => N 237 (t i)) k := smN_congr k (fun i hi => by show (if t i = 0 then 0 else N 237 (t i)) = _; rw [if_neg (by have := ht i hi; omega)])
  omega
