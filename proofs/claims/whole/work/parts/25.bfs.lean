/-- what the search has made: the queue q of len cells, those ahead of t done, and the first k directions of the t-th -/
def Bf (w D q : Nat → Int) (a len t k : Nat) : Prop :=
  (0 < len ∧ t ≤ len ∧ k ≤ 4 ∧ q 0 = a) ∧
  (∀ i, i < len → ∃ c : Nat, q i = c ∧ c < 120 ∧ w c ≠ 1 ∧ D c = dst w a c ∧ 0 ≤ dst w a c) ∧
  (∀ i j, i < len → j < len → q i = q j → i = j) ∧
  (∀ c : Nat, c < 120 → 0 ≤ D c → ∃ i, i < len ∧ q i = c) ∧
  (∀ i j, i ≤ j → j < len → D (q i).toNat ≤ D (q j).toNat) ∧
  (t < len → ∀ j, j < len → D (q j).toNat ≤ D (q t).toNat + 1) ∧
  (∀ i, i < t → ∀ e : Nat, adj (q i).toNat e → w e ≠ 1 → 0 ≤ D e) ∧
  (t < len → ∀ k' : Nat, k' < k → ∀ e : Nat, nb (q t) k' = e → w e ≠ 1 → 0 ≤ D e) ∧
  (t < len → ∀ e : Nat, e < 120 → 0 ≤ dst w a e → dst w a e < D (q t).toNat → ∃ i, i < t ∧ q i = e)
theorem dst_wall {w : Nat → Int} {a c : Nat} (h : w a = 1) : dst w a c = -1 := by
  rcases dst_is w a c with ⟨h1, -⟩ | ⟨n, -, h2, -⟩
  · exact h1
  · exact absurd h (pth_wall h2).1
theorem bf_init {w D q : Nat → Int} {a : Nat} (ha : a < 120) (hw : w a ≠ 1) (h0 : D a = 0) (h1 : ∀ c : Nat, c < 120 → c ≠ a → D c < 0) (hq : q 0 = a) : Bf w D q a 1 0 0 := by
  have hd := dst_self hw
  have hq0 : ∀ i, i < 1 → q i = a := fun i hi => by rw [show i = 0 by omega]; exact hq
  refine ⟨⟨by omega, by omega, by omega, hq⟩, fun i hi => ⟨a, hq0 i hi, ha, hw, by rw [h0, hd], by omega⟩, fun i j hi hj _ => by omega, fun c hc h => ⟨0, by omega, ?_⟩, fun i j hi hj => ?_, fun _ j hj => ?_, fun i hi => by omega, fun _ k hk => by omega, fun _ e he h2 h3 => ?_⟩
  · by_cases e : c = a
    · rw [e]; exact hq
    · have := h1 c hc e; omega
  · rw [hq0 i (by omega), hq0 j hj]; exact Int.le_refl _
  · rw [hq0 j hj, hq]; omega
  · rw [hq] at h3
    simp only [Int.toNat_natCast] at h3
    omega
theorem bf_skip {w D q : Nat → Int} {a len t k : Nat} (h : Bf w D q a len t k) (ht : t < len) (hk : k < 4) (hs : ∀ e : Nat, nb (q t) k = e → w e ≠ 1 → 0 ≤ D e) : Bf w D q a len t (k + 1) := by
  obtain ⟨⟨a1, a2, a3, a4⟩, b, c, d, e, f, g, i, j⟩ := h
  refine ⟨⟨a1, a2, by omega, a4⟩, b, c, d, e, f, g, fun _ k' hk' x hx hw => ?_, j⟩
  by_cases q1 : k' = k
  · subst q1; exact hs x hx hw
  · exact i ht k' (by omega) x hx hw
theorem bf_exact {w D q : Nat → Int} {a len t k x : Nat} (h : Bf w D q a len t k) (ht : t < len) (hk : k < 4) (hx : nb (q t) k = x) (hw : w x ≠ 1) (hD : D x < 0) : x < 120 ∧ dst w a x = D (q t).toNat + 1 ∧ len < 120 := by
  obtain ⟨⟨a1, a2, a3, a4⟩, b, c, d, e, f, g, i, j⟩ := h
  obtain ⟨ct, t1, t2, t3, t4, t5⟩ := b t ht
  have hadj : adj ct x := ⟨k, hk, by rw [← t1]; exact hx⟩
  have x1 := adj_lt t2 hadj
  have s1 := dst_step t5 hadj hw
  have hqt : (q t).toNat = ct := by rw [t1]; simp
  have hnv : ∀ i0, i0 < len → q i0 ≠ x := fun i0 hi0 z => by
    obtain ⟨c0, u1, u2, u3, u4, u5⟩ := b i0 hi0
    have : c0 = x := by omega
    subst this
    omega
  refine ⟨x1, ?_, ?_⟩
  · rw [hqt, t4]
    by_cases z : dst w a x = dst w a ct + 1
    · exact z
    · exfalso
      have x0 : 0 < dst w a x := by
        by_cases y : dst w a x = 0
        · have := dst_zero y
          exact absurd (by rw [a4, this]) (hnv 0 a1)
        · omega
      obtain ⟨p, p1, p2⟩ := dst_pred x0
      have p3 : p < 120 := adj_lt x1 (adj_sym (by
        rcases Nat.lt_or_ge p 120 with w1 | w1
        · exact w1
        · exfalso
          have := pth_lt (w := w) (a := a) (by
            rcases b 0 a1 with ⟨c0, u1, u2, -⟩
            omega) (dst_pth (w := w) (a := a) (c := p) (by omega))
          omega) p1)
      obtain ⟨i0, i1, i2⟩ := j ht p p3 (by omega) (by rw [hqt, t4]; omega)
      have := g i0 i1 x (by rw [i2]; simpa using p1) hw
      omega
  · have := pig 120 (len + 1) (fun i => if i = len then x else (q i).toNat) (fun i0 hi0 => by
      show (if i0 = len then x else (q i0).toNat) < 120
      split
      · exact x1
      · obtain ⟨c0, u1, u2, -⟩ := b i0 (by omega)
        omega) (fun i0 j0 hi0 hj0 z => by
      have z : (if i0 = len then x else (q i0).toNat) = (if j0 = len then x else (q j0).toNat) := z
      split at z <;> split at z
      · omega
      · obtain ⟨c0, u1, u2, -⟩ := b j0 (by omega)
        exact absurd (by omega) (hnv j0 (by omega))
      · obtain ⟨c0, u1, u2, -⟩ := b i0 (by omega)
        exact absurd (by omega) (hnv i0 (by omega))
      · obtain ⟨c0, u1, u2, -⟩ := b i0 (by omega)
        obtain ⟨c1, v1, v2, -⟩ := b j0 (by omega)
        exact c i0 j0 (by omega) (by omega) (by omega))
    omega
theorem bf_add {w D q D' q' : Nat → Int} {a len t k x : Nat} (h : Bf w D q a len t k) (ht : t < len) (hk : k < 4) (hx : nb (q t) k = x) (hw : w x ≠ 1) (hD : D x < 0)
    (hD' : ∀ c : Nat, D' c = if c = x then D (q t).toNat + 1 else D c) (hq' : ∀ i, q' i = if i = len then (x : Int) else q i) : Bf w D' q' a (len + 1) t (k + 1) := by
  obtain ⟨x1, x2, x3⟩ := bf_exact h ht hk hx hw hD
  obtain ⟨⟨a1, a2, a3, a4⟩, b, c, d, e, f, g, i, j⟩ := h
  have hqo : ∀ i0, i0 < len → q' i0 = q i0 := fun i0 hi0 => by rw [hq', if_neg (by omega)]
  have hql : q' len = x := by rw [hq', if_pos rfl]
  have hnx : ∀ i0, i0 < len → (q i0).toNat ≠ x := fun i0 hi0 z => by
    obtain ⟨c0, u1, u2, u3, u4, u5⟩ := b i0 hi0
    have : c0 = x := by omega
    subst this
    omega
  have hDo : ∀ i0, i0 < len → D' (q i0).toNat = D (q i0).toNat := fun i0 hi0 => by rw [hD', if_neg (hnx i0 hi0)]
  have hDx : D' x = D (q t).toNat + 1 := by rw [hD', if_pos rfl]
  have hDm : ∀ y : Nat, 0 ≤ D y → 0 ≤ D' y := fun y hy => by
    rw [hD']
    split
    · obtain ⟨ct, t1, t2, t3, t4, t5⟩ := b t ht
      have : (q t).toNat = ct := by rw [t1]; simp
      rw [this]; omega
    · exact hy
  obtain ⟨ct, t1, t2, t3, t4, t5⟩ := b t ht
  have hqt : (q t).toNat = ct := by rw [t1]; simp
  refine ⟨⟨by omega, by omega, by omega, by rw [hqo 0 a1]; exact a4⟩, fun i0 hi0 => ?_, fun i0 j0 hi0 hj0 z => ?_, fun y hy hy2 => ?_, fun i0 j0 h1 h2 => ?_, fun _ j0 hj0 => ?_, fun i0 hi0 y hy hwy => ?_, fun _ k' hk' y hy hwy => ?_, fun _ y hy hy2 hy3 => ?_⟩
  · by_cases z : i0 = len
    · subst z
      exact ⟨x, hql, x1, hw, by rw [hDx, x2], by rw [x2, hqt]; omega⟩
    · obtain ⟨c0, u1, u2, u3, u4, u5⟩ := b i0 (by omega)
      have h9 := hDo i0 (by omega)
      have : (q i0).toNat = c0 := by rw [u1]; simp
      rw [this] at h9
      exact ⟨c0, by rw [hqo i0 (by omega)]; exact u1, u2, u3, by rw [h9]; exact u4, u5⟩
  · by_cases z1 : i0 = len <;> by_cases z2 : j0 = len
    · omega
    · subst z1
      rw [hql, hqo j0 (by omega)] at z
      exact absurd (by rw [← z]; simp) (hnx j0 (by omega))
    · subst z2
      rw [hql, hqo i0 (by omega)] at z
      exact absurd (by rw [z]; simp) (hnx i0 (by omega))
    · rw [hqo i0 (by omega), hqo j0 (by omega)] at z
      exact c i0 j0 (by omega) (by omega) z
  · by_cases z : y = x
    · subst z; exact ⟨len, by omega, hql⟩
    · rw [hD', if_neg z] at hy2
      obtain ⟨i0, h1, h2⟩ := d y hy hy2
      exact ⟨i0, by omega, by rw [hqo i0 h1]; exact h2⟩
  · by_cases z2 : j0 = len
    · subst z2
      rw [hql]
      simp only [Int.toNat_natCast]
      rw [hDx]
      by_cases z1 : i0 = j0
      · subst z1; rw [hql]; simp only [Int.toNat_natCast]; rw [hDx]; exact Int.le_refl _
      · rw [hqo i0 (by omega), hDo i0 (by omega)]
        exact f ht i0 (by omega)
    · rw [hqo i0 (by omega), hqo j0 (by omega), hDo i0 (by omega), hDo j0 (by omega)]
      exact e i0 j0 h1 (by omega)
  · rw [hqo t ht, hDo t ht]
    by_cases z2 : j0 = len
    · subst z2
      rw [hql]
      simp only [Int.toNat_natCast]
      rw [hDx]; exact Int.le_refl _
    · rw [hqo j0 (by omega), hDo j0 (by omega)]
      exact f ht j0 (by omega)
  · rw [hqo i0 (by omega)] at hy
    exact hDm y (g i0 hi0 y hy hwy)
  · rw [hqo t ht] at hy
    by_cases z : k' = k
    · subst z
      have : y = x := by omega
      subst this
      rw [hDx, hqt]; omega
    · exact hDm y (i ht k' (by omega) y hy hwy)
  · rw [hqo t ht, hDo t ht] at hy3
    obtain ⟨i0, h1, h2⟩ := j ht y hy hy2 hy3
    exact ⟨i0, h1, by rw [hqo i0 (by omega)]; exact h2⟩
theorem bf_next {w D q : Nat → Int} {a len t : Nat} (h : Bf w D q a len t 4) (ht : t < len) : Bf w D q a len (t + 1) 0 := by
  obtain ⟨⟨a1, a2, a3, a4⟩, b, c, d, e, f, g, i, j⟩ := h
  obtain ⟨ct, t1, t2, t3, t4, t5⟩ := b t ht
  have hqt : (q t).toNat = ct := by rw [t1]; simp
  have g' : ∀ i, i < t + 1 → ∀ e : Nat, adj (q i).toNat e → w e ≠ 1 → 0 ≤ D e := by
    intro i0 hi0 y hy hw
    by_cases z : i0 = t
    · subst z
      obtain ⟨k, hk, hk2⟩ := hy
      exact i ht k hk y (by rw [← hk2, hqt, t1]) hw
    · exact g i0 (by omega) y hy hw
  refine ⟨⟨a1, by omega, by omega, a4⟩, b, c, d, e, fun h1 j0 hj0 => ?_, g', fun _ k hk => by omega, fun h1 y hy hy2 hy3 => ?_⟩
  · have h2 := f ht j0 hj0
    have h3 := e t (t + 1) (by omega) h1
    omega
  · have h3 := f ht (t + 1) h1
    have visit : ∃ i0, i0 < len ∧ q i0 = y := by
      by_cases z : dst w a y < D (q t).toNat
      · obtain ⟨i0, u1, u2⟩ := j ht y hy hy2 z
        exact ⟨i0, by omega, u2⟩
      · by_cases z0 : dst w a y = 0
        · exact ⟨0, a1, by rw [a4, dst_zero z0]⟩
        · obtain ⟨p, p1, p2⟩ := dst_pred (w := w) (a := a) (c := y) (by omega)
          have hal : a < 120 := by
            rcases b 0 a1 with ⟨c0, u1, u2, -⟩
            omega
          have p3 : p < 120 := pth_lt hal (dst_pth (w := w) (a := a) (c := p) (by omega))
          obtain ⟨i0, u1, u2⟩ := j ht p p3 (by omega) (by omega)
          have hwy : w y ≠ 1 := (pth_wall (dst_pth hy2)).2
          exact d y hy (g i0 u1 y (by rw [u2]; simpa using p1) hwy)
    obtain ⟨i0, u1, u2⟩ := visit
    refine ⟨i0, ?_, u2⟩
    rcases Nat.lt_or_ge i0 (t + 1) with z | z
    · exact z
    · exfalso
      have h4 := e (t + 1) i0 z u1
      obtain ⟨c0, v1, v2, v3, v4, v5⟩ := b i0 u1
      have : c0 = y := by omega
      subst this
      rw [u2] at h4
      simp only [Int.toNat_natCast] at h4
      omega
theorem bf_done {w D q : Nat → Int} {a len : Nat} (h : Bf w D q a len len 0) : ∀ c : Nat, c < 120 → (0 ≤ D c → D c = dst w a c) ∧ (D c < 0 → dst w a c = -1) := by
  obtain ⟨⟨a1, a2, a3, a4⟩, b, c, d, e, f, g, i, j⟩ := h
  have hal : a < 120 := by
    rcases b 0 a1 with ⟨c0, u1, u2, -⟩
    omega
  have reach : ∀ n : Nat, ∀ c : Nat, c < 120 → dst w a c = n → 0 ≤ D c := by
    intro n
    induction n with
    | zero =>
      intro c hc h0
      have := dst_zero h0
      subst this
      obtain ⟨c0, u1, u2, u3, u4, u5⟩ := b 0 a1
      have : c0 = c := by omega
      subst this
      omega
    | succ n ih =>
      intro c hc h0
      obtain ⟨p, p1, p2⟩ := dst_pred (w := w) (a := a) (c := c) (by omega)
      have p3 : p < 120 := pth_lt hal (dst_pth (w := w) (a := a) (c := p) (by omega))
      have p4 := ih p p3 (by omega)
      obtain ⟨i0, u1, u2⟩ := d p p3 p4
      have hwc : w c ≠ 1 := (pth_wall (dst_pth (w := w) (a := a) (c := c) (by omega))).2
      exact g i0 u1 c (by rw [u2]; simpa using p1) hwc
  intro c0 hc
  refine ⟨fun h => ?_, fun h => ?_⟩
  · obtain ⟨i0, u1, u2⟩ := d c0 hc h
    obtain ⟨c1, v1, v2, v3, v4, v5⟩ := b i0 u1
    have : c1 = c0 := by omega
    subst this
    exact v4
  · rcases Int.lt_or_le (dst w a c0) 0 with z | z
    · have := dst_rng w a c0
      omega
    · have := reach (dst w a c0).toNat c0 hc (by omega)
      omega
