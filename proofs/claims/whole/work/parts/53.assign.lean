/-! ### assignments: which slot each member is given; the best one -/
/-- the worth of a choice, 0 where it can't be made -/
noncomputable def wo (S : zM) (m s : Nat) : Int := if isF S m = true ∧ isO S s = true ∧ 0 ≤ dm S m s then 10000 - dm S m s else 0
def Fe (w : Nat → Nat → Int) (n : Nat) (t : Nat → Int) : Prop := (∀ m : Nat, m < 10 → t m = -1 ∨ ∃ s : Nat, t m = s ∧ s < n ∧ 0 < w m s) ∧ ∀ m k : Nat, m < 10 → k < 10 → 0 ≤ t m → t m = t k → m = k
def vl (w : Nat → Nat → Int) (t : Nat → Int) (m : Nat) : Int := if t m < 0 then 0 else w m (t m).toNat
def BestT (w : Nat → Nat → Int) (n : Nat) (t : Nat → Int) : Prop := Fe w n t ∧ ∀ u, Fe w n u → smN (vl w u) 10 ≤ smN (vl w t) 10 ∧ (smN (vl w u) 10 = smN (vl w t) 10 → ∀ m : Nat, m < 10 → (∀ j, j < m → u j = t j) → u m ≠ t m → 0 ≤ t m ∧ (0 ≤ u m → t m < u m))
/-- the best of a member's choices among the first s slots of a set -/
def bsl (w : Nat → Nat → Int) (prev : Nat → Int) (m set : Nat) : Nat → Int
  | 0 => prev set
  | s + 1 => if set.testBit s = true ∧ w m s ≠ 0 ∧ w m s + prev (set ^^^ 2 ^ s) > bsl w prev m set s then w m s + prev (set ^^^ 2 ^ s) else bsl w prev m set s
/-- the best of the last j members -/
def bst (w : Nat → Nat → Int) (n : Nat) : Nat → Nat → Int
  | 0, _ => 0
  | j + 1, set => bsl w (bst w n j) (9 - j) set n
theorem bsl_ge {w : Nat → Nat → Int} {prev : Nat → Int} {m set : Nat} : ∀ s : Nat, prev set ≤ bsl w prev m set s ∧ ∀ r, r < s → set.testBit r = true → w m r ≠ 0 → w m r + prev (set ^^^ 2 ^ r) ≤ bsl w prev m set s
  | 0 => ⟨Int.le_refl _, fun r hr => absurd hr (Nat.not_lt_zero r)⟩
  | s + 1 => by
    obtain ⟨h1, h2⟩ := bsl_ge (w := w) (prev := prev) (m := m) (set := set) s
    unfold bsl
    split
    · rename_i h
      refine ⟨by omega, fun r hr h3 h4 => ?_⟩
      by_cases z : r = s
      · subst z; exact Int.le_refl _
      · have := h2 r (by omega) h3 h4; omega
    · rename_i h
      refine ⟨h1, fun r hr h3 h4 => ?_⟩
      by_cases z : r = s
      · subst z
        by_cases y : w m r + prev (set ^^^ 2 ^ r) > bsl w prev m set r
        · exact absurd ⟨h3, h4, y⟩ h
        · omega
      · exact h2 r (by omega) h3 h4
theorem bsl_at {w : Nat → Nat → Int} {prev : Nat → Int} {m set : Nat} : ∀ s : Nat, bsl w prev m set s = prev set ∨ ∃ r, r < s ∧ set.testBit r = true ∧ w m r ≠ 0 ∧ bsl w prev m set s = w m r + prev (set ^^^ 2 ^ r)
  | 0 => Or.inl rfl
  | s + 1 => by
    unfold bsl
    split
    · rename_i h
      exact Or.inr ⟨s, by omega, h.1, h.2.1, rfl⟩
    · rcases bsl_at (w := w) (prev := prev) (m := m) (set := set) s with h | ⟨r, h1, h2⟩
      · exact Or.inl h
      · exact Or.inr ⟨r, by omega, h2⟩
def tls (f : Nat → Int) : Nat → Int
  | 0 => 0
  | j + 1 => f (9 - j) + tls f j
theorem tls_sm (f : Nat → Int) : ∀ j : Nat, j ≤ 10 → smN f (10 - j) + tls f j = smN f 10
  | 0, _ => by simp [tls]
  | j + 1, h => by
    have h1 := tls_sm f j (by omega)
    have h2 : 10 - j = (10 - (j + 1)) + 1 := by omega
    have h3 : 10 - (j + 1) = 9 - j := by omega
    rw [h2, h3] at h1
    rw [h3]
    have h4 : smN f (9 - j + 1) = smN f (9 - j) + f (9 - j) := rfl
    unfold tls
    omega
theorem tls_10 (f : Nat → Int) : tls f 10 = smN f 10 := by
  have := tls_sm f 10 (by omega)
  simpa [smN] using this
/-- slots of the last j members are of a set, each once -/
def Ft (w : Nat → Nat → Int) (n : Nat) (set : Nat) (t : Nat → Int) (j : Nat) : Prop :=
  (∀ m : Nat, 10 - j ≤ m → m < 10 → t m = -1 ∨ ∃ s : Nat, t m = s ∧ s < n ∧ 0 < w m s ∧ set.testBit s = true) ∧ ∀ m k : Nat, 10 - j ≤ m → m < 10 → 10 - j ≤ k → k < 10 → 0 ≤ t m → t m = t k → m = k
theorem tb_rm {set s r : Nat} (h : set.testBit s = true) : (set ^^^ 2 ^ s).testBit r = (set.testBit r && decide (r ≠ s)) := by
  rw [Nat.testBit_xor, Nat.testBit_two_pow]
  by_cases z : r = s
  · subst z; simp [h]
  · have : ¬ s = r := fun q => z q.symm
    simp [z, this]
theorem Ft_none {w : Nat → Nat → Int} {n set j : Nat} {t : Nat → Int} (h : Ft w n set t (j + 1)) : Ft w n set t j :=
  ⟨fun m m1 m2 => h.1 m (by omega) m2, fun m k m1 m2 k1 k2 => h.2 m k (by omega) m2 (by omega) k2⟩
theorem Ft_some {w : Nat → Nat → Int} {n set j s : Nat} {t : Nat → Int} (hj : j < 10) (h : Ft w n set t (j + 1)) (hs : t (9 - j) = s) (hb : set.testBit s = true) : Ft w n (set ^^^ 2 ^ s) t j := by
  refine ⟨fun m m1 m2 => ?_, fun m k m1 m2 k1 k2 => h.2 m k (by omega) m2 (by omega) k2⟩
  rcases h.1 m (by omega) m2 with q | ⟨r, q1, q2, q3, q4⟩
  · exact Or.inl q
  · refine Or.inr ⟨r, q1, q2, q3, ?_⟩
    rw [tb_rm hb, q4]
    have : r ≠ s := fun z => by
      subst z
      have := h.2 m (9 - j) (by omega) m2 (by omega) (by omega) (by omega) (by rw [q1, hs])
      omega
    simp [this]
theorem bst_up {w : Nat → Nat → Int} {n : Nat} : ∀ (j : Nat) (set : Nat) (u : Nat → Int), j ≤ 10 → Ft w n set u j → tls (vl w u) j ≤ bst w n j set
  | 0, _, _, _, _ => Int.le_refl _
  | j + 1, set, u, hj, h => by
    unfold tls bst
    obtain ⟨g1, g2⟩ := bsl_ge (w := w) (prev := bst w n j) (m := 9 - j) (set := set) n
    rcases h.1 (9 - j) (by omega) (by omega) with q | ⟨s, q1, q2, q3, q4⟩
    · have := bst_up j set u (by omega) (Ft_none h)
      have e : vl w u (9 - j) = 0 := by unfold vl; rw [if_pos (by omega)]
      omega
    · have h3 := bst_up j _ u (by omega) (Ft_some (by omega) h q1 q4)
      have h4 := g2 s q2 q4 (by omega)
      have e : vl w u (9 - j) = w (9 - j) s := by unfold vl; rw [if_neg (by omega), q1, Int.toNat_natCast]
      omega
/-- the least row that reaches the best -/
def GR (w : Nat → Nat → Int) (n : Nat) : Nat → Nat → (Nat → Int) → Prop
  | 0, _, _ => True
  | j + 1, set, t => (t (9 - j) = -1 ∧ (∀ r, r < n → set.testBit r = true → w (9 - j) r ≠ 0 → w (9 - j) r + bst w n j (set ^^^ 2 ^ r) ≠ bst w n (j + 1) set) ∧ GR w n j set t) ∨
    ∃ s : Nat, t (9 - j) = s ∧ s < n ∧ set.testBit s = true ∧ w (9 - j) s ≠ 0 ∧ w (9 - j) s + bst w n j (set ^^^ 2 ^ s) = bst w n (j + 1) set ∧ (∀ r, r < s → set.testBit r = true → w (9 - j) r ≠ 0 → w (9 - j) r + bst w n j (set ^^^ 2 ^ r) ≠ bst w n (j + 1) set) ∧ GR w n j (set ^^^ 2 ^ s) t
theorem GR_val {w : Nat → Nat → Int} {n : Nat} (hw : ∀ m s, 0 ≤ w m s) : ∀ (j set : Nat) (t : Nat → Int), j ≤ 10 → GR w n j set t → tls (vl w t) j = bst w n j set ∧ Ft w n set t j
  | 0, _, _, _, _ => ⟨rfl, fun m m1 m2 => by omega, fun m k m1 m2 => by omega⟩
  | j + 1, set, t, hj, h => by
    rcases h with ⟨h1, h2, h3⟩ | ⟨s, h1, h2, h3, h4, h5, h6, h7⟩
    · obtain ⟨g1, g2⟩ := GR_val hw j set t (by omega) h3
      have e : vl w t (9 - j) = 0 := by unfold vl; rw [if_pos (by omega)]
      refine ⟨?_, fun m m1 m2 => ?_, fun m k m1 m2 k1 k2 t1 t2 => ?_⟩
      · unfold tls
        rw [e, g1]
        rcases bsl_at (w := w) (prev := bst w n j) (m := 9 - j) (set := set) n with q | ⟨r, r1, r2, r3, r4⟩
        · show 0 + bst w n j set = bsl w (bst w n j) (9 - j) set n
          omega
        · exact absurd r4.symm (h2 r r1 r2 r3)
      · by_cases z : m = 9 - j
        · subst z; exact Or.inl h1
        · exact g2.1 m (by omega) m2
      · have z1 : m ≠ 9 - j := fun z => by subst z; omega
        have z2 : k ≠ 9 - j := fun z => by subst z; omega
        exact g2.2 m k (by omega) m2 (by omega) k2 t1 t2
    · obtain ⟨g1, g2⟩ := GR_val hw j (set ^^^ 2 ^ s) t (by omega) h7
      have e : vl w t (9 - j) = w (9 - j) s := by unfold vl; rw [if_neg (by omega), h1, Int.toNat_natCast]
      have off : ∀ m : Nat, 10 - j ≤ m → m < 10 → t m ≠ t (9 - j) := fun m m1 m2 q => by
        rcases g2.1 m m1 m2 with y | ⟨r, y1, y2, y3, y4⟩
        · omega
        · have : r = s := by omega
          subst this
          rw [tb_rm h3] at y4
          simp at y4
      refine ⟨?_, fun m m1 m2 => ?_, fun m k m1 m2 k1 k2 t1 t2 => ?_⟩
      · unfold tls
        omega
      · by_cases z : m = 9 - j
        · subst z
          have := hw (9 - j) s
          exact Or.inr ⟨s, h1, h2, by omega, h3⟩
        · rcases g2.1 m (by omega) m2 with y | ⟨r, y1, y2, y3, y4⟩
          · exact Or.inl y
          · rw [tb_rm h3] at y4
            refine Or.inr ⟨r, y1, y2, y3, ?_⟩
            simp at y4
            exact y4.1
      · by_cases z1 : m = 9 - j
        · by_cases z2 : k = 9 - j
          · omega
          · exact absurd (by rw [← t2, z1]) (off k (by omega) k2)
        · by_cases z2 : k = 9 - j
          · exact absurd (by rw [t2, z2]) (off m (by omega) m2)
          · exact g2.2 m k (by omega) m2 (by omega) k2 t1 t2
theorem GR_lex {w : Nat → Nat → Int} {n : Nat} (hw : ∀ m s, 0 ≤ w m s) : ∀ (j set : Nat) (t u : Nat → Int), j ≤ 10 → GR w n j set t → Ft w n set u j → tls (vl w u) j = tls (vl w t) j → ∀ m : Nat, 10 - j ≤ m → m < 10 → (∀ i, 10 - j ≤ i → i < m → u i = t i) → u m ≠ t m → 0 ≤ t m ∧ (0 ≤ u m → t m < u m)
  | 0, _, _, _, _, _, _, _ => fun m m1 m2 => by omega
  | j + 1, set, t, u, hj, h, hu, he => fun m m1 m2 ha hne => by
    have hv := (GR_val hw (j + 1) set t hj h).1
    by_cases z : m = 9 - j
    · subst z
      rcases hu.1 (9 - j) (by omega) (by omega) with q | ⟨r, q1, q2, q3, q4⟩
      · rcases h with ⟨h1, -⟩ | ⟨s, h1, -⟩
        · exact absurd (q.trans h1.symm) hne
        · exact ⟨by omega, fun y => by omega⟩
      · -- u's choice reaches the best as well
        have e : vl w u (9 - j) = w (9 - j) r := by unfold vl; rw [if_neg (by omega), q1, Int.toNat_natCast]
        have h3 := bst_up j _ u (by omega) (Ft_some (by omega) hu q1 q4)
        have h4 := (bsl_ge (w := w) (prev := bst w n j) (m := 9 - j) (set := set) n).2 r q2 q4 (by omega)
        have h5 : bst w n (j + 1) set = bsl w (bst w n j) (9 - j) set n := rfl
        have h6 : tls (vl w u) (j + 1) = vl w u (9 - j) + tls (vl w u) j := rfl
        have h7 : w (9 - j) r + bst w n j (set ^^^ 2 ^ r) = bst w n (j + 1) set := by omega
        rcases h with ⟨h1, h2, -⟩ | ⟨s, h1, -, -, -, -, h2, -⟩
        · exact absurd h7 (h2 r q2 q4 (by omega))
        · refine ⟨by omega, fun _ => ?_⟩
          have h8 : ¬ r < s := fun y => h2 r y q4 (by omega) h7
          have h9 : r ≠ s := fun y => hne (by rw [q1, h1, y])
          omega
    · have h0 := ha (9 - j) (by omega) (by omega)
      have e : vl w u (9 - j) = vl w t (9 - j) := by unfold vl; rw [h0]
      have he2 : tls (vl w u) j = tls (vl w t) j := by
        unfold tls at he
        omega
      rcases h with ⟨h1, h2, h3⟩ | ⟨s, h1, h2, h3, h4, h5, h6, h7⟩
      · exact GR_lex hw j set t u (by omega) h3 (Ft_none hu) he2 m (by omega) m2 (fun i i1 i2 => ha i (by omega) i2) hne
      · exact GR_lex hw j _ t u (by omega) h7 (Ft_some (by omega) hu (by rw [h0, h1]) h3) he2 m (by omega) m2 (fun i i1 i2 => ha i (by omega) i2) hne
theorem GR_best {w : Nat → Nat → Int} {n set : Nat} {t : Nat → Int} (hw : ∀ m s, 0 ≤ w m s) (hset : ∀ m s : Nat, m < 10 → s < n → 0 < w m s → set.testBit s = true) (h : GR w n 10 set t) : BestT w n t := by
  obtain ⟨h1, h2⟩ := GR_val hw 10 set t (by omega) h
  have hF : ∀ u, Fe w n u → Ft w n set u 10 := fun u hu => ⟨fun m m1 m2 => by
    rcases hu.1 m m2 with q | ⟨s, q1, q2, q3⟩
    · exact Or.inl q
    · exact Or.inr ⟨s, q1, q2, q3, hset m s m2 q2 q3⟩, fun m k m1 m2 k1 k2 => hu.2 m k m2 k2⟩
  refine ⟨⟨fun m m2 => ?_, fun m k m2 k2 => h2.2 m k (by omega) m2 (by omega) k2⟩, fun u hu => ⟨?_, fun he => ?_⟩⟩
  · rcases h2.1 m (by omega) m2 with q | ⟨s, q1, q2, q3, q4⟩
    · exact Or.inl q
    · exact Or.inr ⟨s, q1, q2, q3⟩
  · have := bst_up 10 set u (by omega) (hF u hu)
    rw [← tls_10, ← tls_10]
    omega
  · rw [← tls_10, ← tls_10] at he
    intro m m2 ha
    exact GR_lex hw 10 set t u (by omega) h (hF u hu) he m (by omega) m2 (fun i i1 i2 => ha i i2)
