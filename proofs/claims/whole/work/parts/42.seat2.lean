/-! ### the end of the search: columns change hands along the way back -/
def AU (Ns N : zM) (n ρ jf c idx t : Nat) (cs : Nat → Nat) : Prop :=
  (∀ b, b ≠ 235 → N b = Ns b) ∧ (c ≤ n ∧ idx ≤ t ∧ (c ≠ 0 → 0 < idx) ∧ ((idx < t ∧ c = cs idx) ∨ (idx = t ∧ c = jf))) ∧
  (∀ e : Nat, e ≤ n → 0 ≤ N 235 e ∧ N 235 e ≤ ρ) ∧
  (∀ i : Nat, 1 ≤ i → i ≤ ρ → ∃ e : Nat, e ≤ n ∧ e ≠ c ∧ N 235 e = i) ∧
  (∀ e f : Nat, e ≤ n → f ≤ n → e ≠ c → f ≠ c → N 235 e ≠ 0 → N 235 e = N 235 f → e = f) ∧
  (∀ e i : Nat, 1 ≤ i → 1 ≤ e → e ≤ n → e ≠ c → N 235 e = i → Ns 236 i + Ns 237 e = Ns (240 + i) e) ∧
  (∀ k, k < idx → N 235 (cs k) = Ns 235 (cs k)) ∧
  (∀ e : Nat, 1 ≤ e → e ≤ n → e ≠ c → N 235 e = 0 → Ns 237 e = 0)
theorem AU_init {M Ns : zM} {n ρ jf t : Nat} {cs : Nat → Nat} (h : HT M Ns n ρ jf t cs) (hρ1 : 1 ≤ ρ) (hr : ∀ c : Nat, 1 ≤ c → c ≤ n → 0 ≤ Ns 235 c ∧ Ns 235 c < ρ) (hi : ∀ c e : Nat, 1 ≤ c → c ≤ n → 1 ≤ e → e ≤ n → Ns 235 c ≠ 0 → Ns 235 c = Ns 235 e → c = e)
    (hc : ∀ i : Nat, 1 ≤ i → i < ρ → ∃ c : Nat, 1 ≤ c ∧ c ≤ n ∧ Ns 235 c = i) (hj : Ns 235 jf = 0) : AU Ns Ns n ρ jf jf t t cs := by
  obtain ⟨ha, ⟨hb0, hb1⟩, h3, hd, he, hf, ⟨hg1, hg2, hg3, hg4⟩, ⟨hj1, hj2, hj3, hj4⟩, hw, hwj, hs0, hs1⟩ := h
  have ht : 0 < t := by
    rcases Nat.lt_or_ge 0 t with z | z
    · exact z
    · exfalso
      have : t = 0 := by omega
      have := hj3 this
      rw [this, hb0] at hj
      omega
  refine ⟨fun _ _ => rfl, ⟨hj2, Nat.le_refl t, fun _ => ht, Or.inr ⟨rfl, rfl⟩⟩, fun e e1 => ?_, fun i i1 i2 => ?_, fun e f e1 f1 e2 f2 e3 e4 => ?_, fun e i i1 e1 e2 _ e4 => hd i e i1 e1 e2 e4, fun _ _ => rfl, fun e e1 e2 _ e4 => (he e e1 e2).2 e4⟩
  · by_cases z : e = 0
    · subst z; rw [hb0]; omega
    · have := hr e (by omega) e1; omega
  · by_cases z : i = ρ
    · subst z
      exact ⟨0, by omega, fun w => by have := (hj4 ht).2; omega, hb0⟩
    · obtain ⟨c, c1, c2, c3⟩ := hc i i1 (by omega)
      exact ⟨c, c2, fun w => by rw [w, hj] at c3; omega, c3⟩
  · by_cases z1 : e = 0 <;> by_cases z2 : f = 0
    · omega
    · subst z1
      have := hr f (by omega) f1
      omega
    · subst z2
      have := hr e (by omega) e1
      omega
    · exact hi e f (by omega) e1 (by omega) f1 e3 e4
theorem AU_step {M Ns N : zM} {n ρ jf c idx t : Nat} {cs : Nat → Nat} (h : HT M Ns n ρ jf t cs) (hA : AU Ns N n ρ jf c idx t cs) (hc0 : c ≠ 0) (hρ : ρ < 10) (hr : ∀ c : Nat, 1 ≤ c → c ≤ n → 0 ≤ Ns 235 c ∧ Ns 235 c < ρ) (hρ1 : 1 ≤ ρ) :
    ∃ k, k < idx ∧ N 239 c = cs k ∧ cs k ≤ n ∧ AU Ns (zup N 235 c (N 235 (cs k))) n ρ jf (cs k) k t cs := by
  obtain ⟨ha, ⟨hb0, hb1⟩, h3, hd, he, hf, ⟨hg1, hg2, hg3, hg4⟩, ⟨hj1, hj2, hj3, hj4⟩, hw, hwj, hs0, hs1⟩ := h
  obtain ⟨a1, ⟨a2, a3, a4, a5⟩, a6, a7, a8, a9, a10, a11⟩ := hA
  have hid := a4 hc0
  obtain ⟨k, k1, k2, k3⟩ : ∃ k, k < idx ∧ Ns 239 c = cs k ∧ Ns 236 (Ns 235 (cs k)).toNat + Ns 237 c = Ns (240 + (Ns 235 (cs k)).toNat) c := by
    rcases a5 with ⟨q1, q2⟩ | ⟨q1, q2⟩
    · rw [q2]; exact hw idx hid q1
    · rw [q2, q1]; exact hwj (by omega)
  have kt : k < t := by omega
  obtain ⟨c1, c2⟩ := hg3 k kt
  have hck : cs k ≠ c := fun z => by
    rcases a5 with ⟨q1, q2⟩ | ⟨q1, q2⟩
    · have := hg4 k idx kt q1 (by rw [z, q2]); omega
    · have := (hg2 (cs k) c1).mpr ⟨k, kt, rfl⟩
      rw [z, q2, hj1] at this; omega
  have hNk : N 235 (cs k) = Ns 235 (cs k) := a10 k k1
  have zs : ∀ e : Nat, e ≠ c → zup N 235 c (N 235 (cs k)) 235 e = N 235 e := fun e he => by simp [zup, he]
  have zc : zup N 235 c (N 235 (cs k)) 235 c = N 235 (cs k) := by simp [zup]
  have hpk : 1 ≤ (Ns 235 (cs k)).toNat ∧ Ns 235 (cs k) = ((Ns 235 (cs k)).toNat : Int) := by
    have := a6 (cs k) c1
    rw [hNk] at this
    omega
  refine ⟨k, k1, by rw [a1 239 (by omega)]; exact k2, c1, fun b hb => by rw [zup_ne _ _ _ hb]; exact a1 b hb, ⟨c1, by omega, fun z => ?_, Or.inl ⟨kt, rfl⟩⟩, fun e e1 => ?_, fun i i1 i2 => ?_, fun e f e1 f1 e2 f2 e3 e4 => ?_, fun e i i1 e1 e2 e3 e4 => ?_, fun k' k1' => ?_, fun e e1 e2 e3 e4 => ?_⟩
  · rcases Nat.lt_or_ge 0 k with y | y
    · exact y
    · exfalso
      have : k = 0 := by omega
      subst this
      exact z (hj4 (by omega)).1
  · by_cases z : e = c
    · subst z; rw [zc]; exact a6 _ c1
    · rw [zs e z]; exact a6 e e1
  · obtain ⟨e, e1, e2, e3⟩ := a7 i i1 i2
    by_cases z : e = cs k
    · exact ⟨c, a2, fun w => hck w.symm, by rw [zc, ← z]; exact e3⟩
    · exact ⟨e, e1, z, by rw [zs e e2]; exact e3⟩
  · by_cases z1 : e = c <;> by_cases z2 : f = c
    · omega
    · subst z1
      rw [zc] at e3 e4
      rw [zs f z2] at e4
      exact absurd (a8 (cs k) f c1 f1 hck z2 e3 e4).symm f2
    · subst z2
      rw [zs e z1] at e3 e4
      rw [zc] at e4
      exact absurd (a8 e (cs k) e1 c1 z1 hck e3 e4) e2
    · rw [zs e z1] at e3 e4
      rw [zs f z2] at e4
      exact a8 e f e1 f1 z1 z2 e3 e4
  · by_cases z : e = c
    · subst z
      rw [zc, hNk] at e4
      have : (Ns 235 (cs k)).toNat = i := by rw [e4]; simp
      rw [this] at k3
      exact k3
    · rw [zs e z] at e4
      exact a9 e i i1 e1 e2 z e4
  · by_cases z : cs k' = c
    · exfalso
      rcases a5 with ⟨q1, q2⟩ | ⟨q1, q2⟩
      · have := hg4 k' idx (by omega) q1 (by rw [z, q2]); omega
      · have := (hg2 (cs k') (hg3 k' (by omega)).1).mpr ⟨k', by omega, rfl⟩
        rw [z, q2, hj1] at this; omega
    · rw [zs _ z]; exact a10 k' (by omega)
  · by_cases z : e = c
    · subst z
      rw [zc, hNk] at e4
      omega
    · rw [zs e z] at e4
      exact a11 e e1 e2 z e4
theorem AU_end {M Ns N : zM} {n ρ jf idx t : Nat} {cs : Nat → Nat} (h : HT M Ns n ρ jf t cs) (hA : AU Ns N n ρ jf 0 idx t cs) : HM N n ρ := by
  obtain ⟨ha, ⟨hb0, hb1⟩, h3, hd, he, hf, -⟩ := h
  obtain ⟨a1, -, a6, a7, a8, a9, a10, a11⟩ := hA
  have e6 := a1 236 (by omega)
  have e7 := a1 237 (by omega)
  have e4 : ∀ i : Nat, N (240 + i) = Ns (240 + i) := fun i => a1 _ (by omega)
  refine ⟨fun c c1 c2 => a6 c c2, fun c e c1 c2 d1 d2 hz hq => a8 c e c2 d2 (by omega) (by omega) hz hq, fun i i1 i2 => ?_, fun i c i1 i2 c1 c2 => ?_, fun i c i1 c1 c2 hp => ?_, fun c c1 c2 => ⟨by rw [e7]; exact (he c c1 c2).1, fun hp => by rw [e7]; exact a11 c c1 c2 (by omega) hp⟩, fun i i1 i2 => by rw [e6]; exact hf i i1 i2⟩
  · obtain ⟨e, e1, e2, e3⟩ := a7 i i1 i2
    exact ⟨e, by omega, e1, e3⟩
  · rw [e6, e7, e4]; exact h3 i c i1 i2 c1 c2
  · rw [e6, e7, e4]; exact a9 c i i1 c1 c2 (by omega) hp
