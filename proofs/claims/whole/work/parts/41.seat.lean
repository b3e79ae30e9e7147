/-! ### Match.seat: a row finds its column -/
/-- rows 1 to r have columns of their own among 1 to n, at prices that the shares tell to be least -/
def HM (M : zM) (n r : Nat) : Prop :=
  (∀ c : Nat, 1 ≤ c → c ≤ n → 0 ≤ M 235 c ∧ M 235 c ≤ r) ∧
  (∀ c e : Nat, 1 ≤ c → c ≤ n → 1 ≤ e → e ≤ n → M 235 c ≠ 0 → M 235 c = M 235 e → c = e) ∧
  (∀ i : Nat, 1 ≤ i → i ≤ r → ∃ c : Nat, 1 ≤ c ∧ c ≤ n ∧ M 235 c = i) ∧
  (∀ i c : Nat, 1 ≤ i → i ≤ r → 1 ≤ c → c ≤ n → M 236 i + M 237 c ≤ M (240 + i) c) ∧
  (∀ i c : Nat, 1 ≤ i → 1 ≤ c → c ≤ n → M 235 c = i → M 236 i + M 237 c = M (240 + i) c) ∧
  (∀ c : Nat, 1 ≤ c → c ≤ n → M 237 c ≤ 0 ∧ (M 235 c = 0 → M 237 c = 0)) ∧
  (∀ i : Nat, 1 ≤ i → i < 10 → 0 ≤ M 236 i ∧ (r < i → M 236 i = 0))
/-- prices are right: none below 0, none above 2 to the power of 50 -/
def Pr (M : zM) (n k : Nat) : Prop := ∀ i c : Nat, 1 ≤ i → i ≤ k → 1 ≤ c → c ≤ n → 0 ≤ M (240 + i) c ∧ M (240 + i) c ≤ 1125899906842624
theorem HM_free {M : zM} {n r : Nat} (h : HM M n r) (hr : r < n) : ∃ f : Nat, 1 ≤ f ∧ f ≤ n ∧ M 235 f = 0 := by
  by_cases q : ∃ f : Nat, 1 ≤ f ∧ f ≤ n ∧ M 235 f = 0
  · exact q
  · exfalso
    have hz : ∀ c : Nat, 1 ≤ c → c ≤ n → M 235 c ≠ 0 := fun c h1 h2 z => q ⟨c, h1, h2, z⟩
    have := pig r n (fun i => (M 235 (i + 1)).toNat - 1) (fun i hi => by
      have h1 := h.1 (i + 1) (by omega) (by omega)
      have h2 := hz (i + 1) (by omega) (by omega)
      show (M 235 (i + 1)).toNat - 1 < r
      omega) (fun i j hi hj e => by
      have e : (M 235 (i + 1)).toNat - 1 = (M 235 (j + 1)).toNat - 1 := e
      have h1 := h.1 (i + 1) (by omega) (by omega)
      have h2 := hz (i + 1) (by omega) (by omega)
      have h3 := h.1 (j + 1) (by omega) (by omega)
      have h4 := hz (j + 1) (by omega) (by omega)
      have := h.2.1 (i + 1) (j + 1) (by omega) (by omega) (by omega) (by omega) h2 (by omega)
      omega)
    omega
/-- the search under way for row ρ: t columns cs 0, cs 1 .. are reached, j is next -/
def HT (M N : zM) (n ρ j t : Nat) (cs : Nat → Nat) : Prop :=
  (∀ b, b ≠ 235 → b ≠ 236 → b ≠ 237 → b ≠ 238 → b ≠ 239 → b ≠ 250 → N b = M b) ∧
  (N 235 0 = ρ ∧ ∀ c : Nat, 1 ≤ c → N 235 c = M 235 c) ∧
  (∀ i c : Nat, 1 ≤ i → i ≤ ρ → 1 ≤ c → c ≤ n → N 236 i + N 237 c ≤ N (240 + i) c) ∧
  (∀ i c : Nat, 1 ≤ i → 1 ≤ c → c ≤ n → N 235 c = i → N 236 i + N 237 c = N (240 + i) c) ∧
  (∀ c : Nat, 1 ≤ c → c ≤ n → N 237 c ≤ 0 ∧ (N 235 c = 0 → N 237 c = 0)) ∧
  (∀ i : Nat, 1 ≤ i → i < 10 → 0 ≤ N 236 i ∧ (ρ < i → N 236 i = 0)) ∧
  ((∀ c : Nat, c ≤ n → N 250 c = 0 ∨ N 250 c = 1) ∧ (∀ c : Nat, c ≤ n → (N 250 c = 1 ↔ ∃ i, i < t ∧ cs i = c)) ∧ (∀ i, i < t → cs i ≤ n ∧ N 235 (cs i) ≠ 0) ∧ (∀ i k, i < t → k < t → cs i = cs k → i = k)) ∧
  (N 250 j = 0 ∧ j ≤ n ∧ (t = 0 → j = 0) ∧ (0 < t → cs 0 = 0 ∧ 1 ≤ j)) ∧
  (∀ i, 0 < i → i < t → ∃ k, k < i ∧ N 239 (cs i) = cs k ∧ N 236 (N 235 (cs k)).toNat + N 237 (cs i) = N (240 + (N 235 (cs k)).toNat) (cs i)) ∧
  (0 < t → ∃ k, k < t ∧ N 239 j = cs k ∧ N 236 (N 235 (cs k)).toNat + N 237 j = N (240 + (N 235 (cs k)).toNat) j) ∧
  (t = 0 → ∀ c : Nat, 1 ≤ c → c ≤ n → N 238 c = 1152921504606846976) ∧
  (0 < t → ∀ c : Nat, 1 ≤ c → c ≤ n → N 250 c = 0 → (∀ k, k < t → N 238 c ≤ N (240 + (N 235 (cs k)).toNat) c - N 236 (N 235 (cs k)).toNat - N 237 c) ∧ ∃ k, k < t ∧ N 239 c = cs k ∧ N 238 c = N (240 + (N 235 (cs k)).toNat) c - N 236 (N 235 (cs k)).toNat - N 237 c)
theorem HT_bnd {M N : zM} {n ρ j t : Nat} {cs : Nat → Nat} (h : HT M N n ρ j t cs) (hP : Pr N n ρ) (hfree : ∃ f : Nat, 1 ≤ f ∧ f ≤ n ∧ N 235 f = 0) (hρ : ρ < 10) (hr : ∀ c : Nat, 1 ≤ c → c ≤ n → 0 ≤ N 235 c ∧ N 235 c < ρ) :
    (∀ i : Nat, 1 ≤ i → i ≤ ρ → 0 ≤ N 236 i ∧ N 236 i ≤ 1125899906842624) ∧ (∀ c : Nat, 1 ≤ c → c ≤ n → -1125899906842624 ≤ N 237 c ∧ N 237 c ≤ 0) := by
  obtain ⟨-, -, h3, h4, h5, h6, -⟩ := h
  obtain ⟨f, f1, f2, f3⟩ := hfree
  have hu : ∀ i : Nat, 1 ≤ i → i ≤ ρ → 0 ≤ N 236 i ∧ N 236 i ≤ 1125899906842624 := fun i i1 i2 => by
    have a1 := h3 i f i1 i2 f1 f2
    have a2 := (h5 f f1 f2).2 f3
    have a3 := (hP i f i1 i2 f1 f2).2
    have a4 := (h6 i i1 (by omega)).1
    omega
  refine ⟨hu, fun c c1 c2 => ?_⟩
  have b1 := h5 c c1 c2
  have b2 := hr c c1 c2
  by_cases z : N 235 c = 0
  · have := b1.2 z; omega
  · have a1 := h4 (N 235 c).toNat c (by omega) c1 c2 (by omega)
    have a2 := hu (N 235 c).toNat (by omega) (by omega)
    have a3 := hP (N 235 c).toNat c (by omega) (by omega) c1 c2
    omega
/-- one step of the search keeps it right -/
theorem HT_step {M N N1 N2 N3 : zM} {n ρ j t x : Nat} {cs : Nat → Nat} {least : Int} (h : HT M N n ρ j t cs) (hn : n < 20) (hρ : ρ < 10) (hρ1 : 1 ≤ ρ) (hr : ∀ c : Nat, 1 ≤ c → c ≤ n → 0 ≤ N 235 c ∧ N 235 c < ρ) (hi : ∀ c e : Nat, 1 ≤ c → c ≤ n → 1 ≤ e → e ≤ n → N 235 c ≠ 0 → N 235 c = N 235 e → c = e) (hpj : N 235 j ≠ 0)
    (h1 : N1 = zup N 250 j 1) (hR1 : R1 N1 N2 (N 235 j).toNat n j (n + 1) x least) (hx1 : 1 ≤ x) (hx2 : x ≤ n) (hx3 : N1 250 x = 0) (hx4 : least = sl1 N1 (N 235 j).toNat x) (hx5 : ∀ c : Nat, 1 ≤ c → c ≤ n → N1 250 c = 0 → least ≤ sl1 N1 (N 235 j).toNat c) (hR2 : R2 N2 N3 least (n + 1)) (hbd : ∀ c : Nat, 1 ≤ c → c ≤ n → N1 250 c = 0 → rst N1 (N 235 j).toNat c < 1152921504606846976) :
    HT M N3 n ρ x (t + 1) (fun i => if i = t then j else cs i) := by
  obtain ⟨ha, ⟨hb0, hb1⟩, hc, hd, he, hf, ⟨hg1, hg2, hg3, hg4⟩, ⟨hj1, hj2, hj3, hj4⟩, hw, hwj, hs0, hs1⟩ := h
  -- the row being looked at
  have rowof : ∀ c : Nat, c ≤ n → N 235 c ≠ 0 → 1 ≤ (N 235 c).toNat ∧ (N 235 c).toNat ≤ ρ ∧ N 235 c = ((N 235 c).toNat : Int) := by
    intro c c1 c2
    by_cases z : c = 0
    · subst z; rw [hb0]; simp; omega
    · have := hr c (by omega) c1; omega
  obtain ⟨rw1, rw2, rw3⟩ := rowof j hj2 hpj
  generalize hrow : (N 235 j).toNat = row at *
  -- memories
  have n1 : ∀ b, b ≠ 250 → N1 b = N b := fun b hb => by rw [h1, zup_ne _ _ _ hb]
  have n1r : ∀ c : Nat, N1 250 c = if c = j then 1 else N 250 c := fun c => by rw [h1]; simp [zup]
  have n2r : N2 250 = N1 250 := hR1.1 250 (by omega) (by omega)
  have n2p : N2 235 = N 235 := (hR1.1 235 (by omega) (by omega)).trans (n1 235 (by omega))
  have n3p : N3 235 = N 235 := (hR2.1 235 (by omega) (by omega) (by omega)).trans n2p
  have n3r : N3 250 = N1 250 := (hR2.1 250 (by omega) (by omega) (by omega)).trans n2r
  have n3P : ∀ i : Nat, i < 10 → N3 (240 + i) = N (240 + i) := fun i hi => (hR2.1 _ (by omega) (by omega) (by omega)).trans ((hR1.1 _ (by omega) (by omega)).trans (n1 _ (by omega)))
  have n3w : N3 239 = N2 239 := hR2.1 239 (by omega) (by omega) (by omega)
  have n2v : N2 237 = N 237 := (hR1.1 237 (by omega) (by omega)).trans (n1 237 (by omega))
  have n2u : N2 236 = N 236 := (hR1.1 236 (by omega) (by omega)).trans (n1 236 (by omega))
  have n1s : N1 238 = N 238 := n1 238 (by omega)
  have n1w : N1 239 = N 239 := n1 239 (by omega)
  have rest : ∀ c : Nat, rst N1 row c = N (240 + row) c - N 236 row - N 237 c := fun c => by
    unfold rst
    rw [n1 _ (by omega), n1 236 (by omega), n1 237 (by omega)]
  have n01 : ∀ c : Nat, c ≤ n → N1 250 c = 0 ∨ N1 250 c = 1 := fun c c1 => by
    rw [n1r c]; split
    · exact Or.inr rfl
    · exact hg1 c c1
  have reach : ∀ c : Nat, c ≤ n → (N1 250 c = 1 ↔ ∃ i, i < t + 1 ∧ (if i = t then j else cs i) = c) := by
    intro c c1
    rw [n1r c]
    by_cases z : c = j
    · rw [if_pos z]
      exact ⟨fun _ => ⟨t, by omega, by rw [if_pos rfl, z]⟩, fun _ => rfl⟩
    · rw [if_neg z]
      refine (hg2 c c1).trans ⟨fun ⟨i, i1, i2⟩ => ⟨i, by omega, by rw [if_neg (by omega)]; exact i2⟩, fun ⟨i, i1, i2⟩ => ?_⟩
      by_cases y : i = t
      · rw [if_pos y] at i2; exact absurd i2.symm z
      · rw [if_neg y] at i2; exact ⟨i, by omega, i2⟩
  have cs1 : ∀ i, i < t + 1 → (if i = t then j else cs i) ≤ n ∧ N 235 (if i = t then j else cs i) ≠ 0 := by
    intro i hi
    by_cases y : i = t
    · rw [if_pos y]; exact ⟨hj2, hpj⟩
    · rw [if_neg y]; exact hg3 i (by omega)
  have csN : ∀ i, i < t → cs i ≠ j := fun i hi z => by
    have := (hg2 (cs i) (hg3 i hi).1).mpr ⟨i, hi, rfl⟩
    rw [z, hj1] at this; omega
  -- least is not below 0
  have slnn : ∀ c : Nat, 1 ≤ c → c ≤ n → N1 250 c = 0 → 0 ≤ rst N1 row c ∧ 0 ≤ N 238 c := by
    intro c c1 c2 c3
    have d1 := hc row c rw1 rw2 c1 c2
    refine ⟨by rw [rest c]; omega, ?_⟩
    have c4 : N 250 c = 0 := by
      rw [n1r c] at c3; split at c3
      · omega
      · exact c3
    by_cases z : t = 0
    · rw [hs0 z c c1 c2]; omega
    · obtain ⟨k, k1, k2, k3⟩ := (hs1 (by omega) c c1 c2 c4).2
      obtain ⟨r1, r2, r3⟩ := rowof (cs k) (hg3 k k1).1 (hg3 k k1).2
      have := hc (N 235 (cs k)).toNat c r1 r2 c1 c2
      omega
  have sl0 : ∀ c : Nat, sl1 N1 row c = if rst N1 row c < N 238 c then rst N1 row c else N 238 c := fun c => by unfold sl1; rw [n1s]
  have least0 : 0 ≤ least := by
    have := slnn x hx1 hx2 hx3
    rw [hx4, sl0 x]; split <;> omega
  -- what the second loop did
  have v3 : ∀ c : Nat, c ≤ n → N3 237 c = if N1 250 c = 1 then N 237 c - least else N 237 c := fun c c1 => by
    rw [hR2.2.2.2.1 c, n2v, n2r]
    by_cases z : N1 250 c = 1
    · rw [if_pos ⟨by omega, z⟩, if_pos z]
    · rw [if_neg (fun w => z w.2), if_neg z]
  have uT : ∀ i : Nat, (∃ k, k < t + 1 ∧ N 235 (if k = t then j else cs k) = i) → N3 236 i = N 236 i + least := fun i ⟨k, k1, k2⟩ => by
    have := hR2.2.1 i ⟨(if k = t then j else cs k), by have := (cs1 k k1).1; omega, by rw [n2r]; exact (reach _ (cs1 k k1).1).mpr ⟨k, k1, rfl⟩, by rw [n2p]; exact k2⟩
    rw [this, n2u]
  have uF : ∀ i : Nat, (¬ ∃ k, k < t + 1 ∧ N 235 (if k = t then j else cs k) = i) → N3 236 i = N 236 i := fun i hno => by
    have := hR2.2.2.1 i (fun ⟨c, c1, c2, c3⟩ => by
      rw [n2r] at c2
      rw [n2p] at c3
      obtain ⟨k, k1, k2⟩ := (reach c (by omega)).mp c2
      exact hno ⟨k, k1, by rw [k2]; exact c3⟩)
    rw [this, n2u]
  have s3 : ∀ c : Nat, 1 ≤ c → c ≤ n → N1 250 c = 0 → N3 238 c = sl1 N1 row c - least := fun c c1 c2 c3 => by
    rw [hR2.2.2.2.2 c, n2r, if_pos ⟨by omega, c3⟩, hR1.2.1 c, if_pos ⟨c1, by omega, c3⟩]
  have w3 : ∀ c : Nat, N3 239 c = if 1 ≤ c ∧ c < n + 1 ∧ N1 250 c = 0 ∧ rst N1 row c < N 238 c then (j : Int) else N 239 c := fun c => by
    rw [n3w, hR1.2.2.1 c, n1s, n1w]
  -- how slacks stand to tree rows
  have treeP : ∀ k, k < t + 1 → 1 ≤ (N 235 (if k = t then j else cs k)).toNat ∧ (N 235 (if k = t then j else cs k)).toNat ≤ ρ := fun k k1 => by
    obtain ⟨r1, r2, -⟩ := rowof _ (cs1 k k1).1 (cs1 k k1).2
    exact ⟨r1, r2⟩
  have uK : ∀ k, k < t + 1 → N3 236 (N 235 (if k = t then j else cs k)).toNat = N 236 (N 235 (if k = t then j else cs k)).toNat + least := fun k k1 =>
    uT _ ⟨k, k1, (rowof _ (cs1 k k1).1 (cs1 k k1).2).2.2⟩
  have sle : ∀ c : Nat, 1 ≤ c → c ≤ n → N1 250 c = 0 → ∀ k, k < t + 1 → sl1 N1 row c ≤ N (240 + (N 235 (if k = t then j else cs k)).toNat) c - N 236 (N 235 (if k = t then j else cs k)).toNat - N 237 c := by
    intro c c1 c2 c3 k k1
    have c4 : N 250 c = 0 := by
      rw [n1r c] at c3; split at c3
      · omega
      · exact c3
    by_cases y : k = t
    · rw [if_pos y, hrow, sl0 c, rest c]; split <;> omega
    · rw [if_neg y]
      have := (hs1 (by omega) c c1 c2 c4).1 k (by omega)
      rw [sl0 c]; split <;> omega
  have satt : ∀ c : Nat, 1 ≤ c → c ≤ n → N1 250 c = 0 → (0 < t ∨ rst N1 row c < N 238 c) → ∃ k, k < t + 1 ∧ N3 239 c = ((if k = t then j else cs k : Nat) : Int) ∧ sl1 N1 row c = N (240 + (N 235 (if k = t then j else cs k)).toNat) c - N 236 (N 235 (if k = t then j else cs k)).toNat - N 237 c := by
    intro c c1 c2 c3 c5
    have c4 : N 250 c = 0 := by
      rw [n1r c] at c3; split at c3
      · omega
      · exact c3
    by_cases y : rst N1 row c < N 238 c
    · refine ⟨t, by omega, ?_, ?_⟩
      · rw [w3 c, if_pos ⟨c1, by omega, c3, y⟩, if_pos rfl]
      · rw [sl0 c, if_pos y, if_pos rfl, hrow, rest c]
    · obtain ⟨k, k1, k2, k3⟩ := (hs1 (by omega) c c1 c2 c4).2
      refine ⟨k, by omega, ?_, ?_⟩
      · rw [w3 c, if_neg (fun w => y w.2.2.2), if_neg (by omega)]; exact k2
      · rw [sl0 c, if_neg y, if_neg (by omega)]; exact k3
  have sat2 : ∀ c : Nat, 1 ≤ c → c ≤ n → N1 250 c = 0 → ∃ k, k < t + 1 ∧ N3 239 c = ((if k = t then j else cs k : Nat) : Int) ∧ sl1 N1 row c = N (240 + (N 235 (if k = t then j else cs k)).toNat) c - N 236 (N 235 (if k = t then j else cs k)).toNat - N 237 c := by
    intro c c1 c2 c3
    refine satt c c1 c2 c3 ?_
    by_cases z : t = 0
    · refine Or.inr ?_
      rw [hs0 z c c1 c2]
      exact hbd c c1 c2 c3
    · exact Or.inl (by omega)
  have lt10 : ∀ k, k < t + 1 → (N 235 (if k = t then j else cs k)).toNat < 10 := fun k k1 => by have := (treeP k k1).2; omega
  refine ⟨fun b b1 b2 b3 b4 b5 b6 => ?_, ⟨by rw [n3p]; exact hb0, fun c c1 => by rw [n3p]; exact hb1 c c1⟩, fun i c i1 i2 c1 c2 => ?_, fun i c i1 c1 c2 hpc => ?_, fun c c1 c2 => ?_, fun i i1 i2 => ?_, ⟨fun c c1 => by rw [n3r]; exact n01 c c1, fun c c1 => by rw [n3r]; exact reach c c1, fun k k1 => by rw [n3p]; exact cs1 k k1, fun a b a1 b1 e => ?_⟩, ⟨by rw [n3r]; exact hx3, hx2, fun z => absurd z (by omega), fun _ => ⟨?_, hx1⟩⟩, fun i i1 i2 => ?_, fun _ => ?_, fun z => absurd z (by omega), fun _ c c1 c2 c3 => ⟨fun k k1 => ?_, ?_⟩⟩
  · rw [hR2.1 b b2 b3 b4, hR1.1 b b4 b5, n1 b b6]
    exact ha b b1 b2 b3 b4 b5 b6
  · rw [v3 c c2, n3P i (by omega)]
    have d1 := hc i c i1 i2 c1 c2
    by_cases tr : ∃ k, k < t + 1 ∧ N 235 (if k = t then j else cs k) = i
    · rw [uT i tr]
      by_cases rc : N1 250 c = 1
      · rw [if_pos rc]; omega
      · rw [if_neg rc]
        have c0 : N1 250 c = 0 := by rcases n01 c c2 with q | q; exact q; exact absurd q rc
        obtain ⟨k, k1, k2⟩ := tr
        have a1 := sle c c1 c2 c0 k k1
        have a2 := hx5 c c1 c2 c0
        have a3 : (N 235 (if k = t then j else cs k)).toNat = i := by rw [k2]; simp
        rw [a3] at a1
        omega
    · rw [uF i tr]
      split <;> omega
  · rw [n3p] at hpc
    have d1 := hd i c i1 c1 c2 hpc
    have hi9 : i < 10 := by have := hr c c1 c2; omega
    rw [v3 c c2, n3P i hi9]
    by_cases rc : N1 250 c = 1
    · rw [if_pos rc]
      obtain ⟨k, k1, k2⟩ := (reach c c2).mp rc
      rw [uT i ⟨k, k1, by rw [k2]; exact hpc⟩]
      omega
    · rw [if_neg rc, uF i (fun ⟨k, k1, k2⟩ => rc ((reach c c2).mpr ⟨k, k1, by
        have a1 := (cs1 k k1).1
        by_cases z : (if k = t then j else cs k) = 0
        · rw [z, hb0] at k2
          have := hr c c1 c2
          omega
        · exact hi _ c (by omega) a1 c1 c2 (by rw [k2]; omega) (by rw [k2, hpc])⟩))]
      exact d1
  · rw [v3 c c2, n3p]
    have e1 := he c c1 c2
    refine ⟨by split <;> omega, fun z => ?_⟩
    rw [if_neg (fun rc => by
      obtain ⟨k, k1, k2⟩ := (reach c c2).mp rc
      have := (cs1 k k1).2
      rw [k2] at this
      exact this z)]
    exact e1.2 z
  · have f1 := hf i i1 i2
    by_cases tr : ∃ k, k < t + 1 ∧ N 235 (if k = t then j else cs k) = i
    · rw [uT i tr]
      refine ⟨by omega, fun z => ?_⟩
      obtain ⟨k, k1, k2⟩ := tr
      have := (treeP k k1).2
      rw [k2] at this
      simp only [Int.toNat_natCast] at this
      omega
    · rw [uF i tr]; exact f1
  · try dsimp only at e
    by_cases y1 : a = t <;> by_cases y2 : b = t
    · omega
    · simp only [y1, y2, if_true, if_false] at e
      exact absurd e.symm (csN b (by omega))
    · simp only [y1, y2, if_true, if_false] at e
      exact absurd e (csN a (by omega))
    · simp only [y1, y2, if_false] at e
      exact hg4 a b (by omega) (by omega) e
  · dsimp only
    by_cases z : 0 = t
    · rw [if_pos z]; exact hj3 z.symm
    · rw [if_neg z]; exact (hj4 (by omega)).1
  · dsimp only
    rw [n3p]
    by_cases y : i = t
    · subst y
      obtain ⟨k, k1, k2, k3⟩ := hwj i1
      have kk : (if k = i then j else cs k) = cs k := if_neg (by omega)
      have rj : N1 250 j = 1 := by rw [n1r j, if_pos rfl]
      have u1 := uK k (by omega)
      have l1 := lt10 k (by omega)
      rw [kk] at u1 l1
      refine ⟨k, k1, ?_, ?_⟩
      · rw [if_pos rfl, kk, w3 j, if_neg (fun w => by have := w.2.2.1; omega)]; exact k2
      · rw [if_pos rfl, kk, u1, v3 j hj2, if_pos rj, n3P _ l1]; omega
    · obtain ⟨k, k1, k2, k3⟩ := hw i i1 (by omega)
      have kk : (if k = t then j else cs k) = cs k := if_neg (by omega)
      have ci : (if i = t then j else cs i) = cs i := if_neg y
      have rj : N1 250 (cs i) = 1 := (reach _ (hg3 i (by omega)).1).mpr ⟨i, i2, if_neg y⟩
      have u1 := uK k (by omega)
      have l1 := lt10 k (by omega)
      rw [kk] at u1 l1
      refine ⟨k, k1, ?_, ?_⟩
      · rw [ci, kk, w3 (cs i), if_neg (fun w => by have := w.2.2.1; omega)]; exact k2
      · rw [ci, kk, u1, v3 _ (hg3 i (by omega)).1, if_pos rj, n3P _ l1]; omega
  · dsimp only
    obtain ⟨k, k1, k2, k3⟩ := sat2 x hx1 hx2 hx3
    refine ⟨k, k1, k2, ?_⟩
    rw [n3p, uK k k1, v3 x hx2, if_neg (show ¬ N1 250 x = 1 by omega), n3P _ (lt10 k k1)]
    omega
  · dsimp only
    rw [n3r] at c3
    rw [n3p, uK k k1, v3 c c2, if_neg (show ¬ N1 250 c = 1 by omega), n3P _ (lt10 k k1), s3 c c1 c2 c3]
    have := sle c c1 c2 c3 k k1
    omega
  · dsimp only
    rw [n3r] at c3
    obtain ⟨k, k1, k2, k3⟩ := sat2 c c1 c2 c3
    refine ⟨k, k1, k2, ?_⟩
    rw [n3p, uK k k1, v3 c c2, if_neg (show ¬ N1 250 c = 1 by omega), n3P _ (lt10 k k1), s3 c c1 c2 c3]
    omega
