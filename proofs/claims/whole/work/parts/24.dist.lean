/-! ### distances: least paths, and what a search in breadth keeps true -/
def nb (c k : Int) : Int := if k = 0 then (if c % 12 + 1 < 12 then c + 1 else -5) else if k = 1 then (if c / 12 + 1 < 10 then c + 12 else -5) else if k = 2 then (if c % 12 > 0 then c - 1 else -5) else (if c / 12 > 0 then c - 12 else -5)
theorem nb_rng {c k : Int} (hc : 0 ≤ c ∧ c < 120) (h : 0 ≤ nb c k) : nb c k < 120 := by
  unfold nb at h ⊢
  grind
theorem nb_neg {c k : Int} (hc : 0 ≤ c ∧ c < 120) (h : ¬ 0 ≤ nb c k) : nb c k = -5 := by
  unfold nb at h ⊢
  grind
def adj (c e : Nat) : Prop := ∃ k : Nat, k < 4 ∧ nb c k = (e : Int)
theorem adj_sym {c e : Nat} (hc : c < 120) (h : adj c e) : adj e c := by
  obtain ⟨k, hk, h⟩ := h
  have h4 : k = 0 ∨ k = 1 ∨ k = 2 ∨ k = 3 := by omega
  rcases h4 with rfl | rfl | rfl | rfl
  · refine ⟨2, by omega, ?_⟩
    unfold nb at h ⊢
    grind
  · refine ⟨3, by omega, ?_⟩
    unfold nb at h ⊢
    grind
  · refine ⟨0, by omega, ?_⟩
    unfold nb at h ⊢
    grind
  · refine ⟨1, by omega, ?_⟩
    unfold nb at h ⊢
    grind
theorem adj_lt {c e : Nat} (hc : c < 120) (h : adj c e) : e < 120 := by
  obtain ⟨k, hk, h⟩ := h
  have := nb_rng (c := c) (k := k) ⟨by omega, by omega⟩ (by omega)
  omega
/-- a way of n steps over cells without walls -/
def pth (w : Nat → Int) (a : Nat) : Nat → Nat → Prop
  | 0, c => c = a ∧ w a ≠ 1
  | n + 1, c => ∃ b, pth w a n b ∧ adj b c ∧ w c ≠ 1
def isD (w : Nat → Int) (a c : Nat) (v : Int) : Prop := (v = -1 ∧ ∀ n, ¬ pth w a n c) ∨ ∃ n : Nat, v = n ∧ pth w a n c ∧ ∀ m, m < n → ¬ pth w a m c
theorem least_ex {P : Nat → Prop} : ∀ n, P n → ∃ m, P m ∧ ∀ k, k < m → ¬ P k := by
  intro n
  induction n using Nat.strongRecOn with
  | _ n ih =>
    intro h
    by_cases q : ∃ k, k < n ∧ P k
    · obtain ⟨k, h1, h2⟩ := q
      exact ih k h1 h2
    · exact ⟨n, h, fun k hk hp => q ⟨k, hk, hp⟩⟩
theorem isD_ex (w : Nat → Int) (a c : Nat) : ∃ v, isD w a c v := by
  by_cases q : ∃ n, pth w a n c
  · obtain ⟨n, hn⟩ := q
    obtain ⟨m, h1, h2⟩ := least_ex (P := fun n => pth w a n c) n hn
    exact ⟨m, Or.inr ⟨m, rfl, h1, h2⟩⟩
  · exact ⟨-1, Or.inl ⟨rfl, fun n hn => q ⟨n, hn⟩⟩⟩
noncomputable def dst (w : Nat → Int) (a c : Nat) : Int := Classical.choose (isD_ex w a c)
theorem dst_is (w : Nat → Int) (a c : Nat) : isD w a c (dst w a c) := Classical.choose_spec (isD_ex w a c)
theorem isD_uni {w : Nat → Int} {a c : Nat} {u v : Int} (h : isD w a c u) (k : isD w a c v) : u = v := by
  rcases h with ⟨rfl, h⟩ | ⟨n, rfl, h1, h2⟩ <;> rcases k with ⟨rfl, k⟩ | ⟨m, rfl, k1, k2⟩
  · rfl
  · exact absurd k1 (h m)
  · exact absurd h1 (k n)
  · have a1 : ¬ m < n := fun q => h2 m q k1
    have a2 : ¬ n < m := fun q => k2 n q h1
    omega
theorem dst_rng (w : Nat → Int) (a c : Nat) : -1 ≤ dst w a c := by
  rcases dst_is w a c with ⟨h, -⟩ | ⟨n, h, -⟩ <;> omega
theorem dst_le {w : Nat → Int} {a c n : Nat} (h : pth w a n c) : 0 ≤ dst w a c ∧ dst w a c ≤ n := by
  rcases dst_is w a c with ⟨h1, h2⟩ | ⟨m, h1, h2, h3⟩
  · exact absurd h (h2 n)
  · have : ¬ n < m := fun q => h3 n q h
    omega
theorem dst_pth {w : Nat → Int} {a c : Nat} (h : 0 ≤ dst w a c) : pth w a (dst w a c).toNat c := by
  rcases dst_is w a c with ⟨h1, h2⟩ | ⟨m, h1, h2, h3⟩
  · omega
  · rw [h1]; exact h2
theorem dst_self {w : Nat → Int} {a : Nat} (h : w a ≠ 1) : dst w a a = 0 := by
  have := dst_le (w := w) (a := a) (c := a) (n := 0) ⟨rfl, h⟩
  omega
theorem dst_zero {w : Nat → Int} {a c : Nat} (h : dst w a c = 0) : c = a := by
  have := dst_pth (w := w) (a := a) (c := c) (by omega)
  rw [h] at this
  exact this.1
theorem pth_wall {w : Nat → Int} {a : Nat} : ∀ {n c : Nat}, pth w a n c → w a ≠ 1 ∧ w c ≠ 1
  | 0, c, h => ⟨h.2, by rw [h.1]; exact h.2⟩
  | n + 1, c, h => by
    obtain ⟨b, h1, h2, h3⟩ := h
    exact ⟨(pth_wall h1).1, h3⟩
theorem pth_lt {w : Nat → Int} {a : Nat} (ha : a < 120) : ∀ {n c : Nat}, pth w a n c → c < 120
  | 0, c, h => by rw [h.1]; exact ha
  | n + 1, c, h => by
    obtain ⟨b, h1, h2, h3⟩ := h
    exact adj_lt (pth_lt ha h1) h2
theorem pth_front {w : Nat → Int} {a b : Nat} (ha : w a ≠ 1) (h : adj a b) : ∀ {n c : Nat}, pth w b n c → pth w a (n + 1) c
  | 0, c, q => by
    obtain ⟨rfl, q2⟩ := q
    exact ⟨a, ⟨rfl, ha⟩, h, q2⟩
  | n + 1, c, q => by
    obtain ⟨e, q1, q2, q3⟩ := q
    exact ⟨e, pth_front ha h q1, q2, q3⟩
theorem pth_sym {w : Nat → Int} {a : Nat} (ha : a < 120) : ∀ {n c : Nat}, pth w a n c → pth w c n a
  | 0, c, h => by
    obtain ⟨rfl, h⟩ := h
    exact ⟨rfl, h⟩
  | n + 1, c, h => by
    obtain ⟨b, h1, h2, h3⟩ := h
    exact pth_front h3 (adj_sym (pth_lt ha h1) h2) (pth_sym ha h1)
theorem dst_sym {w : Nat → Int} {a c : Nat} (ha : a < 120) (hc : c < 120) : dst w a c = dst w c a := by
  refine isD_uni (dst_is w a c) ?_
  rcases dst_is w c a with ⟨h1, h2⟩ | ⟨m, h1, h2, h3⟩
  · exact Or.inl ⟨h1, fun n q => h2 n (pth_sym ha q)⟩
  · exact Or.inr ⟨m, h1, pth_sym hc h2, fun k hk q => h3 k hk (pth_sym ha q)⟩
theorem dst_step {w : Nat → Int} {a b c : Nat} (hb : 0 ≤ dst w a b) (h : adj b c) (hc : w c ≠ 1) : 0 ≤ dst w a c ∧ dst w a c ≤ dst w a b + 1 := by
  have := dst_le (w := w) (a := a) (c := c) (n := (dst w a b).toNat + 1) ⟨b, dst_pth hb, h, hc⟩
  omega
theorem dst_pred {w : Nat → Int} {a c : Nat} (h : 0 < dst w a c) : ∃ b, adj b c ∧ dst w a b = dst w a c - 1 := by
  have h1 := dst_pth (w := w) (a := a) (c := c) (by omega)
  obtain ⟨n, hn⟩ : ∃ n : Nat, (dst w a c).toNat = n + 1 := ⟨(dst w a c).toNat - 1, by omega⟩
  rw [hn] at h1
  obtain ⟨b, h2, h3, h4⟩ := h1
  have h5 := dst_le h2
  have h6 := dst_step h5.1 h3 h4
  exact ⟨b, h3, by omega⟩
theorem pig : ∀ (m n : Nat) (f : Nat → Nat), (∀ i, i < n → f i < m) → (∀ i j, i < n → j < n → f i = f j → i = j) → n ≤ m
  | 0, n, f, h, _ => by
    by_cases q : n = 0
    · omega
    · exact absurd (h 0 (by omega)) (by omega)
  | m + 1, n, f, h, hi => by
    by_cases q : ∃ i, i < n ∧ f i = m
    · obtain ⟨i0, h0, h1⟩ := q
      have := pig m (n - 1) (fun j => f (if j < i0 then j else j + 1)) (fun i hl => by
        show f (if i < i0 then i else i + 1) < m
        have a1 : (if i < i0 then i else i + 1) < n := by split <;> omega
        have a2 : (if i < i0 then i else i + 1) ≠ i0 := by split <;> omega
        have a3 := h _ a1
        have a4 : f (if i < i0 then i else i + 1) ≠ m := fun z => a2 (hi _ _ a1 h0 (z.trans h1.symm))
        omega) (fun i j hl hj e => by
        have e : f (if i < i0 then i else i + 1) = f (if j < i0 then j else j + 1) := e
        have a1 : (if i < i0 then i else i + 1) < n := by split <;> omega
        have a2 : (if j < i0 then j else j + 1) < n := by split <;> omega
        have a3 := hi _ _ a1 a2 e
        split at a3 <;> split at a3 <;> omega)
      omega
    · have := pig m n f (fun i hl => by
        have a1 := h i hl
        have a2 : f i ≠ m := fun z => q ⟨i, hl, z⟩
        omega) hi
      omega
