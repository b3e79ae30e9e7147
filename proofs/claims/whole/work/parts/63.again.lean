/-! ### the least sum, slot by slot -/
theorem smN_swap (f : Nat → Nat → Int) (n : Nat) : ∀ m : Nat, smN (fun a => smN (fun b => f a b) n) m = smN (fun b => smN (fun a => f a b) m) n
  | 0 => by
    have : (fun b : Nat => smN (fun a => f a b) 0) = fun _ => 0 := rfl
    rw [this, smN_zero]; rfl
  | m + 1 => by
    have h1 : smN (fun a => smN (fun b => f a b) n) (m + 1) = smN (fun a => smN (fun b => f a b) n) m + smN (fun b => f m b) n := rfl
    have h2 : (fun b => smN (fun a => f a b) (m + 1)) = fun b => (fun b => smN (fun a => f a b) m) b + (fun b => f m b) b := rfl
    rw [h1, smN_swap f n m, h2, smN_add]
theorem smN_both {x y : Nat → Int} {p k : Nat} (G : Nat → Nat → Int) (hxy : ∀ r i : Nat, r < p → i < k → (x r = i ↔ y i = r)) (hx : ∀ r, r < p → x r < 0 ∨ ∃ i : Nat, x r = i ∧ i < k) (hy : ∀ i, i < k → y i < 0 ∨ ∃ r : Nat, y i = r ∧ r < p) :
    smN (fun r => if x r < 0 then 0 else G (x r).toNat r) p = smN (fun i => if y i < 0 then 0 else G i (y i).toNat) k := by
  have h1 : smN (fun r => if x r < 0 then 0 else G (x r).toNat r) p = smN (fun r => smN (fun i => if x r = (i : Int) then G i r else 0) k) p := smN_congr p (fun r hr => by
    show (if x r < 0 then 0 else G (x r).toNat r) = smN (fun i => if x r = (i : Int) then G i r else 0) k
    rcases hx r hr with h | ⟨j, h, h2⟩
    · rw [if_pos h]
      have : smN (fun i => if x r = (i : Int) then G i r else 0) k = smN (fun _ => 0) k := smN_congr k (fun i hi => by
        show (if x r = (i : Int) then G i r else 0) = 0
        rw [if_neg (by omega)])
      rw [this, smN_zero]
    · rw [if_neg (by omega), h, Int.toNat_natCast]
      have h3 := smN_pick (fun i => G i r) j k
      rw [if_pos h2] at h3
      rw [← h3]
      exact smN_congr k (fun i hi => by
        show (if j = i then G i r else 0) = if (j : Int) = i then G i r else 0
        by_cases z : j = i
        · rw [if_pos z, if_pos (by omega)]
        · rw [if_neg z, if_neg (by omega)]))
  have h2 : smN (fun i => if y i < 0 then 0 else G i (y i).toNat) k = smN (fun i => smN (fun r => if x r = (i : Int) then G i r else 0) p) k := smN_congr k (fun i hi => by
    show (if y i < 0 then 0 else G i (y i).toNat) = smN (fun r => if x r = (i : Int) then G i r else 0) p
    rcases hy i hi with h | ⟨j, h, h2⟩
    · rw [if_pos h]
      have : smN (fun r => if x r = (i : Int) then G i r else 0) p = smN (fun _ => 0) p := smN_congr p (fun r hr => by
        show (if x r = (i : Int) then G i r else 0) = 0
        rw [if_neg (fun z => by have := (hxy r i hr hi).mp z; omega)])
      rw [this, smN_zero]
    · rw [if_neg (by omega), h, Int.toNat_natCast]
      have h3 := smN_pick (fun r => G i r) j p
      rw [if_pos h2] at h3
      rw [← h3]
      exact smN_congr p (fun r hr => by
        show (if j = r then G i r else 0) = if x r = (i : Int) then G i r else 0
        by_cases z : j = r
        · rw [if_pos z, if_pos ((hxy r i hr hi).mpr (by omega))]
        · rw [if_neg z, if_neg (fun w => by have := (hxy r i hr hi).mp w; omega)]))
  rw [h1, h2, smN_swap]
/-- the least of a slot's choices among the first i members, D their distances (below 0: none) -/
def lsi (prev : Nat → Int) (D : Nat → Int) (set : Nat) : Nat → Int
  | 0 => prev set + 1100
  | i + 1 => if set.testBit i = true ∧ 0 ≤ D i ∧ prev (set ^^^ 2 ^ i) + D i < lsi prev D set i then prev (set ^^^ 2 ^ i) + D i else lsi prev D set i
/-- the least by set, behind q slots -/
def lsq (D : Nat → Nat → Int) (k : Nat) : Nat → Nat → Int
  | 0, set => if set = 0 then 0 else 12100
  | q + 1, set => lsi (lsq D k q) (D q) set k
theorem lsi_le {prev D : Nat → Int} {set : Nat} : ∀ i : Nat, lsi prev D set i ≤ prev set + 1100 ∧ ∀ e, e < i → set.testBit e = true → 0 ≤ D e → lsi prev D set i ≤ prev (set ^^^ 2 ^ e) + D e
  | 0 => ⟨Int.le_refl _, fun e he => absurd he (Nat.not_lt_zero e)⟩
  | i + 1 => by
    obtain ⟨h1, h2⟩ := lsi_le (prev := prev) (D := D) (set := set) i
    unfold lsi
    split
    · rename_i h
      refine ⟨by omega, fun e he h3 h4 => ?_⟩
      by_cases z : e = i
      · subst z; exact Int.le_refl _
      · have := h2 e (by omega) h3 h4; omega
    · rename_i h
      refine ⟨h1, fun e he h3 h4 => ?_⟩
      by_cases z : e = i
      · subst z
        by_cases y : prev (set ^^^ 2 ^ e) + D e < lsi prev D set e
        · exact absurd ⟨h3, h4, y⟩ h
        · omega
      · exact h2 e (by omega) h3 h4
theorem lsi_at {prev D : Nat → Int} {set : Nat} : ∀ i : Nat, lsi prev D set i = prev set + 1100 ∨ ∃ e, e < i ∧ set.testBit e = true ∧ 0 ≤ D e ∧ lsi prev D set i = prev (set ^^^ 2 ^ e) + D e
  | 0 => Or.inl rfl
  | i + 1 => by
    unfold lsi
    split
    · rename_i h
      exact Or.inr ⟨i, by omega, h.1, h.2.1, rfl⟩
    · rcases lsi_at (prev := prev) (D := D) (set := set) i with h | ⟨e, h1, h2⟩
      · exact Or.inl h
      · exact Or.inr ⟨e, by omega, h2⟩
/-- which member each of the first q slots has -/
def Xv (D : Nat → Nat → Int) (k q : Nat) (x : Nat → Int) : Prop := (∀ r, r < q → x r = -1 ∨ ∃ i : Nat, x r = i ∧ i < k ∧ 0 ≤ D r i) ∧ ∀ r s, r < q → s < q → 0 ≤ x r → x r = x s → r = s
def cst (D : Nat → Nat → Int) (x : Nat → Int) (r : Nat) : Int := if x r < 0 then 1100 else D r (x r).toNat
theorem lsq_low {D : Nat → Nat → Int} {k : Nat} : ∀ q set : Nat, 12100 ≤ lsq D k q set ∨ ∃ x, Xv D k q x ∧ (∀ r i : Nat, r < q → x r = i → set.testBit i = true) ∧ lsq D k q set = smN (cst D x) q
  | 0, set => by
    unfold lsq
    split
    · exact Or.inr ⟨fun _ => -1, ⟨fun r hr => absurd hr (Nat.not_lt_zero r), fun r s hr => absurd hr (Nat.not_lt_zero r)⟩, fun r i hr => absurd hr (Nat.not_lt_zero r), rfl⟩
    · exact Or.inl (Int.le_refl _)
  | q + 1, set => by
    have hcs : ∀ (x : Nat → Int) (v : Int), smN (cst D (fun r => if r = q then v else x r)) q = smN (cst D x) q := fun x v => smN_congr q (fun r hr => by
      have : ¬ r = q := by omega
      unfold cst
      simp only [this, if_false])
    rcases lsi_at (prev := lsq D k q) (D := D q) (set := set) k with h | ⟨e, e1, e2, e3, h⟩
    · rcases lsq_low (D := D) (k := k) q set with h2 | ⟨x, x1, x2, x3⟩
      · refine Or.inl ?_
        show 12100 ≤ lsi (lsq D k q) (D q) set k
        omega
      · refine Or.inr ⟨fun r => if r = q then -1 else x r, ⟨fun r hr => ?_, fun r s hr hs h1 h2 => ?_⟩, fun r i hr h1 => ?_, ?_⟩
        · by_cases z : r = q
          · simp [z]
          · simp only [z, if_false]; exact x1.1 r (by omega)
        · by_cases z : r = q
          · simp [z] at h1
          · by_cases y : s = q
            · simp only [z, y, if_true, if_false] at h1 h2; omega
            · simp only [z, y, if_false] at h1 h2; exact x1.2 r s (by omega) (by omega) h1 h2
        · by_cases z : r = q
          · simp only [z, if_true] at h1; omega
          · simp only [z, if_false] at h1; exact x2 r i (by omega) h1
        · show lsi (lsq D k q) (D q) set k = smN _ q + cst D _ q
          rw [hcs, ← x3, h]
          unfold cst
          simp
    · rcases lsq_low (D := D) (k := k) q (set ^^^ 2 ^ e) with h2 | ⟨x, x1, x2, x3⟩
      · refine Or.inl ?_
        show 12100 ≤ lsi (lsq D k q) (D q) set k
        omega
      · have hoff : ∀ r, r < q → x r ≠ (e : Int) := fun r hr z => by
          have := x2 r e hr z
          rw [tb_rm e2] at this
          simp at this
        refine Or.inr ⟨fun r => if r = q then (e : Int) else x r, ⟨fun r hr => ?_, fun r s hr hs h1 h2 => ?_⟩, fun r i hr h1 => ?_, ?_⟩
        · by_cases z : r = q
          · subst z; simp only [if_true]; exact Or.inr ⟨e, rfl, e1, e3⟩
          · simp only [z, if_false]; exact x1.1 r (by omega)
        · by_cases z : r = q
          · by_cases y : s = q
            · omega
            · simp only [z, y, if_true, if_false] at h1 h2; exact absurd h2.symm (hoff s (by omega))
          · by_cases y : s = q
            · simp only [z, y, if_true, if_false] at h1 h2; exact absurd h2 (hoff r (by omega))
            · simp only [z, y, if_false] at h1 h2; exact x1.2 r s (by omega) (by omega) h1 h2
        · by_cases z : r = q
          · simp only [z, if_true] at h1
            have : e = i := by omega
            subst this; exact e2
          · simp only [z, if_false] at h1
            have := x2 r i (by omega) h1
            rw [tb_rm e2] at this
            simp at this
            exact this.1
        · show lsi (lsq D k q) (D q) set k = smN _ q + cst D _ q
          rw [hcs, ← x3, h]
          unfold cst
          simp
          omega
/-- the members that the first q slots have -/
def usx (x : Nat → Int) : Nat → Nat
  | 0 => 0
  | q + 1 => if x q < 0 then usx x q else usx x q ||| 2 ^ (x q).toNat
theorem usx_bit {x : Nat → Int} : ∀ (q i : Nat), (usx x q).testBit i = true ↔ ∃ r, r < q ∧ x r = (i : Int)
  | 0, i => by
    show (0 : Nat).testBit i = true ↔ _
    simp
  | q + 1, i => by
    have ih := usx_bit (x := x) q i
    unfold usx
    split
    · rename_i h
      rw [ih]
      refine ⟨fun ⟨r, r1, r2⟩ => ⟨r, by omega, r2⟩, fun ⟨r, r1, r2⟩ => ⟨r, ?_, r2⟩⟩
      have : r ≠ q := fun z => by subst z; omega
      omega
    · rename_i h
      rw [Nat.testBit_or, Nat.testBit_two_pow]
      simp only [Bool.or_eq_true, ih, decide_eq_true_eq]
      refine ⟨fun z => ?_, fun ⟨r, r1, r2⟩ => ?_⟩
      · rcases z with ⟨r, r1, r2⟩ | z
        · exact ⟨r, by omega, r2⟩
        · exact ⟨q, by omega, by omega⟩
      · by_cases z : r = q
        · subst z; exact Or.inr (by omega)
        · exact Or.inl ⟨r, by omega, r2⟩
theorem usx_lt {D : Nat → Nat → Int} {k : Nat} {x : Nat → Int} : ∀ q : Nat, (∀ r, r < q → x r = -1 ∨ ∃ i : Nat, x r = i ∧ i < k ∧ 0 ≤ D r i) → usx x q < 2 ^ k
  | 0, _ => Nat.two_pow_pos k
  | q + 1, h => by
    have ih := usx_lt q (fun r hr => h r (by omega))
    unfold usx
    split
    · exact ih
    · rcases h q (by omega) with z | ⟨i, z, z2, -⟩
      · omega
      · rw [z, Int.toNat_natCast]
        exact Nat.or_lt_two_pow ih (Nat.pow_lt_pow_right (by omega) z2)
theorem lsq_up {D : Nat → Nat → Int} {k : Nat} {x : Nat → Int} : ∀ q : Nat, Xv D k q x → lsq D k q (usx x q) ≤ smN (cst D x) q
  | 0, _ => by show (if (0 : Nat) = 0 then (0 : Int) else 12100) ≤ 0; rw [if_pos rfl]; omega
  | q + 1, h => by
    have ih := lsq_up q ⟨fun r hr => h.1 r (by omega), fun r s hr hs => h.2 r s (by omega) (by omega)⟩
    have h1 : smN (cst D x) (q + 1) = smN (cst D x) q + cst D x q := rfl
    have h2 : lsq D k (q + 1) (usx x (q + 1)) = lsi (lsq D k q) (D q) (usx x (q + 1)) k := rfl
    rw [h1, h2]
    rcases h.1 q (by omega) with z | ⟨i, z, z2, z3⟩
    · have e1 : usx x (q + 1) = usx x q := by show (if x q < 0 then _ else _) = _; rw [if_pos (by omega)]
      have e2 : cst D x q = 1100 := by unfold cst; rw [if_pos (by omega)]
      have := (lsi_le (prev := lsq D k q) (D := D q) (set := usx x q) k).1
      rw [e1, e2]; omega
    · have e1 : usx x (q + 1) = usx x q ||| 2 ^ i := by show (if x q < 0 then _ else _) = _; rw [if_neg (by omega), z, Int.toNat_natCast]
      have e2 : cst D x q = D q i := by unfold cst; rw [if_neg (by omega), z, Int.toNat_natCast]
      have hno : (usx x q).testBit i = false := by
        rcases hb : (usx x q).testBit i with _ | _
        · rfl
        · obtain ⟨r, r1, r2⟩ := (usx_bit q i).mp hb
          have := h.2 r q (by omega) (by omega) (by omega) (by omega)
          omega
      have hbit : (usx x q ||| 2 ^ i).testBit i = true := by rw [Nat.testBit_or, Nat.testBit_two_pow]; simp
      have hx : (usx x q ||| 2 ^ i) ^^^ 2 ^ i = usx x q := Nat.eq_of_testBit_eq (fun e => by
        rw [tb_rm hbit, Nat.testBit_or, Nat.testBit_two_pow]
        by_cases y : e = i
        · subst y; rw [hno]; simp
        · have : ¬ i = e := fun w => y w.symm
          simp [y, this])
      have := (lsi_le (prev := lsq D k q) (D := D q) (set := usx x q ||| 2 ^ i) k).2 i z2 hbit z3
      rw [hx] at this
      rw [e1, e2]; omega
