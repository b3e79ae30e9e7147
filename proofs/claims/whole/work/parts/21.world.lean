/-! ### the abstract world S: 0 walls, 1 cells of members (-1 none), 2 waits in a row, 3 steps, 4 waits, 5 rounds, 6 reasons, 7 accounts, 8 (0 named, 1 target, 2 present shape), 9 + j the slots and anchor of shape j, 12 + j its columns, 15 + j its rows -/
def zfst (p : Nat → Bool) : Nat → Nat → Int
  | 0, _ => -1
  | n + 1, k => if p k then (k : Int) else zfst p n (k + 1)
/-- the member on a cell, -1 without one -/
def onS (S : zM) (c : Int) : Int := zfst (fun m => decide (S 1 m = c)) 10 0
abbrev isM (S : zM) (m : Int) : Prop := 0 ≤ m ∧ m < 10 ∧ 0 ≤ S 1 m.toNat
def ldr (S : zM) : Int := if isM S (S 8 0) then S 8 0 else zfst (fun m => decide (0 ≤ S 1 m)) 10 0
/-- how many members there are, of the first n -/
def cntM (S : zM) : Nat → Int
  | 0 => 0
  | n + 1 => cntM S n + (if 0 ≤ S 1 n then 1 else 0)
def sumW (S : zM) : Nat → Int
  | 0 => 0
  | n + 1 => sumW S n + S 0 n
def RelC (M : zM) (a : Nat) (S : zM) : Prop :=
  (∀ c : Nat, c < 120 → M (a + 1) c = if S 0 c = 1 then -2 else onS S c) ∧
  (∀ m : Nat, m < 10 → M (a + 2) m = if S 1 m < 0 then -5 else S 1 m) ∧
  (∀ m : Nat, m < 10 → M (a + 3) m = S 6 m) ∧ (∀ m : Nat, m < 10 → M (a + 4) m = S 2 m) ∧ (∀ m : Nat, m < 10 → M (a + 5) m = S 3 m) ∧
  (∀ m : Nat, m < 10 → M (a + 6) m = S 4 m) ∧ (∀ m : Nat, m < 10 → M (a + 7) m = S 5 m) ∧ (∀ k : Nat, k < 8 → M (a + 8) k = S 7 k) ∧
  M a 9 = (if S 8 0 < 0 then -5 else S 8 0) ∧ M a 10 = (if S 8 1 < 0 then -5 else S 8 1) ∧ M a 11 = S 8 2 ∧
  (∀ j : Nat, j < 3 → M (a + 10 + 3 * j) 2 = S (9 + j) 0 ∧ M (a + 10 + 3 * j) 3 = S (9 + j) 1 ∧ ∀ s : Nat, s < 10 → M (a + 11 + 3 * j) s = S (12 + j) s ∧ M (a + 12 + 3 * j) s = S (15 + j) s)
def WfS (S : zM) : Prop :=
  (∀ c : Nat, c < 120 → S 0 c = 0 ∨ S 0 c = 1) ∧
  (∀ m : Nat, m < 10 → -1 ≤ S 1 m ∧ S 1 m < 120) ∧
  (∀ m : Nat, m < 10 → S 7 7 ≤ m → S 1 m = -1 ∧ S 2 m = 0 ∧ S 3 m = 0 ∧ S 4 m = 0 ∧ S 5 m = 0 ∧ S 6 m = -5) ∧
  (∀ m : Nat, m < 10 → 0 ≤ S 1 m → S 0 (S 1 m).toNat = 0) ∧
  (∀ m k : Nat, m < 10 → k < 10 → 0 ≤ S 1 m → S 1 m = S 1 k → m = k) ∧
  (0 ≤ S 7 7 ∧ S 7 7 ≤ 10 ∧ S 7 7 - S 7 5 = cntM S 10) ∧
  (-1 ≤ S 8 0 ∧ S 8 0 < 10) ∧ (-1 ≤ S 8 1 ∧ S 8 1 < 120) ∧ (0 ≤ S 8 2 ∧ S 8 2 < 3) ∧
  (∀ j : Nat, j < 3 → 0 ≤ S (9 + j) 0 ∧ S (9 + j) 0 ≤ 10 ∧ (S (9 + j) 0 = 0 → S (9 + j) 1 = -5) ∧ (0 < S (9 + j) 0 → 0 ≤ S (9 + j) 1 ∧ S (9 + j) 1 < S (9 + j) 0) ∧
    ∀ s : Nat, (s : Int) < S (9 + j) 0 → 0 ≤ S (12 + j) s ∧ S (12 + j) s < 6 ∧ 0 ≤ S (15 + j) s ∧ S (15 + j) s < 6)
theorem zfst_rng (p : Nat → Bool) : ∀ n k : Nat, zfst p n k = -1 ∨ ∃ m : Nat, zfst p n k = m ∧ k ≤ m ∧ m < k + n ∧ p m = true ∧ ∀ j, k ≤ j → j < m → p j = false
  | 0, _ => Or.inl rfl
  | n + 1, k => by
    unfold zfst
    by_cases h : p k = true
    · rw [if_pos h]
      exact Or.inr ⟨k, rfl, Nat.le_refl k, by omega, h, fun j h1 h2 => by omega⟩
    · rw [if_neg h]
      rcases zfst_rng p n (k + 1) with h2 | ⟨m, h2, h3, h4, h5, h6⟩
      · exact Or.inl h2
      · refine Or.inr ⟨m, h2, by omega, by omega, h5, fun j h7 h8 => ?_⟩
        by_cases q : j = k
        · subst q; simpa using h
        · exact h6 j (by omega) h8
theorem zfst_none (p : Nat → Bool) : ∀ n k : Nat, zfst p n k = -1 → ∀ j, k ≤ j → j < k + n → p j = false
  | 0, _, _, j, h1, h2 => by omega
  | n + 1, k, h, j, h1, h2 => by
    unfold zfst at h
    by_cases hp : p k = true
    · rw [if_pos hp] at h; omega
    · rw [if_neg hp] at h
      by_cases q : j = k
      · subst q; simpa using hp
      · exact zfst_none p n (k + 1) h j (by omega) (by omega)
/-! what a world's cells are -/
theorem zkcW {a : Nat} (ha : zkc a = 10) : a < 209 ∧ a % 19 = 0 := by
  have h : (List.range zN).all (fun a => decide (zkc a = 10 → a < 209 ∧ a % 19 = 0)) = true := by decide +kernel
  have hl : a < zN := zk_in (fun q => by unfold zkc at ha; rw [q] at ha; cases ha)
  exact of_decide_eq_true (List.all_eq_true.mp h a (List.mem_range.mpr hl)) ha
theorem zinW {a : Nat} (ha : zkc a = 10) (i : Int) : zin 0 (a + 1) i = (0 ≤ i ∧ i < 120) ∧ zin 0 (a + 2) i = (0 ≤ i ∧ i < 10) ∧ zin 0 (a + 3) i = (0 ≤ i ∧ i < 10) ∧ zin 0 (a + 4) i = (0 ≤ i ∧ i < 10) ∧ zin 0 (a + 5) i = (0 ≤ i ∧ i < 10) ∧ zin 0 (a + 6) i = (0 ≤ i ∧ i < 10) ∧ zin 0 (a + 7) i = (0 ≤ i ∧ i < 10) ∧ zin 0 (a + 8) i = (0 ≤ i ∧ i < 8) ∧ zin 3 (a + 9) i = (0 ≤ i ∧ i < 3) := by
  obtain ⟨h1, h2⟩ := zkcW ha
  have hk : ∀ k, k < 19 → zk (a + k) = zkW (a + k) k := by
    intro k hk
    unfold zk
    rw [if_pos (by omega), show (a + k) % 19 = k by omega]
  unfold zin
  rw [hk 1 (by omega), hk 2 (by omega), hk 3 (by omega), hk 4 (by omega), hk 5 (by omega), hk 6 (by omega), hk 7 (by omega), hk 8 (by omega), hk 9 (by omega)]
  simp [zkW]
theorem s_living (d : Nat) (Q : zQ) (M : zM) (a : Nat) (ha : zkc a = 10) : Sp (d + 1) 54 [.inr (.inr a)] M Q = Q (some (.inl (M (a + 8) 7 - M (a + 8) 5))) M := by
  have h := (zinW ha 7).2.2.2.2.2.2.2.1
  have h2 := (zinW ha 5).2.2.2.2.2.2.2.1
  simp only [↓e54, ↓e54_0, ↓e54_1, ↓e54_4, ↓e54_6, ↓e54_7, ↓e54_8, ↓e54_11, ↓e54_12, ↓e54_13, ↓e54_14, znl_i, znl_r, znl_n, zcs_0, zcs_1, zcs_2, zcs_3, zcat_0, zcat_1, zcat_2, zcat_3, zbl_0, zbl_1, true_and, and_true, ↓zret_some, ↓zret_none, Nat.reduceAdd, Nat.reduceLeDiff, Nat.reduceMul, eq_self, Int.reduceToNat, ha, h, h2]
  simp
theorem s_hasMember (d : Nat) (Q : zQ) (M S : zM) (a : Nat) (m : Int) (ha : zkc a = 10) (hR : RelC M a S) (hW : WfS S) (hm : zrg m) : Sp (d + 1) 55 [.inr (.inr a), .inl m] M Q = Q (some (.inl (zb (isM S m)))) M := by
  have h := (zinW ha m).2.1
  simp only [↓e55, ↓e55_0, ↓e55_1, ↓e55_4, ↓e55_5, ↓e55_7, ↓e55_10, ↓e55_11, ↓e55_14, ↓e55_15, ↓e55_16, ↓e55_19, ↓e55_20, ↓e55_23, ↓e55_24, znl_i, znl_r, znl_n, zcs_0, zcs_1, zcs_2, zcs_3, zcat_0, zcat_1, zcat_2, zcat_3, zbl_0, zbl_1, true_and, and_true, ↓zret_some, ↓zret_none, Nat.reduceAdd, Nat.reduceLeDiff, Nat.reduceMul, eq_self, Int.reduceToNat, ha, h, zrg, zb] at hm ⊢
  by_cases h1 : 0 ≤ m ∧ m < 10
  · obtain ⟨n, rfl⟩ : ∃ n : Nat, m = n := ⟨m.toNat, by omega⟩
    have h2 := hR.2.1 n (by omega)
    have h3 := hW.2.1 n (by omega)
    simp only [Int.toNat_natCast, isM]
    grind
  · have h4 : ¬ isM S m := fun q => h1 ⟨q.1, q.2.1⟩
    grind
