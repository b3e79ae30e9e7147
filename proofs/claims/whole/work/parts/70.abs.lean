/-! ### rounds on the abstract world -/
theorem onS_rng (S : zM) (x : Int) : -1 ≤ onS S x ∧ onS S x < 10 := by
  unfold onS
  rcases zfst_rng (fun m => decide (S 1 m = x)) 10 0 with h | ⟨m, h, h2, h3, -⟩ <;> omega
theorem onS_none {S : zM} {x : Int} : onS S x = -1 ↔ ∀ m : Nat, m < 10 → S 1 m ≠ x := by
  constructor
  · intro h m hm
    have := zfst_none (fun m => decide (S 1 m = x)) 10 0 h m (by omega) (by omega)
    simpa using this
  · intro h
    unfold onS
    rcases zfst_rng (fun m => decide (S 1 m = x)) 10 0 with h2 | ⟨m, h2, h3, h4, h5, -⟩
    · exact h2
    · simp at h5
      exact absurd h5 (h m (by omega))
theorem onS_some {S : zM} {x : Int} {m : Nat} (h : onS S x = m) : m < 10 ∧ S 1 m = x := by
  unfold onS at h
  rcases zfst_rng (fun m => decide (S 1 m = x)) 10 0 with h2 | ⟨k, h2, h3, h4, h5, -⟩
  · omega
  · obtain rfl : k = m := by omega
    simp at h5
    exact ⟨by omega, h5⟩
theorem onS_at {S : zM} {x : Int} {m : Nat} (hm : m < 10) (h : S 1 m = x) (hi : ∀ k : Nat, k < 10 → S 1 k = x → k = m) : onS S x = m := by
  have hr := onS_rng S x
  by_cases z : onS S x = -1
  · exact absurd h (onS_none.mp z m hm)
  · obtain ⟨k, hk⟩ : ∃ k : Nat, onS S x = k := ⟨(onS S x).toNat, by omega⟩
    have := onS_some hk
    rw [hk, hi k this.1 this.2]
theorem onS_me {S : zM} (hW : WfS S) {m : Nat} (hm : m < 10) (h0 : 0 ≤ S 1 m) : onS S (S 1 m) = m :=
  onS_at hm rfl (fun k hk h => (hW.2.2.2.2.1 m k hm hk h0 h.symm).symm)
theorem cntM_congr {S T : zM} : ∀ n : Nat, n ≤ 10 → (∀ m : Nat, m < 10 → (0 ≤ T 1 m ↔ 0 ≤ S 1 m)) → cntM T n = cntM S n
  | 0, _, _ => rfl
  | n + 1, h, ha => by
    unfold cntM
    rw [cntM_congr n (by omega) ha]
    have := ha n (by omega)
    by_cases z : 0 ≤ S 1 n
    · rw [if_pos z, if_pos (this.mpr z)]
    · rw [if_neg z, if_neg (fun y => z (this.mp y))]
theorem zfst_congr {p q : Nat → Bool} : ∀ n k : Nat, (∀ j, k ≤ j → j < k + n → p j = q j) → zfst p n k = zfst q n k
  | 0, _, _ => rfl
  | n + 1, k, h => by
    unfold zfst
    rw [h k (Nat.le_refl k) (by omega), zfst_congr n (k + 1) (fun j h1 h2 => h j (by omega) (by omega))]
theorem ldr_mv {S T : zM} (ha : ∀ m : Nat, m < 10 → (0 ≤ T 1 m ↔ 0 ≤ S 1 m)) (h8 : T 8 0 = S 8 0) : ldr T = ldr S := by
  have h1 : isM T (T 8 0) ↔ isM S (S 8 0) := by
    rw [h8]
    constructor
    · intro h; exact ⟨h.1, h.2.1, (ha _ (by have := h.1; have := h.2.1; omega)).mp h.2.2⟩
    · intro h; exact ⟨h.1, h.2.1, (ha _ (by have := h.1; have := h.2.1; omega)).mpr h.2.2⟩
  unfold ldr
  by_cases z : isM S (S 8 0)
  · rw [if_pos z, if_pos (h1.mpr z), h8]
  · rw [if_neg z, if_neg (fun y => z (h1.mp y))]
    exact zfst_congr 10 0 (fun j _ hj => by
      have := ha j (by omega)
      by_cases y : 0 ≤ S 1 j
      · simp [y, this.mpr y]
      · have y2 : ¬ 0 ≤ T 1 j := fun w => y (this.mp w)
        simp [y, y2])
/-- members move: what keeps the world right -/
theorem WfS_mv {S T : zM} (hW : WfS S) (h0 : T 0 = S 0) (h8 : T 8 = S 8) (h9 : ∀ b, 9 ≤ b → T b = S b) (h7 : T 7 7 = S 7 7 ∧ T 7 5 = S 7 5)
    (hc : ∀ m : Nat, m < 10 → 0 ≤ S 1 m → 0 ≤ T 1 m ∧ T 1 m < 120 ∧ S 0 (T 1 m).toNat = 0) (hn : ∀ m : Nat, m < 10 → S 1 m < 0 → ∀ b, 1 ≤ b → b ≤ 6 → T b m = S b m)
    (hi : ∀ m k : Nat, m < 10 → k < 10 → 0 ≤ S 1 m → 0 ≤ S 1 k → T 1 m = T 1 k → m = k) : WfS T ∧ ldr T = ldr S ∧ ∀ m : Nat, m < 10 → (0 ≤ T 1 m ↔ 0 ≤ S 1 m) := by
  have ha : ∀ m : Nat, m < 10 → (0 ≤ T 1 m ↔ 0 ≤ S 1 m) := fun m hm => by
    constructor
    · intro h
      rcases Int.lt_or_le (S 1 m) 0 with z | z
      · have := hn m hm z 1 (by omega) (by omega); omega
      · exact z
    · intro h; exact (hc m hm h).1
  obtain ⟨w1, w2, w3, w4, w5, w6, w7, w8, w9, w10⟩ := hW
  refine ⟨⟨?_, fun m hm => ?_, fun m hm h => ?_, fun m hm h => ?_, fun m k hm hk h1 h2 => ?_, ?_, ?_, ?_, ?_, ?_⟩, ldr_mv ha (by rw [h8]), ha⟩
  · rw [h0]; exact w1
  · rcases Int.lt_or_le (S 1 m) 0 with z | z
    · rw [hn m hm z 1 (by omega) (by omega)]; exact w2 m hm
    · have := hc m hm z; omega
  · rw [h7.1] at h
    have h3 := w3 m hm h
    have h4 := hn m hm (by omega)
    rw [h4 1 (by omega) (by omega), h4 2 (by omega) (by omega), h4 3 (by omega) (by omega), h4 4 (by omega) (by omega), h4 5 (by omega) (by omega), h4 6 (by omega) (by omega)]
    exact h3
  · rw [h0]; exact (hc m hm ((ha m hm).mp h)).2.2
  · exact hi m k hm hk ((ha m hm).mp h1) ((ha k hk).mp (by omega)) h2
  · rw [h7.1, h7.2, cntM_congr 10 (Nat.le_refl _) ha]; exact w6
  · rw [h8]; exact w7
  · rw [h8]; exact w8
  · rw [h8]; exact w9
  · intro j hj
    rw [h9 (9 + j) (by omega), h9 (12 + j) (by omega), h9 (15 + j) (by omega)]
    exact w10 j hj
/-- the first neighbour, by direction, that is as asked -/
def fdr (ok : Nat → Bool) (c : Int) : Nat → Nat → Int
  | 0, _ => -1
  | n + 1, k => if 0 ≤ nb c k ∧ ok (nb c k).toNat = true then nb c k else fdr ok c n (k + 1)
theorem fdr_cases {ok : Nat → Bool} {c : Int} : ∀ n k : Nat, fdr ok c n k = -1 ∨ ∃ j : Nat, k ≤ j ∧ j < k + n ∧ fdr ok c n k = nb c j ∧ 0 ≤ nb c j ∧ ok (nb c j).toNat = true
  | 0, _ => Or.inl rfl
  | n + 1, k => by
    unfold fdr
    split
    · rename_i h
      exact Or.inr ⟨k, Nat.le_refl k, by omega, rfl, h.1, h.2⟩
    · rcases fdr_cases (ok := ok) (c := c) n (k + 1) with h | ⟨j, h1, h2, h3⟩
      · exact Or.inl h
      · exact Or.inr ⟨j, by omega, by omega, h3⟩
theorem fdr_none {ok : Nat → Bool} {c : Int} : ∀ n k : Nat, fdr ok c n k = -1 → ∀ j : Nat, k ≤ j → j < k + n → 0 ≤ nb c j → ok (nb c j).toNat = false
  | 0, _, _, j, h1, h2, _ => by omega
  | n + 1, k, h, j, h1, h2, h3 => by
    unfold fdr at h
    split at h
    · rename_i h4; omega
    · rename_i h4
      by_cases z : j = k
      · subst z
        rcases hb : ok (nb c j).toNat with _ | _
        · rfl
        · exact absurd ⟨h3, hb⟩ h4
      · exact fdr_none n (k + 1) h j (by omega) (by omega) h3
theorem fdr_congr {ok ok' : Nat → Bool} {c : Int} (h : ∀ x, ok x = ok' x) : ∀ n k : Nat, fdr ok c n k = fdr ok' c n k
  | 0, _ => rfl
  | n + 1, k => by
    unfold fdr
    rw [fdr_congr h n (k + 1), h]
abbrev frst (ok : Nat → Bool) (c : Int) : Int := fdr ok c 4 0
theorem frst_cases {ok : Nat → Bool} {c : Int} (hc : 0 ≤ c ∧ c < 120) : frst ok c = -1 ∨ (0 ≤ frst ok c ∧ frst ok c < 120 ∧ ok (frst ok c).toNat = true ∧ frst ok c ≠ c) := by
  rcases fdr_cases (ok := ok) (c := c) 4 0 with h | ⟨j, h1, h2, h3, h4, h5⟩
  · exact Or.inl h
  · have hne : nb c j ≠ c := by
      unfold nb at h4 ⊢
      repeat' split
      all_goals (rename_i _ ; omega)
    have := nb_rng (k := j) hc h4
    rw [← h3] at h4 h5 hne this
    exact Or.inr ⟨h4, this, h5, hne⟩
noncomputable def kGood (S : zM) (p c x : Nat) : Bool := decide (dst (S 0) p x = dst (S 0) p c - 1)
noncomputable def kFree (S : zM) (p c x : Nat) : Bool := kGood S p c x && decide (onS S x = -1)
noncomputable def kPart (S : zM) (pl : Nat → Int) (p c x : Nat) : Bool := kGood S p c x && decide (0 ≤ onS S x ∧ 0 ≤ pl (onS S x).toNat ∧ dst (S 0) (pl (onS S x).toNat).toNat c < dst (S 0) (pl (onS S x).toNat).toNat x)
def kSide (S : zM) (x : Nat) : Bool := decide (S 0 x ≠ 1 ∧ onS S x = -1)
def sput (S : zM) (m : Nat) (c r : Int) : zM := zup (zup (zup (zup S 1 m c) 3 m (S 3 m + 1)) 2 m 0) 6 m r
def sacc (S : zM) (k : Nat) : zM := zup S 7 k (S 7 k + 1)
def sstay (S : zM) (m : Nat) (r : Int) : zM := zup (zup (zup S 4 m (S 4 m + 1)) 7 2 (S 7 2 + 1)) 6 m r
noncomputable def actS (pl : Nat → Int) (S : zM) (m : Nat) : zM :=
  if S 1 m = pl m then S
  else if 0 ≤ frst (kFree S (pl m).toNat (S 1 m).toNat) (S 1 m) then sacc (sput S m (frst (kFree S (pl m).toNat (S 1 m).toNat) (S 1 m)) 0) 1
  else if 0 ≤ frst (kPart S pl (pl m).toNat (S 1 m).toNat) (S 1 m) then sacc (sput (sput S m (frst (kPart S pl (pl m).toNat (S 1 m).toNat) (S 1 m)) 4) (onS S (frst (kPart S pl (pl m).toNat (S 1 m).toNat) (S 1 m))).toNat (S 1 m) 4) 3
  else if 2 ≤ S 2 m ∧ 0 ≤ frst (kSide S) (S 1 m) then sacc (sput S m (frst (kSide S) (S 1 m)) 5) 4
  else zup (sstay S m 3) 2 m (S 2 m + 1)
/-- one member moves to a free cell -/
theorem WfS_put {S T : zM} (hW : WfS S) {m : Nat} {c : Int} (hm : m < 10) (h0 : 0 ≤ S 1 m) (hc : 0 ≤ c ∧ c < 120) (hw : S 0 c.toNat ≠ 1) (hf : onS S c = -1) (hT1 : ∀ j, T 1 j = if j = m then c else S 1 j)
    (hT : ∀ b, b = 0 ∨ 8 ≤ b → T b = S b) (hT7 : T 7 7 = S 7 7 ∧ T 7 5 = S 7 5) (hTo : ∀ b j, j ≠ m → 1 ≤ b → b ≤ 6 → T b j = S b j) : WfS T ∧ ldr T = ldr S ∧ ∀ m : Nat, m < 10 → (0 ≤ T 1 m ↔ 0 ≤ S 1 m) := by
  have hno := onS_none.mp hf
  refine WfS_mv hW (hT 0 (Or.inl rfl)) (hT 8 (Or.inr (Nat.le_refl 8))) (fun b hb => hT b (Or.inr (by omega))) hT7 (fun j hj h => ?_) (fun j hj h b b1 b2 => ?_) (fun j k hj hk h1 h2 h3 => ?_)
  · rw [hT1]
    by_cases z : j = m
    · rw [if_pos z]
      have := hW.1 c.toNat (by omega)
      exact ⟨hc.1, hc.2, by omega⟩
    · rw [if_neg z]
      exact ⟨h, (hW.2.1 j hj).2, hW.2.2.2.1 j hj h⟩
  · exact hTo b j (fun z => by subst z; omega) b1 b2
  · rw [hT1, hT1] at h3
    by_cases z : j = m
    · by_cases y : k = m
      · omega
      · rw [if_pos z, if_neg y] at h3
        exact absurd h3.symm (hno k hk)
    · by_cases y : k = m
      · rw [if_neg z, if_pos y] at h3
        exact absurd h3 (hno j hj)
      · rw [if_neg z, if_neg y] at h3
        exact hW.2.2.2.2.1 j k hj hk h1 h3
/-- two members change their cells -/
theorem WfS_xch {S T : zM} (hW : WfS S) {m o : Nat} (hm : m < 10) (ho : o < 10) (hmo : m ≠ o) (h0 : 0 ≤ S 1 m) (h1 : 0 ≤ S 1 o) (hT1 : ∀ j, T 1 j = if j = m then S 1 o else if j = o then S 1 m else S 1 j)
    (hT : ∀ b, b = 0 ∨ 8 ≤ b → T b = S b) (hT7 : T 7 7 = S 7 7 ∧ T 7 5 = S 7 5) (hTo : ∀ b j, j ≠ m → j ≠ o → 1 ≤ b → b ≤ 6 → T b j = S b j) : WfS T ∧ ldr T = ldr S ∧ ∀ m : Nat, m < 10 → (0 ≤ T 1 m ↔ 0 ≤ S 1 m) := by
  have hin := hW.2.2.2.2.1
  refine WfS_mv hW (hT 0 (Or.inl rfl)) (hT 8 (Or.inr (Nat.le_refl 8))) (fun b hb => hT b (Or.inr (by omega))) hT7 (fun j hj h => ?_) (fun j hj h b b1 b2 => ?_) (fun j k hj hk h1' h2 h3 => ?_)
  · rw [hT1]
    have hx : ∀ k : Nat, k < 10 → 0 ≤ S 1 k → 0 ≤ S 1 k ∧ S 1 k < 120 ∧ S 0 (S 1 k).toNat = 0 := fun k hk h => ⟨h, (hW.2.1 k hk).2, hW.2.2.2.1 k hk h⟩
    split
    · exact hx o ho h1
    · split
      · exact hx m hm h0
      · exact hx j hj h
  · exact hTo b j (fun z => by subst z; omega) (fun z => by subst z; omega) b1 b2
  · rw [hT1, hT1] at h3
    by_cases z : j = m
    · by_cases y : k = m
      · omega
      · rw [if_pos z, if_neg y] at h3
        by_cases x : k = o
        · rw [if_pos x] at h3
          have := hin o m ho hm h1 h3
          omega
        · rw [if_neg x] at h3
          have := hin o k ho hk h1 h3
          omega
    · rw [if_neg z] at h3
      by_cases y : k = m
      · rw [if_pos y] at h3
        by_cases x : j = o
        · rw [if_pos x] at h3
          have := hin m o hm ho h0 h3
          omega
        · rw [if_neg x] at h3
          have := hin j o hj ho h1' h3
          omega
      · rw [if_neg y] at h3
        by_cases x : j = o
        · by_cases v : k = o
          · omega
          · rw [if_pos x, if_neg v] at h3
            have := hin m k hm hk h0 h3
            omega
        · by_cases v : k = o
          · rw [if_neg x, if_pos v] at h3
            have := hin j m hj hm h1' h3
            omega
          · rw [if_neg x, if_neg v] at h3
            exact hin j k hj hk h1' h3
/-- nobody moves -/
theorem WfS_stay {S T : zM} (hW : WfS S) (hT : ∀ b, b = 0 ∨ b = 1 ∨ 8 ≤ b → T b = S b) (hT7 : T 7 7 = S 7 7 ∧ T 7 5 = S 7 5) (hTo : ∀ b j, S 1 j < 0 → 1 ≤ b → b ≤ 6 → T b j = S b j) : WfS T ∧ ldr T = ldr S ∧ ∀ m : Nat, m < 10 → (0 ≤ T 1 m ↔ 0 ≤ S 1 m) := by
  have h1 : T 1 = S 1 := hT 1 (by omega)
  refine WfS_mv hW (hT 0 (by omega)) (hT 8 (by omega)) (fun b hb => hT b (by omega)) hT7 (fun j hj h => ?_) (fun j hj h b b1 b2 => hTo b j h b1 b2) (fun j k hj hk h1' h2 h3 => ?_)
  · rw [h1]; exact ⟨h, (hW.2.1 j hj).2, hW.2.2.2.1 j hj h⟩
  · rw [h1] at h3; exact hW.2.2.2.2.1 j k hj hk h1' h3
