/-! ### those changes in the class's cells and in the reference's -/
theorem RelC_join {M S : zM} (hR : RelC M 0 S) (hW : WfS S) {c : Int} (hc : 0 ≤ c ∧ c < 120) (hw : S 0 c.toNat ≠ 1) (hf : onS S c = -1) (h10 : S 7 7 < 10) : RelC (zup (zup (zup M 8 7 (M 8 7 + 1)) 2 (M 8 7).toNat c) 1 c.toNat (M 8 7)) 0 (jn S c) := by
  have hno := onS_none.mp hf
  have hW' := hW
  obtain ⟨w1, w2, w3, w4, w5, w6, w7, w8, w9, w10⟩ := hW'
  obtain ⟨r1, r2, r3, r4, r5, r6, r7, r8, r9, r10, r11, r12⟩ := hR
  simp only [Nat.zero_add] at *
  have h87 := r8 7 (by omega)
  obtain ⟨m, hm⟩ : ∃ m : Nat, S 7 7 = m := ⟨(S 7 7).toNat, by omega⟩
  rw [h87, hm, Int.toNat_natCast]
  have eb : ∀ b, b ≠ 1 → b ≠ 7 → jn S c b = S b := fun b b1 b7 => by unfold jn; rw [zup_ne _ _ _ b7, zup_ne _ _ _ b1]
  have e1 : ∀ j, jn S c 1 j = if j = m then c else S 1 j := fun j => by unfold jn; rw [zup_ne _ _ _ (by omega), hm, Int.toNat_natCast]; unfold zup; simp
  have m1 : ∀ b, b ≠ 1 → b ≠ 2 → b ≠ 8 → zup (zup (zup M 8 7 ((m : Int) + 1)) 2 m c) 1 c.toNat (m : Int) b = M b := fun b b1 b2 b8 => by rw [zup_ne _ _ _ b1, zup_ne _ _ _ b2, zup_ne _ _ _ b8]
  unfold RelC
  simp only [Nat.zero_add]
  refine ⟨fun x hx => ?_, fun k hk => ?_, ?_, ?_, ?_, ?_, ?_, fun k hk => ?_, ?_, ?_, ?_, fun j hj => ?_⟩
  · rw [eb 0 (by omega) (by omega)]
    have e : zup (zup (zup M 8 7 ((m : Int) + 1)) 2 m c) 1 c.toNat (m : Int) 1 x = if x = c.toNat then (m : Int) else M 1 x := by simp [zup]
    rw [e]
    by_cases z : x = c.toNat
    · subst z
      rw [if_pos rfl, if_neg hw]
      refine (onS_at (by omega) (by rw [e1, if_pos rfl]; omega) (fun k hk h => ?_)).symm
      rw [e1] at h
      by_cases y : k = m
      · exact y
      · rw [if_neg y] at h
        exact absurd (by rw [h]; omega) (hno k hk)
    · rw [if_neg z, r1 x hx]
      by_cases v : S 0 x = 1
      · rw [if_pos v, if_pos v]
      · rw [if_neg v, if_neg v]
        unfold onS
        refine zfst_congr 10 0 (fun k _ hk => ?_)
        rw [e1]
        by_cases w : k = m
        · subst w
          rw [if_pos rfl]
          have a1 : ¬ S 1 k = (x : Int) := by have := (w3 k (by omega) (by omega)).1; omega
          have a2 : ¬ c = (x : Int) := by omega
          simp [a1, a2]
        · rw [if_neg w]
  · have e : zup (zup (zup M 8 7 ((m : Int) + 1)) 2 m c) 1 c.toNat (m : Int) 2 k = if k = m then c else M 2 k := by simp [zup]
    rw [e, e1]
    by_cases z : k = m
    · rw [if_pos z, if_pos z, if_neg (by omega)]
    · rw [if_neg z, if_neg z]; exact r2 k hk
  · rw [m1 3 (by omega) (by omega) (by omega), eb 6 (by omega) (by omega)]; exact r3
  · rw [m1 4 (by omega) (by omega) (by omega), eb 2 (by omega) (by omega)]; exact r4
  · rw [m1 5 (by omega) (by omega) (by omega), eb 3 (by omega) (by omega)]; exact r5
  · rw [m1 6 (by omega) (by omega) (by omega), eb 4 (by omega) (by omega)]; exact r6
  · rw [m1 7 (by omega) (by omega) (by omega), eb 5 (by omega) (by omega)]; exact r7
  · have := r8 k hk
    unfold jn
    rw [zup_ne _ _ _ (by omega), zup_ne _ _ _ (by omega)]
    by_cases z : k = 7
    · subst z; rw [zup_at, zup_at, hm]
    · rw [zup_off _ _ (Or.inr z), zup_off _ _ (Or.inr z), zup_ne _ _ _ (by omega)]; exact this
  · rw [m1 0 (by omega) (by omega) (by omega), eb 8 (by omega) (by omega)]; exact r9
  · rw [m1 0 (by omega) (by omega) (by omega), eb 8 (by omega) (by omega)]; exact r10
  · rw [m1 0 (by omega) (by omega) (by omega), eb 8 (by omega) (by omega)]; exact r11
  · rw [m1 (10 + 3 * j) (by omega) (by omega) (by omega), m1 (11 + 3 * j) (by omega) (by omega) (by omega), m1 (12 + 3 * j) (by omega) (by omega) (by omega), eb (9 + j) (by omega) (by omega), eb (12 + j) (by omega) (by omega), eb (15 + j) (by omega) (by omega)]
    exact r12 j hj
theorem RelC_part {M S : zM} (hR : RelC M 0 S) (hW : WfS S) {m : Nat} (hm : m < 10) (h0 : 0 ≤ S 1 m) : RelC (zup (zup (zup M 1 (M 2 m).toNat (-1)) 2 m (-5)) 8 5 (M 8 5 + 1)) 0 (pt S m) := by
  have hW' := hW
  obtain ⟨w1, w2, w3, w4, w5, w6, w7, w8, w9, w10⟩ := hW'
  obtain ⟨r1, r2, r3, r4, r5, r6, r7, r8, r9, r10, r11, r12⟩ := hR
  simp only [Nat.zero_add] at *
  have hcell := r2 m hm
  rw [if_neg (by omega)] at hcell
  have hc2 := (w2 m hm).2
  have hwm := w4 m hm h0
  rw [hcell]
  have eb : ∀ b, b ≠ 1 → b ≠ 7 → pt S m b = S b := fun b b1 b7 => by unfold pt; rw [zup_ne _ _ _ b7, zup_ne _ _ _ b1]
  have e1 : ∀ j, pt S m 1 j = if j = m then -1 else S 1 j := fun j => by unfold pt; rw [zup_ne _ _ _ (by omega)]; unfold zup; simp
  have m1 : ∀ b, b ≠ 1 → b ≠ 2 → b ≠ 8 → zup (zup (zup M 1 (S 1 m).toNat (-1)) 2 m (-5)) 8 5 (M 8 5 + 1) b = M b := fun b b1 b2 b8 => by rw [zup_ne _ _ _ b8, zup_ne _ _ _ b2, zup_ne _ _ _ b1]
  unfold RelC
  simp only [Nat.zero_add]
  refine ⟨fun x hx => ?_, fun k hk => ?_, ?_, ?_, ?_, ?_, ?_, fun k hk => ?_, ?_, ?_, ?_, fun j hj => ?_⟩
  · rw [eb 0 (by omega) (by omega)]
    have e : zup (zup (zup M 1 (S 1 m).toNat (-1)) 2 m (-5)) 8 5 (M 8 5 + 1) 1 x = if x = (S 1 m).toNat then -1 else M 1 x := by simp [zup]
    rw [e]
    by_cases z : x = (S 1 m).toNat
    · subst z
      rw [if_pos rfl, if_neg (by omega)]
      refine (onS_none.mpr (fun k hk => ?_)).symm
      rw [e1]
      by_cases w : k = m
      · rw [if_pos w]; omega
      · rw [if_neg w]
        intro q
        exact w (w5 m k hm hk h0 (by omega)).symm
    · rw [if_neg z, r1 x hx]
      by_cases v : S 0 x = 1
      · rw [if_pos v, if_pos v]
      · rw [if_neg v, if_neg v]
        unfold onS
        refine zfst_congr 10 0 (fun k _ hk => ?_)
        rw [e1]
        by_cases w : k = m
        · subst w
          rw [if_pos rfl]
          have a1 : ¬ S 1 k = (x : Int) := by omega
          have a2 : ¬ (-1 : Int) = (x : Int) := by omega
          simp [a1, a2]
        · rw [if_neg w]
  · have e : zup (zup (zup M 1 (S 1 m).toNat (-1)) 2 m (-5)) 8 5 (M 8 5 + 1) 2 k = if k = m then -5 else M 2 k := by simp [zup]
    rw [e, e1]
    by_cases z : k = m
    · rw [if_pos z, if_pos z, if_pos (by omega)]
    · rw [if_neg z, if_neg z]; exact r2 k hk
  · rw [m1 3 (by omega) (by omega) (by omega), eb 6 (by omega) (by omega)]; exact r3
  · rw [m1 4 (by omega) (by omega) (by omega), eb 2 (by omega) (by omega)]; exact r4
  · rw [m1 5 (by omega) (by omega) (by omega), eb 3 (by omega) (by omega)]; exact r5
  · rw [m1 6 (by omega) (by omega) (by omega), eb 4 (by omega) (by omega)]; exact r6
  · rw [m1 7 (by omega) (by omega) (by omega), eb 5 (by omega) (by omega)]; exact r7
  · have := r8 k hk
    have h5 := r8 5 (by omega)
    unfold pt
    by_cases z : k = 5
    · subst z; rw [zup_at, zup_at, h5]
    · rw [zup_off _ _ (Or.inr z), zup_off _ _ (Or.inr z), zup_ne _ _ _ (by omega), zup_ne _ _ _ (by omega), zup_ne _ _ _ (by omega)]; exact this
  · rw [m1 0 (by omega) (by omega) (by omega), eb 8 (by omega) (by omega)]; exact r9
  · rw [m1 0 (by omega) (by omega) (by omega), eb 8 (by omega) (by omega)]; exact r10
  · rw [m1 0 (by omega) (by omega) (by omega), eb 8 (by omega) (by omega)]; exact r11
  · rw [m1 (10 + 3 * j) (by omega) (by omega) (by omega), m1 (11 + 3 * j) (by omega) (by omega) (by omega), m1 (12 + 3 * j) (by omega) (by omega) (by omega), eb (9 + j) (by omega) (by omega), eb (12 + j) (by omega) (by omega), eb (15 + j) (by omega) (by omega)]
    exact r12 j hj
theorem RelC_wall {M S : zM} (hR : RelC M 0 S) (hW : WfS S) {c : Nat} (hc : c < 120) (hf : S 0 c = 1 ∨ onS S c = -1) : RelC (zup (zup M 1 c (if M 1 c = -2 then -1 else -2)) 8 6 (M 8 6 + (if M 1 c = -2 then -1 else 1))) 0 (wl S c) := by
  have hW' := hW
  obtain ⟨w1, w2, w3, w4, w5, w6, w7, w8, w9, w10⟩ := hW'
  obtain ⟨r1, r2, r3, r4, r5, r6, r7, r8, r9, r10, r11, r12⟩ := hR
  simp only [Nat.zero_add] at *
  have h01 := w1 c hc
  have hcell := r1 c hc
  have hr := onS_rng S c
  have hno : ∀ k : Nat, k < 10 → S 1 k ≠ (c : Int) := fun k hk => by
    rcases hf with h | h
    · intro z
      have := w4 k hk (by omega)
      rw [z, Int.toNat_natCast] at this
      omega
    · exact onS_none.mp h k hk
  have hon : onS S c = -1 := onS_none.mpr hno
  have hi : M 1 c = -2 ↔ S 0 c = 1 := by
    rw [hcell]
    split
    · rename_i h; exact ⟨fun _ => h, fun _ => rfl⟩
    · rename_i h; exact ⟨fun z => by omega, fun z => absurd z h⟩
  have eb : ∀ b, b ≠ 0 → b ≠ 7 → wl S c b = S b := fun b b1 b7 => by unfold wl; rw [zup_ne _ _ _ b7, zup_ne _ _ _ b1]
  have e0 : ∀ j, wl S c 0 j = if j = c then 1 - S 0 c else S 0 j := fun j => by unfold wl; rw [zup_ne _ _ _ (by omega)]; unfold zup; simp
  have eo : ∀ x, onS (wl S c) x = onS S x := fun x => by unfold onS; rw [eb 1 (by omega) (by omega)]
  have m1 : ∀ b u v, b ≠ 1 → b ≠ 8 → zup (zup M 1 c u) 8 6 v b = M b := fun b u v b1 b8 => by rw [zup_ne _ _ _ b8, zup_ne _ _ _ b1]
  unfold RelC
  simp only [Nat.zero_add]
  refine ⟨fun x hx => ?_, ?_, ?_, ?_, ?_, ?_, ?_, fun k hk => ?_, ?_, ?_, ?_, fun j hj => ?_⟩
  · rw [e0, eo, zup_ne _ _ _ (by omega)]
    by_cases z : x = c
    · subst z
      rw [zup_at, if_pos rfl, hon]
      by_cases y : S 0 x = 1
      · rw [if_pos (hi.mpr y), if_neg (by omega)]
      · rw [if_neg (fun w => y (hi.mp w)), if_pos (by omega)]
    · rw [zup_off _ _ (Or.inr z), if_neg z]; exact r1 x hx
  · rw [m1 2 _ _ (by omega) (by omega), eb 1 (by omega) (by omega)]; exact r2
  · rw [m1 3 _ _ (by omega) (by omega), eb 6 (by omega) (by omega)]; exact r3
  · rw [m1 4 _ _ (by omega) (by omega), eb 2 (by omega) (by omega)]; exact r4
  · rw [m1 5 _ _ (by omega) (by omega), eb 3 (by omega) (by omega)]; exact r5
  · rw [m1 6 _ _ (by omega) (by omega), eb 4 (by omega) (by omega)]; exact r6
  · rw [m1 7 _ _ (by omega) (by omega), eb 5 (by omega) (by omega)]; exact r7
  · have := r8 k hk
    have h6 := r8 6 (by omega)
    unfold wl
    by_cases z : k = 6
    · subst z
      rw [zup_at, zup_at, h6]
      by_cases y : S 0 c = 1
      · rw [if_pos (hi.mpr y), if_pos y]
      · rw [if_neg (fun w => y (hi.mp w)), if_neg y]
    · rw [zup_off _ _ (Or.inr z), zup_off _ _ (Or.inr z), zup_ne _ _ _ (by omega), zup_ne _ _ _ (by omega)]; exact this
  · rw [m1 0 _ _ (by omega) (by omega), eb 8 (by omega) (by omega)]; exact r9
  · rw [m1 0 _ _ (by omega) (by omega), eb 8 (by omega) (by omega)]; exact r10
  · rw [m1 0 _ _ (by omega) (by omega), eb 8 (by omega) (by omega)]; exact r11
  · rw [m1 (10 + 3 * j) _ _ (by omega) (by omega), m1 (11 + 3 * j) _ _ (by omega) (by omega), m1 (12 + 3 * j) _ _ (by omega) (by omega), eb (9 + j) (by omega) (by omega), eb (12 + j) (by omega) (by omega), eb (15 + j) (by omega) (by omega)]
    exact r12 j hj
theorem RelC_8 {M S : zM} (hR : RelC M 0 S) {k : Nat} {v : Int} (hk : k < 3) : RelC (zup M 0 (9 + k) (if k = 2 then v else if v < 0 then -5 else v)) 0 (zup S 8 k v) := by
  obtain ⟨r1, r2, r3, r4, r5, r6, r7, r8, r9, r10, r11, r12⟩ := hR
  have eb : ∀ b, b ≠ 8 → zup S 8 k v b = S b := fun b hb => zup_ne _ _ _ hb
  have eo : ∀ x, onS (zup S 8 k v) x = onS S x := fun x => by unfold onS; rw [eb 1 (by omega)]
  have m1 : ∀ b u, b ≠ 0 → zup M 0 (9 + k) u b = M b := fun b u b0 => zup_ne _ _ _ b0
  unfold RelC
  simp only [Nat.zero_add] at *
  refine ⟨fun x hx => ?_, ?_, ?_, ?_, ?_, ?_, ?_, ?_, ?_, ?_, ?_, fun j hj => ?_⟩
  · rw [m1 _ _ (by omega), eb 0 (by omega), eo]; exact r1 x hx
  · rw [m1 _ _ (by omega), eb 1 (by omega)]; exact r2
  · rw [m1 _ _ (by omega), eb 6 (by omega)]; exact r3
  · rw [m1 _ _ (by omega), eb 2 (by omega)]; exact r4
  · rw [m1 _ _ (by omega), eb 3 (by omega)]; exact r5
  · rw [m1 _ _ (by omega), eb 4 (by omega)]; exact r6
  · rw [m1 _ _ (by omega), eb 5 (by omega)]; exact r7
  · rw [m1 _ _ (by omega), eb 7 (by omega)]; exact r8
  · by_cases z : k = 0
    · subst z; rw [zup_at, zup_at, if_neg (by omega)]
    · rw [zup_off _ _ (Or.inr (by omega)), zup_off _ _ (Or.inr (by omega))]; exact r9
  · by_cases z : k = 1
    · subst z; rw [zup_at, zup_at, if_neg (by omega)]
    · rw [zup_off _ _ (Or.inr (by omega)), zup_off _ _ (Or.inr (by omega))]; exact r10
  · by_cases z : k = 2
    · subst z; rw [zup_at, zup_at, if_pos rfl]
    · rw [zup_off _ _ (Or.inr (by omega)), zup_off _ _ (Or.inr (by omega))]; exact r11
  · rw [m1 (10 + 3 * j) _ (by omega), m1 (11 + 3 * j) _ (by omega), m1 (12 + 3 * j) _ (by omega), eb (9 + j) (by omega), eb (12 + j) (by omega), eb (15 + j) (by omega)]
    exact r12 j hj
/-- the reference's row hangs together with S but for two accounts -/
theorem RelR_gen {M N S T : zM} (hR : RelR M 0 S) (hS : ∀ j : Nat, j < 3 → S (9 + j) 0 ≤ 10) (h0 : N 375 0 = T 7 7) (h8 : ∀ k : Nat, k < 3 → N 375 (1 + k) = T 8 k) (h7 : ∀ k : Nat, k < 8 → k ≠ 5 → k ≠ 6 → N 375 (4 + k) = T 7 k)
    (hm : ∀ m q : Nat, m < 10 → (m : Int) < T 7 7 → q < 6 → N 375 (12 + 6 * m + q) = T (q + 1) m) (hc : ∀ c : Nat, c < 120 → N 375 (72 + c) = T 0 c) (hs : ∀ j, 192 ≤ j → j < 258 → N 375 j = M 375 j) (hT : ∀ b, 9 ≤ b → T b = S b) : RelR N 0 T := by
  obtain ⟨a1, r2, r3, r4, r5⟩ := hR
  unfold RelR
  simp only [Nat.zero_add] at *
  refine ⟨⟨h0, h8 0 (by omega), h8 1 (by omega), h8 2 (by omega)⟩, h7, fun m k1 k2 => ⟨hm m 0 k1 k2 (by omega), hm m 1 k1 k2 (by omega), hm m 2 k1 k2 (by omega), hm m 3 k1 k2 (by omega), hm m 4 k1 k2 (by omega), hm m 5 k1 k2 (by omega)⟩, hc, fun j hj => ?_⟩
  obtain ⟨q1, q2, q3⟩ := r5 j hj
  have h10 := hS j hj
  rw [hT (9 + j) (by omega), hT (12 + j) (by omega), hT (15 + j) (by omega), hs _ (by omega) (by omega), hs _ (by omega) (by omega)]
  refine ⟨q1, q2, fun s hs2 => ?_⟩
  rw [hs _ (by omega) (by omega), hs _ (by omega) (by omega)]
  exact q3 s hs2
theorem RelR_row {M S : zM} (hR : RelR M 0 S) {m q : Nat} (hm : m < 10) (h : (m : Int) < S 7 7) (hq : q < 6) : M 375 (12 + 6 * m + q) = S (q + 1) m := by
  have h1 := hR.2.2.1 m hm h
  simp only [Nat.zero_add] at h1
  obtain ⟨q1, q2, q3, q4, q5, q6⟩ := h1
  rcases (show q = 0 ∨ q = 1 ∨ q = 2 ∨ q = 3 ∨ q = 4 ∨ q = 5 by omega) with rfl | rfl | rfl | rfl | rfl | rfl
  · exact q1
  · exact q2
  · exact q3
  · exact q4
  · exact q5
  · exact q6
theorem RelR_8 {M S : zM} (hR : RelR M 0 S) {k : Nat} (hk : k < 3) : M 375 (1 + k) = S 8 k := by
  obtain ⟨⟨a0, a1, a2, a3⟩, -⟩ := hR
  simp only [Nat.zero_add] at *
  rcases (show k = 0 ∨ k = 1 ∨ k = 2 by omega) with rfl | rfl | rfl
  · exact a1
  · exact a2
  · exact a3
