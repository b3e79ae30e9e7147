/-! ### changes of the world: a member more, a member less, walls -/
def jn (S : zM) (c : Int) : zM := zup (zup S 1 (S 7 7).toNat c) 7 7 (S 7 7 + 1)
def pt (S : zM) (m : Nat) : zM := zup (zup S 1 m (-1)) 7 5 (S 7 5 + 1)
def wl (S : zM) (c : Nat) : zM := zup (zup S 0 c (1 - S 0 c)) 7 6 (S 7 6 + (if S 0 c = 1 then -1 else 1))
theorem cntM_upd (S : zM) (k : Nat) (v : Int) : ∀ n : Nat, cntM (zup S 1 k v) n = cntM S n + (if k < n then (if 0 ≤ v then 1 else 0) - (if 0 ≤ S 1 k then 1 else 0) else 0)
  | 0 => by rw [if_neg (by omega)]; rfl
  | n + 1 => by
    unfold cntM
    rw [cntM_upd S k v n]
    by_cases z : n = k
    · subst z
      rw [zup_at, if_neg (show ¬ n < n by omega), if_pos (show n < n + 1 by omega)]
      omega
    · rw [zup_off _ _ (Or.inr z)]
      by_cases y : k < n
      · rw [if_pos y, if_pos (show k < n + 1 by omega)]; omega
      · rw [if_neg y, if_neg (show ¬ k < n + 1 by omega)]; omega
theorem sumW_upd (S : zM) (k : Nat) (v : Int) : ∀ n : Nat, sumW (zup S 0 k v) n = sumW S n + (if k < n then v - S 0 k else 0)
  | 0 => by rw [if_neg (by omega)]; rfl
  | n + 1 => by
    unfold sumW
    rw [sumW_upd S k v n]
    by_cases z : n = k
    · subst z
      rw [zup_at, if_neg (by omega), if_pos (by omega)]
      omega
    · rw [zup_off _ _ (Or.inr z)]
      by_cases y : k < n
      · rw [if_pos y, if_pos (by omega)]; omega
      · rw [if_neg y, if_neg (by omega)]; omega
theorem sumW_congr {S T : zM} (h : T 0 = S 0) : ∀ n : Nat, sumW T n = sumW S n
  | 0 => rfl
  | n + 1 => by unfold sumW; rw [sumW_congr h n, h]
theorem Kp_Wb {B : Int} {S T : zM} (h : Kp S T) (hS : Wb B S) {C : Int} (hB : Bw T C) : Wb C T := ⟨h.1, by rw [h.2.2.2.2.2.2.1, sumW_congr h.2.2.2.1]; exact hS.2.1, hB⟩
theorem jn_ok {B : Int} {S : zM} (hS : Wb B S) {c : Int} (hc : 0 ≤ c ∧ c < 120) (hw : S 0 c.toNat ≠ 1) (hf : onS S c = -1) (h10 : S 7 7 < 10) : Wb B (jn S c) := by
  obtain ⟨⟨w1, w2, w3, w4, w5, w6, w7, w8, w9, w10⟩, s2, s3⟩ := hS
  have hno := onS_none.mp hf
  obtain ⟨m, hm⟩ : ∃ m : Nat, S 7 7 = m := ⟨(S 7 7).toNat, by omega⟩
  have hw0 := w1 c.toNat (by omega)
  have e : ∀ b j, jn S c b j = if b = 7 ∧ j = 7 then S 7 7 + 1 else if b = 1 ∧ j = m then c else S b j := fun b j => by unfold jn zup; rw [hm, Int.toNat_natCast]
  have eb : ∀ b, b ≠ 1 → b ≠ 7 → jn S c b = S b := fun b b1 b7 => by funext j; rw [e, if_neg (fun z => b7 z.1), if_neg (fun z => b1 z.1)]
  have e1 : ∀ j, jn S c 1 j = if j = m then c else S 1 j := fun j => by
    rw [e, if_neg (by omega)]
    by_cases z : j = m
    · rw [if_pos ⟨rfl, z⟩, if_pos z]
    · rw [if_neg (fun y => z y.2), if_neg z]
  have e77 : jn S c 7 7 = S 7 7 + 1 := by rw [e, if_pos ⟨rfl, rfl⟩]
  have e7 : ∀ j, j ≠ 7 → jn S c 7 j = S 7 j := fun j hj => by rw [e, if_neg (fun z => hj z.2), if_neg (by omega)]
  have hnm : S 1 m = -1 := (w3 m (by omega) (by omega)).1
  refine ⟨⟨?_, fun k hk => ?_, fun k hk h => ?_, fun k hk h => ?_, fun k i hk hi h1 h2 => ?_, ?_, ?_, ?_, ?_, ?_⟩, ?_, fun k hk => ?_⟩
  · rw [eb 0 (by omega) (by omega)]; exact w1
  · rw [e1]; split
    · omega
    · exact w2 k hk
  · rw [e77] at h
    rw [e1, if_neg (by omega), eb 2 (by omega) (by omega), eb 3 (by omega) (by omega), eb 4 (by omega) (by omega), eb 5 (by omega) (by omega), eb 6 (by omega) (by omega)]
    exact w3 k hk (by omega)
  · rw [e1] at h ⊢
    rw [eb 0 (by omega) (by omega)]
    by_cases z : k = m
    · rw [if_pos z]; omega
    · rw [if_neg z] at h ⊢; exact w4 k hk h
  · rw [e1] at h1 h2
    rw [e1] at h2
    by_cases z : k = m
    · by_cases y : i = m
      · omega
      · rw [if_pos z, if_neg y] at h2
        exact absurd h2.symm (hno i hi)
    · by_cases y : i = m
      · rw [if_neg z, if_pos y] at h2
        exact absurd h2 (hno k hk)
      · rw [if_neg z] at h1
        rw [if_neg z, if_neg y] at h2
        exact w5 k i hk hi h1 h2
  · have h1 : cntM (jn S c) 10 = cntM (zup S 1 m c) 10 := cntM_congr 10 (Nat.le_refl _) (fun j hj => by rw [e1]; unfold zup; simp)
    rw [e77, e7 5 (by omega), h1, cntM_upd, if_pos (by omega), if_pos (by omega), if_neg (by omega)]
    omega
  · rw [eb 8 (by omega) (by omega)]; exact w7
  · rw [eb 8 (by omega) (by omega)]; exact w8
  · rw [eb 8 (by omega) (by omega)]; exact w9
  · intro j hj
    rw [eb (9 + j) (by omega) (by omega), eb (12 + j) (by omega) (by omega), eb (15 + j) (by omega) (by omega)]
    exact w10 j hj
  · rw [e7 6 (by omega), sumW_congr (eb 0 (by omega) (by omega))]; exact s2
  · rw [eb 2 (by omega) (by omega)]; exact s3 k hk
theorem pt_ok {B : Int} {S : zM} (hS : Wb B S) {m : Nat} (hm : m < 10) (h0 : 0 ≤ S 1 m) : Wb B (pt S m) := by
  obtain ⟨⟨w1, w2, w3, w4, w5, w6, w7, w8, w9, w10⟩, s2, s3⟩ := hS
  have eb : ∀ b, b ≠ 1 → b ≠ 7 → pt S m b = S b := fun b b1 b7 => by unfold pt; rw [zup_ne _ _ _ b7, zup_ne _ _ _ b1]
  have e1 : ∀ j, pt S m 1 j = if j = m then -1 else S 1 j := fun j => by unfold pt; rw [zup_ne _ _ _ (by omega)]; unfold zup; simp
  have e7 : ∀ j, j ≠ 5 → pt S m 7 j = S 7 j := fun j hj => by unfold pt; rw [zup_off _ _ (Or.inr hj), zup_ne _ _ _ (by omega)]
  have e75 : pt S m 7 5 = S 7 5 + 1 := zup_at _ _ _ _
  refine ⟨⟨?_, fun k hk => ?_, fun k hk h => ?_, fun k hk h => ?_, fun k i hk hi h1 h2 => ?_, ?_, ?_, ?_, ?_, ?_⟩, ?_, fun k hk => ?_⟩
  · rw [eb 0 (by omega) (by omega)]; exact w1
  · rw [e1]; split
    · omega
    · exact w2 k hk
  · rw [e7 7 (by omega)] at h
    have h9 := w3 k hk h
    rw [e1, if_neg (fun z => by subst z; omega), eb 2 (by omega) (by omega), eb 3 (by omega) (by omega), eb 4 (by omega) (by omega), eb 5 (by omega) (by omega), eb 6 (by omega) (by omega)]
    exact h9
  · rw [e1] at h ⊢
    rw [eb 0 (by omega) (by omega)]
    by_cases z : k = m
    · rw [if_pos z] at h; omega
    · rw [if_neg z] at h ⊢; exact w4 k hk h
  · rw [e1] at h1 h2
    rw [e1] at h2
    by_cases z : k = m
    · rw [if_pos z] at h1; omega
    · rw [if_neg z] at h1 h2
      by_cases y : i = m
      · rw [if_pos y] at h2; omega
      · rw [if_neg y] at h2; exact w5 k i hk hi h1 h2
  · have h1 : cntM (pt S m) 10 = cntM (zup S 1 m (-1)) 10 := cntM_congr 10 (Nat.le_refl _) (fun j hj => by rw [e1]; unfold zup; simp)
    rw [e7 7 (by omega), e75, h1, cntM_upd, if_pos hm, if_neg (by omega), if_pos h0]
    omega
  · rw [eb 8 (by omega) (by omega)]; exact w7
  · rw [eb 8 (by omega) (by omega)]; exact w8
  · rw [eb 8 (by omega) (by omega)]; exact w9
  · intro j hj
    rw [eb (9 + j) (by omega) (by omega), eb (12 + j) (by omega) (by omega), eb (15 + j) (by omega) (by omega)]
    exact w10 j hj
  · rw [e7 6 (by omega), sumW_congr (eb 0 (by omega) (by omega))]; exact s2
  · rw [eb 2 (by omega) (by omega)]; exact s3 k hk
theorem wl_ok {B : Int} {S : zM} (hS : Wb B S) {c : Nat} (hc : c < 120) (hf : S 0 c = 1 ∨ onS S c = -1) : Wb B (wl S c) := by
  obtain ⟨⟨w1, w2, w3, w4, w5, w6, w7, w8, w9, w10⟩, s2, s3⟩ := hS
  have h01 := w1 c hc
  have eb : ∀ b, b ≠ 0 → b ≠ 7 → wl S c b = S b := fun b b1 b7 => by unfold wl; rw [zup_ne _ _ _ b7, zup_ne _ _ _ b1]
  have e0 : ∀ j, wl S c 0 j = if j = c then 1 - S 0 c else S 0 j := fun j => by unfold wl; rw [zup_ne _ _ _ (by omega)]; unfold zup; simp
  have e7 : ∀ j, j ≠ 6 → wl S c 7 j = S 7 j := fun j hj => by unfold wl; rw [zup_off _ _ (Or.inr hj), zup_ne _ _ _ (by omega)]
  have hno : ∀ k : Nat, k < 10 → S 1 k ≠ (c : Int) := fun k hk => by
    rcases hf with h | h
    · intro z
      have := w4 k hk (by omega)
      rw [z, Int.toNat_natCast] at this
      omega
    · exact onS_none.mp h k hk
  refine ⟨⟨fun j hj => ?_, ?_, fun k hk h => ?_, fun k hk h => ?_, ?_, ?_, ?_, ?_, ?_, ?_⟩, ?_, fun k hk => ?_⟩
  · rw [e0]; split
    · omega
    · exact w1 j hj
  · rw [eb 1 (by omega) (by omega)]; exact w2
  · rw [e7 7 (by omega)] at h
    rw [eb 1 (by omega) (by omega), eb 2 (by omega) (by omega), eb 3 (by omega) (by omega), eb 4 (by omega) (by omega), eb 5 (by omega) (by omega), eb 6 (by omega) (by omega)]
    exact w3 k hk h
  · rw [eb 1 (by omega) (by omega)] at h ⊢
    have := hno k hk
    rw [e0, if_neg (by omega)]
    exact w4 k hk h
  · rw [eb 1 (by omega) (by omega)]; exact w5
  · have h1 : cntM (wl S c) 10 = cntM S 10 := cntM_congr 10 (Nat.le_refl _) (fun j hj => by rw [eb 1 (by omega) (by omega)])
    rw [e7 7 (by omega), e7 5 (by omega), h1]; exact w6
  · rw [eb 8 (by omega) (by omega)]; exact w7
  · rw [eb 8 (by omega) (by omega)]; exact w8
  · rw [eb 8 (by omega) (by omega)]; exact w9
  · intro j hj
    rw [eb (9 + j) (by omega) (by omega), eb (12 + j) (by omega) (by omega), eb (15 + j) (by omega) (by omega)]
    exact w10 j hj
  · have h1 : sumW (wl S c) 120 = sumW (zup S 0 c (1 - S 0 c)) 120 := sumW_congr (by unfold wl; rw [zup_ne _ _ _ (by omega)]) 120
    have h2 : wl S c 7 6 = S 7 6 + (if S 0 c = 1 then -1 else 1) := zup_at _ _ _ _
    rw [h1, h2, sumW_upd, if_pos hc, s2]
    split <;> omega
  · rw [eb 2 (by omega) (by omega)]; exact s3 k hk
theorem s8_ok {B : Int} {S : zM} (hS : Wb B S) {k : Nat} {v : Int} (h : (k = 0 ∧ -1 ≤ v ∧ v < 10) ∨ (k = 1 ∧ -1 ≤ v ∧ v < 120) ∨ (k = 2 ∧ 0 ≤ v ∧ v < 3)) : Wb B (zup S 8 k v) := by
  obtain ⟨⟨w1, w2, w3, w4, w5, w6, w7, w8, w9, w10⟩, s2, s3⟩ := hS
  have eb : ∀ b, b ≠ 8 → zup S 8 k v b = S b := fun b hb => zup_ne _ _ _ hb
  refine ⟨⟨?_, ?_, ?_, ?_, ?_, ?_, ?_, ?_, ?_, ?_⟩, ?_, ?_⟩
  · rw [eb 0 (by omega)]; exact w1
  · rw [eb 1 (by omega)]; exact w2
  · rw [eb 1 (by omega), eb 2 (by omega), eb 3 (by omega), eb 4 (by omega), eb 5 (by omega), eb 6 (by omega), eb 7 (by omega)]; exact w3
  · rw [eb 0 (by omega), eb 1 (by omega)]; exact w4
  · rw [eb 1 (by omega)]; exact w5
  · have h1 : cntM (zup S 8 k v) 10 = cntM S 10 := cntM_congr 10 (Nat.le_refl _) (fun j hj => by rw [eb 1 (by omega)])
    rw [eb 7 (by omega), h1]; exact w6
  · by_cases z : k = 0
    · subst z; rw [zup_at]; omega
    · rw [zup_off _ _ (Or.inr (by omega))]; exact w7
  · by_cases z : k = 1
    · subst z; rw [zup_at]; omega
    · rw [zup_off _ _ (Or.inr (by omega))]; exact w8
  · by_cases z : k = 2
    · subst z; rw [zup_at]; omega
    · rw [zup_off _ _ (Or.inr (by omega))]; exact w9
  · intro j hj
    rw [eb (9 + j) (by omega), eb (12 + j) (by omega), eb (15 + j) (by omega)]
    exact w10 j hj
  · rw [eb 7 (by omega), sumW_congr (eb 0 (by omega))]; exact s2
  · intro m hm; rw [eb 2 (by omega)]; exact s3 m hm
