/-! ### the class's changes of world 0, told of the abstract world -/
theorem RelC_put {M S : zM} (hR : RelC M 0 S) (hW : WfS S) {m : Nat} {c r : Int} (hm : m < 10) (h0 : 0 ≤ S 1 m) (hc : 0 ≤ c ∧ c < 120) (hf : onS S c = -1) (hw : S 0 c.toNat ≠ 1) :
    RelC (zput (zup M 1 (M 2 m).toNat (-1)) (m : Int) c r) 0 (sput S m c r) := by
  have hno := onS_none.mp hf
  obtain ⟨r1, r2, r3, r4, r5, r6, r7, r8, r9, r10, r11, r12⟩ := hR
  simp only [Nat.zero_add] at *
  have hcell := r2 m hm
  rw [if_neg (by omega)] at hcell
  have hc2 := (hW.2.1 m hm).2
  have hs1 : ∀ j, sput S m c r 1 j = if j = m then c else S 1 j := fun j => by simp [sput, zup]
  have hs0 : sput S m c r 0 = S 0 := by funext j; simp [sput, zup]
  have hwm := hW.2.2.2.1 m hm h0
  unfold RelC
  simp only [Nat.zero_add]
  refine ⟨fun x hx => ?_, fun k hk => ?_, fun k hk => ?_, fun k hk => ?_, fun k hk => ?_, fun k hk => ?_, fun k hk => ?_, fun k hk => ?_, ?_, ?_, ?_, fun j hj => ?_⟩
  · rw [hs0]
    have e : zput (zup M 1 (M 2 m).toNat (-1)) (m : Int) c r 1 x = if x = c.toNat then (m : Int) else if x = (S 1 m).toNat then -1 else M 1 x := by
      rw [hcell]
      simp [zput, zup]
    rw [e]
    by_cases z : x = c.toNat
    · subst z
      rw [if_pos rfl, if_neg hw]
      refine (onS_at hm (by rw [hs1, if_pos rfl]; omega) (fun k hk h => ?_)).symm
      rw [hs1] at h
      by_cases y : k = m
      · exact y
      · rw [if_neg y] at h
        exact absurd (by rw [h]; omega) (hno k hk)
    · rw [if_neg z]
      by_cases y : x = (S 1 m).toNat
      · subst y
        rw [if_pos rfl, if_neg (by omega)]
        refine (onS_none.mpr (fun k hk => ?_)).symm
        rw [hs1]
        by_cases w : k = m
        · rw [if_pos w]; omega
        · rw [if_neg w]
          intro q
          exact w (hW.2.2.2.2.1 m k hm hk h0 (by omega)).symm
      · rw [if_neg y, r1 x hx]
        by_cases v : S 0 x = 1
        · rw [if_pos v, if_pos v]
        · rw [if_neg v, if_neg v]
          unfold onS
          refine zfst_congr 10 0 (fun k _ hk => ?_)
          rw [hs1]
          by_cases w : k = m
          · subst w
            rw [if_pos rfl]
            have a1 : ¬ S 1 k = (x : Int) := by omega
            have a2 : ¬ c = (x : Int) := by omega
            simp [a1, a2]
          · rw [if_neg w]
  · have e : zput (zup M 1 (M 2 m).toNat (-1)) (m : Int) c r 2 k = if k = m then c else M 2 k := by simp [zput, zup]
    rw [e, hs1]
    by_cases z : k = m
    · rw [if_pos z, if_pos z, if_neg (by omega)]
    · rw [if_neg z, if_neg z]; exact r2 k hk
  · have := r3 k hk; simp [zput, sput, zup, this]
  · have := r4 k hk; simp [zput, sput, zup, this]
  · have := r5 k hk; have := r5 m hm; simp [zput, sput, zup, *]
  · have := r6 k hk; simp [zput, sput, zup, this]
  · have := r7 k hk; simp [zput, sput, zup, this]
  · have := r8 k hk; simp [zput, sput, zup, this]
  · simpa [zput, sput, zup] using r9
  · simpa [zput, sput, zup] using r10
  · simpa [zput, sput, zup] using r11
  · obtain ⟨q1, q2, q3⟩ := r12 j hj
    have n1 : ∀ b, 9 ≤ b → zput (zup M 1 (M 2 m).toNat (-1)) (m : Int) c r b = M b := fun b hb => by
      funext i
      have b1 : b ≠ 1 := by omega
      have b2 : b ≠ 2 := by omega
      have b3 : b ≠ 3 := by omega
      have b4 : b ≠ 4 := by omega
      have b5 : b ≠ 5 := by omega
      simp [zput, zup, b1, b2, b3, b4, b5]
    have n2 : ∀ b, 8 ≤ b → sput S m c r b = S b := fun b hb => by
      funext i
      have b1 : b ≠ 1 := by omega
      have b2 : b ≠ 2 := by omega
      have b3 : b ≠ 3 := by omega
      have b6 : b ≠ 6 := by omega
      simp [sput, zup, b1, b2, b3, b6]
    rw [n1 _ (by omega), n1 _ (by omega), n1 _ (by omega), n2 _ (by omega), n2 _ (by omega), n2 _ (by omega)]
    exact ⟨q1, q2, q3⟩
theorem RelC_xch {M S : zM} (hR : RelC M 0 S) (hW : WfS S) {m o : Nat} {r : Int} (hm : m < 10) (ho : o < 10) (hmo : m ≠ o) (h0 : 0 ≤ S 1 m) (h1 : 0 ≤ S 1 o) :
    RelC (zput (zput M (m : Int) (S 1 o) r) (o : Int) (S 1 m) r) 0 (sput (sput S m (S 1 o) r) o (S 1 m) r) := by
  obtain ⟨r1, r2, r3, r4, r5, r6, r7, r8, r9, r10, r11, r12⟩ := hR
  simp only [Nat.zero_add] at *
  have hne : S 1 m ≠ S 1 o := fun z => hmo (hW.2.2.2.2.1 m o hm ho h0 z)
  have hcm := (hW.2.1 m hm).2
  have hco := (hW.2.1 o ho).2
  have hwm := hW.2.2.2.1 m hm h0
  have hwo := hW.2.2.2.1 o ho h1
  have hs1 : ∀ j, sput (sput S m (S 1 o) r) o (S 1 m) r 1 j = if j = o then S 1 m else if j = m then S 1 o else S 1 j := fun j => by simp [sput, zup]
  have hs0 : sput (sput S m (S 1 o) r) o (S 1 m) r 0 = S 0 := by funext j; simp [sput, zup]
  unfold RelC
  simp only [Nat.zero_add]
  refine ⟨fun x hx => ?_, fun k hk => ?_, fun k hk => ?_, fun k hk => ?_, fun k hk => ?_, fun k hk => ?_, fun k hk => ?_, fun k hk => ?_, ?_, ?_, ?_, fun j hj => ?_⟩
  · rw [hs0]
    have e : zput (zput M (m : Int) (S 1 o) r) (o : Int) (S 1 m) r 1 x = if x = (S 1 m).toNat then (o : Int) else if x = (S 1 o).toNat then (m : Int) else M 1 x := by simp [zput, zup]
    rw [e]
    by_cases z : x = (S 1 m).toNat
    · subst z
      rw [if_pos rfl, if_neg (by omega)]
      refine (onS_at ho (by rw [hs1, if_pos rfl]; omega) (fun k hk h => ?_)).symm
      rw [hs1] at h
      by_cases y : k = o
      · exact y
      · rw [if_neg y] at h
        by_cases w : k = m
        · rw [if_pos w] at h; omega
        · rw [if_neg w] at h
          exact absurd (hW.2.2.2.2.1 m k hm hk h0 (by omega)).symm w
    · rw [if_neg z]
      by_cases y : x = (S 1 o).toNat
      · subst y
        rw [if_pos rfl, if_neg (by omega)]
        refine (onS_at hm (by rw [hs1, if_neg hmo, if_pos rfl]; omega) (fun k hk h => ?_)).symm
        rw [hs1] at h
        by_cases y : k = o
        · rw [if_pos y] at h; omega
        · rw [if_neg y] at h
          by_cases w : k = m
          · exact w
          · rw [if_neg w] at h
            exact absurd (hW.2.2.2.2.1 o k ho hk h1 (by omega)).symm y
      · rw [if_neg y, r1 x hx]
        by_cases v : S 0 x = 1
        · rw [if_pos v, if_pos v]
        · rw [if_neg v, if_neg v]
          unfold onS
          refine zfst_congr 10 0 (fun k _ hk => ?_)
          rw [hs1]
          have a1 : ¬ S 1 m = (x : Int) := by omega
          have a2 : ¬ S 1 o = (x : Int) := by omega
          by_cases w : k = o
          · subst w
            rw [if_pos rfl]
            simp [a1, a2]
          · rw [if_neg w]
            by_cases u : k = m
            · subst u
              rw [if_pos rfl]
              simp [a1, a2]
            · rw [if_neg u]
  · have e : zput (zput M (m : Int) (S 1 o) r) (o : Int) (S 1 m) r 2 k = if k = o then S 1 m else if k = m then S 1 o else M 2 k := by simp [zput, zup]
    rw [e, hs1]
    by_cases z : k = o
    · rw [if_pos z, if_pos z, if_neg (by omega)]
    · rw [if_neg z, if_neg z]
      by_cases y : k = m
      · rw [if_pos y, if_pos y, if_neg (by omega)]
      · rw [if_neg y, if_neg y]; exact r2 k hk
  · have := r3 k hk; simp [zput, sput, zup, this]
  · have := r4 k hk; simp [zput, sput, zup, this]
  · have := r5 k hk; have := r5 m hm; have := r5 o ho; simp [zput, sput, zup, *]
  · have := r6 k hk; simp [zput, sput, zup, this]
  · have := r7 k hk; simp [zput, sput, zup, this]
  · have := r8 k hk; simp [zput, sput, zup, this]
  · simpa [zput, sput, zup] using r9
  · simpa [zput, sput, zup] using r10
  · simpa [zput, sput, zup] using r11
  · obtain ⟨q1, q2, q3⟩ := r12 j hj
    have n1 : ∀ b, 9 ≤ b → zput (zput M (m : Int) (S 1 o) r) (o : Int) (S 1 m) r b = M b := fun b hb => by
      funext i
      have b1 : b ≠ 1 := by omega
      have b2 : b ≠ 2 := by omega
      have b3 : b ≠ 3 := by omega
      have b4 : b ≠ 4 := by omega
      have b5 : b ≠ 5 := by omega
      simp [zput, zup, b1, b2, b3, b4, b5]
    have n2 : ∀ b, 8 ≤ b → sput (sput S m (S 1 o) r) o (S 1 m) r b = S b := fun b hb => by
      funext i
      have b1 : b ≠ 1 := by omega
      have b2 : b ≠ 2 := by omega
      have b3 : b ≠ 3 := by omega
      have b6 : b ≠ 6 := by omega
      simp [sput, zup, b1, b2, b3, b6]
    rw [n1 _ (by omega), n1 _ (by omega), n1 _ (by omega), n2 _ (by omega), n2 _ (by omega), n2 _ (by omega)]
    exact ⟨q1, q2, q3⟩
/-- one number changes, in both alike: rows 2 to 7 -/
theorem RelC_num {M S : zM} (hR : RelC M 0 S) {b e k : Nat} {v : Int} (h : (b = 3 ∧ e = 6) ∨ (b = 4 ∧ e = 2) ∨ (b = 5 ∧ e = 3) ∨ (b = 6 ∧ e = 4) ∨ (b = 7 ∧ e = 5) ∨ (b = 8 ∧ e = 7)) : RelC (zup M b k v) 0 (zup S e k v) := by
  obtain ⟨r1, r2, r3, r4, r5, r6, r7, r8, r9, r10, r11, r12⟩ := hR
  simp only [Nat.zero_add] at *
  have s1 : zup S e k v 1 = S 1 := zup_ne _ _ _ (by omega)
  have s0 : zup S e k v 0 = S 0 := zup_ne _ _ _ (by omega)
  have s8 : zup S e k v 8 = S 8 := zup_ne _ _ _ (by omega)
  have m0 : zup M b k v 0 = M 0 := zup_ne _ _ _ (by omega)
  have m1 : zup M b k v 1 = M 1 := zup_ne _ _ _ (by omega)
  have m2 : zup M b k v 2 = M 2 := zup_ne _ _ _ (by omega)
  have so : ∀ x, onS (zup S e k v) x = onS S x := fun x => by unfold onS; rw [s1]
  have hi : ∀ (x y n : Nat), (∀ m : Nat, m < n → M x m = S y m) → ((x = b ∧ y = e) ∨ (x ≠ b ∧ y ≠ e)) → ∀ m : Nat, m < n → zup M b k v x m = zup S e k v y m := fun x y n hx hy m hm => by
    rcases hy with ⟨rfl, rfl⟩ | ⟨y1, y2⟩
    · simp only [zup, true_and]
      split
      · rfl
      · exact hx m hm
    · rw [zup_ne _ _ _ y1, zup_ne _ _ _ y2]; exact hx m hm
  unfold RelC
  simp only [Nat.zero_add]
  refine ⟨fun x hx => ?_, fun j hj => ?_, hi _ _ _ r3 (by omega), hi _ _ _ r4 (by omega), hi _ _ _ r5 (by omega), hi _ _ _ r6 (by omega), hi _ _ _ r7 (by omega), hi _ _ _ r8 (by omega), ?_, ?_, ?_, fun j hj => ?_⟩
  · rw [m1, s0, so]; exact r1 x hx
  · rw [m2, s1]; exact r2 j hj
  · rw [m0, s8]; exact r9
  · rw [m0, s8]; exact r10
  · rw [m0, s8]; exact r11
  · obtain ⟨q1, q2, q3⟩ := r12 j hj
    rw [zup_ne _ (b := 10 + 3 * j) _ _ (by omega), zup_ne _ (b := 11 + 3 * j) _ _ (by omega), zup_ne _ (b := 12 + 3 * j) _ _ (by omega), zup_ne _ (b := 9 + j) _ _ (by omega), zup_ne _ (b := 12 + j) _ _ (by omega), zup_ne _ (b := 15 + j) _ _ (by omega)]
    exact ⟨q1, q2, q3⟩
theorem RelC_acc {M S : zM} (hR : RelC M 0 S) {k : Nat} (hk : k < 8) : RelC (zup M 8 k (M 8 k + 1)) 0 (sacc S k) := by
  have h := RelC_num hR (b := 8) (e := 7) (k := k) (v := S 7 k + 1) (by omega)
  have h8 := hR.2.2.2.2.2.2.2.1 k hk
  simp only [Nat.zero_add] at h8
  rw [h8]; exact h
theorem RelC_stay {M S : zM} (hR : RelC M 0 S) {m : Nat} {r : Int} (hm : m < 10) : RelC (zup (zup (zup M 6 m (M 6 m + 1)) 8 2 (M 8 2 + 1)) 3 m r) 0 (sstay S m r) := by
  have h6 := hR.2.2.2.2.2.1 m hm
  have h8 := hR.2.2.2.2.2.2.2.1 2 (by omega)
  simp only [Nat.zero_add] at h6 h8
  rw [h6, h8]
  exact RelC_num (RelC_num (RelC_num hR (b := 6) (e := 4) (k := m) (v := S 4 m + 1) (by omega)) (b := 8) (e := 7) (k := 2) (v := S 7 2 + 1) (by omega)) (b := 3) (e := 6) (k := m) (v := r) (by omega)
