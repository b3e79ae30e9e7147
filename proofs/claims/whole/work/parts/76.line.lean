/-! ### the line of members; a round on the abstract world -/
def ps (key : Nat → Int) (ln : Nat → Nat) (d : Int) : Nat → Nat
  | 0 => 0
  | p + 1 => if key (ln p) < d then ps key ln d p else p + 1
theorem ps_le {key : Nat → Int} {ln : Nat → Nat} {d : Int} : ∀ p, ps key ln d p ≤ p
  | 0 => Nat.le_refl _
  | p + 1 => by
    unfold ps
    split
    · have := ps_le (key := key) (ln := ln) (d := d) p; omega
    · omega
def insF (key : Nat → Int) (ln : Nat → Nat) (cnt m : Nat) (i : Nat) : Nat := if i < ps key ln (key m) cnt then ln i else if i = ps key ln (key m) cnt then m else ln (i - 1)
def LnA (N : zM) (a b cnt : Nat) (ln : Nat → Nat) (key : Nat → Int) : Prop := ∀ i : Nat, i < cnt → N a i = (ln i : Nat) ∧ N b i = key (ln i)
/-- a place is made at p -/
def LnP (N : zM) (a b cnt p : Nat) (ln : Nat → Nat) (key : Nat → Int) (d : Int) : Prop :=
  p ≤ cnt ∧ (∀ i : Nat, i < p → N a i = (ln i : Nat) ∧ N b i = key (ln i)) ∧ (∀ i : Nat, p ≤ i → i < cnt → N a (i + 1) = (ln i : Nat) ∧ N b (i + 1) = key (ln i)) ∧ ps key ln d cnt = ps key ln d p
theorem LnP_end {N : zM} {a b cnt p m : Nat} {ln : Nat → Nat} {key : Nat → Int} (hab : a ≠ b) (h : LnP N a b cnt p ln key (key m)) (hp : ps key ln (key m) p = p) : LnA (zup (zup N a p (m : Nat)) b p (key m)) a b (cnt + 1) (insF key ln cnt m) key := by
  obtain ⟨h1, h2, h3, h4⟩ := h
  intro i hi
  have e : ps key ln (key m) cnt = p := h4.trans hp
  have ea : zup (zup N a p (m : Nat)) b p (key m) a i = if i = p then (m : Int) else N a i := by rw [zup_ne _ _ _ hab]; simp [zup]
  have eb : zup (zup N a p (m : Nat)) b p (key m) b i = if i = p then key m else N b i := by
    have : ¬ b = a := fun z => hab z.symm
    simp [zup, this]
  rw [ea, eb]
  unfold insF
  rw [e]
  by_cases z : i < p
  · have y : ¬ i = p := by omega
    simp only [z, y, if_true, if_false]; exact h2 i z
  · by_cases y : i = p
    · simp only [z, y, if_true, if_false]
      have y2 : ¬ p < p := by omega
      simp only [y2, if_false, and_self]
    · simp only [z, y, if_false]
      have := h3 (i - 1) (by omega) (by omega)
      rw [show i - 1 + 1 = i by omega] at this
      exact this
theorem LnP_step {N : zM} {a b cnt p : Nat} {ln : Nat → Nat} {key : Nat → Int} {d : Int} (hab : a ≠ b) (h : LnP N a b cnt (p + 1) ln key d) (hd : key (ln p) < d) : LnP (zup (zup N a (p + 1) (N a p)) b (p + 1) (N b p)) a b cnt p ln key d := by
  obtain ⟨h1, h2, h3, h4⟩ := h
  have ea : ∀ i, zup (zup N a (p + 1) (N a p)) b (p + 1) (N b p) a i = if i = p + 1 then N a p else N a i := fun i => by rw [zup_ne _ _ _ hab]; simp [zup]
  have eb : ∀ i, zup (zup N a (p + 1) (N a p)) b (p + 1) (N b p) b i = if i = p + 1 then N b p else N b i := fun i => by
    have : ¬ b = a := fun z => hab z.symm
    simp [zup, this]
  refine ⟨by omega, fun i hi => ?_, fun i hi hc => ?_, ?_⟩
  · rw [ea, eb, if_neg (by omega), if_neg (by omega)]; exact h2 i (by omega)
  · rw [ea, eb]
    by_cases z : i = p
    · subst z
      rw [if_pos rfl, if_pos rfl]; exact h2 i (by omega)
    · rw [if_neg (by omega), if_neg (by omega)]; exact h3 i (by omega) hc
  · rw [h4]
    show (if key (ln p) < d then ps key ln d p else p + 1) = _
    rw [if_pos hd]
theorem ins_mem {key : Nat → Int} {ln : Nat → Nat} {cnt m : Nat} : (∀ i, i < cnt + 1 → insF key ln cnt m i = m ∨ ∃ j, j < cnt ∧ ln j = insF key ln cnt m i) ∧ (∃ i, i < cnt + 1 ∧ insF key ln cnt m i = m) ∧ ∀ j, j < cnt → ∃ i, i < cnt + 1 ∧ insF key ln cnt m i = ln j := by
  have hp := ps_le (key := key) (ln := ln) (d := key m) cnt
  unfold insF
  generalize ps key ln (key m) cnt = p at *
  refine ⟨fun i hi => ?_, ⟨p, by omega, by simp⟩, fun j hj => ?_⟩
  · by_cases z : i < p
    · rw [if_pos z]; exact Or.inr ⟨i, by omega, rfl⟩
    · by_cases y : i = p
      · rw [if_neg z, if_pos y]; exact Or.inl rfl
      · rw [if_neg z, if_neg y]; exact Or.inr ⟨i - 1, by omega, rfl⟩
  · by_cases z : j < p
    · exact ⟨j, by omega, by rw [if_pos z]⟩
    · exact ⟨j + 1, by omega, by rw [if_neg (by omega), if_neg (by omega), Nat.add_sub_cancel]⟩
noncomputable def plS (S : zM) (j : Nat) : Int := if bT S j < 0 then -1 else plc S (bT S j).toNat
noncomputable def key (S : zM) (pl : Nat → Int) (j : Nat) : Int := dst (S 0) (pl j).toNat (S 1 j).toNat
def inl (S : zM) (pl : Nat → Int) (k : Nat) : Bool := isF S k && decide (0 ≤ pl k ∧ S 1 k ≠ pl k)
/-- how many of the first k members are in the line, and who -/
def lnc (S : zM) (pl : Nat → Int) : Nat → Nat
  | 0 => 0
  | k + 1 => if inl S pl k = true then lnc S pl k + 1 else lnc S pl k
noncomputable def lnf (S : zM) (pl : Nat → Int) : Nat → Nat → Nat
  | 0 => fun _ => 0
  | k + 1 => if inl S pl k = true then insF (key S pl) (lnf S pl k) (lnc S pl k) k else lnf S pl k
theorem lnc_le (S : zM) (pl : Nat → Int) : ∀ k, lnc S pl k ≤ k
  | 0 => Nat.le_refl _
  | k + 1 => by
    have := lnc_le S pl k
    unfold lnc
    split <;> omega
theorem ln_mem (S : zM) (pl : Nat → Int) : ∀ k, (∀ i, i < lnc S pl k → lnf S pl k i < k ∧ inl S pl (lnf S pl k i) = true) ∧ ∀ j, j < k → inl S pl j = true → ∃ i, i < lnc S pl k ∧ lnf S pl k i = j
  | 0 => ⟨fun i hi => absurd hi (Nat.not_lt_zero i), fun j hj => absurd hj (Nat.not_lt_zero j)⟩
  | k + 1 => by
    obtain ⟨h1, h2⟩ := ln_mem S pl k
    unfold lnc lnf
    by_cases z : inl S pl k = true
    · rw [if_pos z, if_pos z]
      obtain ⟨g1, ⟨g2, g3, g4⟩, g5⟩ := ins_mem (key := key S pl) (ln := lnf S pl k) (cnt := lnc S pl k) (m := k)
      refine ⟨fun i hi => ?_, fun j hj hy => ?_⟩
      · rcases g1 i hi with q | ⟨j, q1, q2⟩
        · rw [q]; exact ⟨by omega, z⟩
        · rw [← q2]; have := h1 j q1; exact ⟨by omega, this.2⟩
      · by_cases y : j = k
        · subst y; exact ⟨g2, g3, g4⟩
        · obtain ⟨i, i1, i2⟩ := h2 j (by omega) hy
          obtain ⟨e, e1, e2⟩ := g5 i i1
          exact ⟨e, e1, by rw [e2, i2]⟩
    · rw [if_neg z, if_neg z]
      refine ⟨fun i hi => ?_, fun j hj hy => ?_⟩
      · have := h1 i hi; exact ⟨by omega, this.2⟩
      · have : j ≠ k := fun y => by subst y; exact z hy
        exact h2 j (by omega) hy
/-- the reasons that lining up gives, of the first k members -/
def luS (S : zM) (pl : Nat → Int) (k : Nat) : zM := zrow S 6 (fun j => if j < k ∧ isF S j = true ∧ pl j < 0 then 2 else if j < k ∧ isF S j = true ∧ S 1 j = pl j then 1 else S 6 j)
theorem isF_mem {S : zM} {j : Nat} (h : isF S j = true) : 0 ≤ S 1 j ∧ (j : Int) ≠ ldr S := by
  unfold isF at h
  have := of_decide_eq_true h
  exact ⟨this.2, this.1⟩
theorem lu_ok {S : zM} (hW : WfS S) (pl : Nat → Int) (k : Nat) : Kp S (luS S pl k) :=
  stay_ok hW (fun b hb => zrow_ne _ _ (by omega)) (fun k _ => by unfold luS; rw [zrow_ne _ _ (by omega)]) (fun b j hj b1 b2 => by
    by_cases z : b = 6
    · subst z
      unfold luS
      rw [zrow_self, if_neg (fun y => by have := (isF_mem y.2.1).1; omega), if_neg (fun y => by have := (isF_mem y.2.1).1; omega)]
    · unfold luS
      rw [zrow_ne _ _ z])
noncomputable def actN (pl : Nat → Int) (S : zM) (ln : Nat → Nat) : Nat → zM
  | 0 => S
  | t + 1 => actS pl (actN pl S ln t) (ln t)
def cR (S : zM) (k : Nat) : zM := zrow (sacc S 0) 5 (fun j => if j < k ∧ 0 ≤ S 1 j then S 5 j + 1 else S 5 j)
theorem cR_ok {S : zM} (hW : WfS S) (k : Nat) : Kp S (cR S k) :=
  stay_ok hW (fun b hb => by unfold cR sacc; rw [zrow_ne _ _ (by omega), zup_ne _ _ _ (by omega)]) (fun k hk => by
    have : ¬ k = 0 := by omega
    unfold cR sacc; rw [zrow_ne _ _ (by omega)]; simp [zup, this]) (fun b j hj b1 b2 => by
    by_cases z : b = 5
    · subst z
      unfold cR
      rw [zrow_self, if_neg (fun y => by omega)]
    · unfold cR sacc
      rw [zrow_ne _ _ z, zup_ne _ _ _ (by omega)])
noncomputable def rnd (S : zM) : zM := cR (actN (plS (ldS S)) (luS (ldS S) (plS (ldS S)) 10) (lnf (ldS S) (plS (ldS S)) 10) (lnc (ldS S) (plS (ldS S)) 10)) 10
/-- waits in a row stay in bounds -/
def Bw (S : zM) (B : Int) : Prop := ∀ m : Nat, m < 10 → 0 ≤ S 2 m ∧ S 2 m ≤ B
theorem act_B {S : zM} {pl : Nat → Int} {m : Nat} {B : Int} (hm : m < 10) (h : Bw S B) : Bw (actS pl S m) (B + 1) := by
  have hp : ∀ (T : zM) (v r : Int) (x : Nat) (C : Int), Bw T C → 0 ≤ C → Bw (sput T x v r) C := fun T v r x C hT hC j hj => by
    have : sput T x v r 2 j = if j = x then 0 else T 2 j := by simp [sput, zup]
    rw [this]
    split
    · omega
    · exact hT j hj
  have ha : ∀ (T : zM) (k : Nat) (C : Int), Bw T C → Bw (sacc T k) C := fun T k C hT j hj => by
    have : sacc T k 2 j = T 2 j := by simp [sacc, zup]
    rw [this]; exact hT j hj
  have hB0 : 0 ≤ B := by have := h m hm; omega
  have hle : ∀ T, Bw T B → Bw T (B + 1) := fun T hT j hj => by have := hT j hj; omega
  unfold actS
  split
  · exact hle _ h
  · split
    · exact hle _ (ha _ _ _ (hp _ _ _ _ _ h hB0))
    · split
      · exact hle _ (ha _ _ _ (hp _ _ _ _ _ (hp _ _ _ _ _ h hB0) hB0))
      · split
        · exact hle _ (ha _ _ _ (hp _ _ _ _ _ h hB0))
        · intro j hj
          have : zup (sstay S m 3) 2 m (S 2 m + 1) 2 j = if j = m then S 2 m + 1 else S 2 j := by simp [sstay, zup]
          rw [this]
          have h1 := h m hm
          have h2 := h j hj
          split <;> omega
theorem ld_B {S : zM} {B : Int} (hB : 0 ≤ B) (h : Bw S B) : Bw (ldS S) B := by
  have e : ∀ j, ldS S 2 j = S 2 j ∨ ldS S 2 j = 0 := fun j => by
    unfold ldS
    split
    · exact Or.inl (by simp [zup])
    · split
      · exact Or.inl (by simp [zup])
      · split
        · exact Or.inl (by simp [zup])
        · split
          · by_cases z : j = (ldr S).toNat
            · exact Or.inr (by simp [sacc, sput, zup, z])
            · exact Or.inl (by simp [sacc, sput, zup, z])
          · exact Or.inl (by simp [sstay, zup])
  intro j hj
  have := h j hj
  rcases e j with z | z <;> rw [z] <;> omega
theorem bT_fol {S : zM} (hW : WfS S) {j : Nat} (hj : j < 10) : -1 ≤ plS S j ∧ plS S j < 120 ∧ (0 ≤ plS S j → isF S j = true) := by
  unfold plS
  rcases bT_cases hW hj with q | ⟨s, q1, q2, q3, q4, q5, q6, q7, q8, q9, -⟩
  · rw [if_pos (by omega)]; exact ⟨by omega, by omega, fun z => by omega⟩
  · rw [if_neg (by omega), q1, Int.toNat_natCast]
    exact ⟨by omega, q9, fun _ => q4⟩
/-- what acting keeps, act by act -/
theorem actN_ok {S T : zM} (hW : WfS S) (hT : Kp S T) {B : Int} (hB : Bw T B) : ∀ t : Nat, t ≤ lnc S (plS S) 10 → Kp S (actN (plS S) T (lnf S (plS S) 10) t) ∧ Bw (actN (plS S) T (lnf S (plS S) 10) t) (B + t)
  | 0, _ => ⟨hT, fun j hj => by have := hB j hj; show 0 ≤ T 2 j ∧ T 2 j ≤ B + ((0 : Nat) : Int); omega⟩
  | t + 1, h => by
    obtain ⟨h1, h2⟩ := actN_ok hW hT hB t (by omega)
    obtain ⟨g1, g2⟩ := (ln_mem S (plS S) 10).1 t (by omega)
    unfold inl at g2
    rw [Bool.and_eq_true] at g2
    have g3 := (isF_mem g2.1).1
    have g4 := of_decide_eq_true g2.2
    refine ⟨Kp_trans h1 (act_ok h1.1 g1 ((h1.2.2.1 _ g1).mpr g3) g4.1), ?_⟩
    have := act_B (pl := plS S) g1 h2
    intro j hj
    have := this j hj
    show 0 ≤ actS (plS S) (actN (plS S) T (lnf S (plS S) 10) t) (lnf S (plS S) 10 t) 2 j ∧ _
    refine ⟨this.1, ?_⟩
    have e : ((t + 1 : Nat) : Int) = t + 1 := by omega
    show actS (plS S) (actN (plS S) T (lnf S (plS S) 10) t) (lnf S (plS S) 10 t) 2 j ≤ _
    omega
theorem rnd_ok {S : zM} (hW : WfS S) (hl : 0 ≤ ldr S) {B : Int} (hB0 : 0 ≤ B) (hB : Bw S B) : Kp S (rnd S) ∧ Bw (rnd S) (B + 10) := by
  have k1 := ld_ok hW hl
  have b1 := ld_B hB0 hB
  have k2 := lu_ok k1.1 (plS (ldS S)) 10
  have b2 : Bw (luS (ldS S) (plS (ldS S)) 10) B := fun j hj => by unfold luS; rw [zrow_ne _ _ (by omega)]; exact b1 j hj
  have h := actN_ok k1.1 k2 b2 _ (Nat.le_refl _)
  have hc := lnc_le (ldS S) (plS (ldS S)) 10
  refine ⟨Kp_trans (Kp_trans k1 h.1) (cR_ok h.1.1 10), fun j hj => ?_⟩
  have := h.2 j hj
  unfold rnd cR sacc
  rw [zrow_ne _ _ (by omega), zup_ne _ _ _ (by omega)]
  omega
