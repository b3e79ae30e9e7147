/-! ### acts on the abstract world -/
theorem dst_nw {w : Nat → Int} {a c : Nat} (h : 0 ≤ dst w a c) : w c ≠ 1 := (pth_wall (dst_pth h)).2
theorem good_ok {S : zM} {p c x : Nat} (h : kGood S p c x = true) (hcp : c ≠ p) : 0 ≤ dst (S 0) p x ∧ dst (S 0) p x = dst (S 0) p c - 1 ∧ S 0 x ≠ 1 := by
  have h1 : dst (S 0) p x = dst (S 0) p c - 1 := of_decide_eq_true h
  have h2 := dst_rng (S 0) p x
  have h3 := dst_rng (S 0) p c
  have h4 : dst (S 0) p c ≠ 0 := fun z => hcp (dst_zero z)
  exact ⟨by omega, h1, dst_nw (a := p) (by omega)⟩
theorem free_ok {S : zM} {p c x : Nat} (h : kFree S p c x = true) : kGood S p c x = true ∧ onS S x = -1 := by
  unfold kFree at h
  rw [Bool.and_eq_true] at h
  exact ⟨h.1, of_decide_eq_true h.2⟩
theorem part_ok {S : zM} {pl : Nat → Int} {p c x : Nat} (h : kPart S pl p c x = true) : kGood S p c x = true ∧ 0 ≤ onS S x ∧ 0 ≤ pl (onS S x).toNat ∧ dst (S 0) (pl (onS S x).toNat).toNat c < dst (S 0) (pl (onS S x).toNat).toNat x := by
  unfold kPart at h
  rw [Bool.and_eq_true] at h
  exact ⟨h.1, of_decide_eq_true h.2⟩
def Kp (S T : zM) : Prop := WfS T ∧ ldr T = ldr S ∧ (∀ m : Nat, m < 10 → (0 ≤ T 1 m ↔ 0 ≤ S 1 m)) ∧ T 0 = S 0 ∧ (∀ b, 8 ≤ b → T b = S b) ∧ T 7 5 = S 7 5 ∧ T 7 6 = S 7 6 ∧ T 7 7 = S 7 7
theorem Kp_trans {S T U : zM} (h : Kp S T) (k : Kp T U) : Kp S U :=
  ⟨k.1, k.2.1.trans h.2.1, fun m hm => (k.2.2.1 m hm).trans (h.2.2.1 m hm), k.2.2.2.1.trans h.2.2.2.1, fun b hb => (k.2.2.2.2.1 b hb).trans (h.2.2.2.2.1 b hb), k.2.2.2.2.2.1.trans h.2.2.2.2.2.1, k.2.2.2.2.2.2.1.trans h.2.2.2.2.2.2.1, k.2.2.2.2.2.2.2.trans h.2.2.2.2.2.2.2⟩
theorem Kp_refl {S : zM} (h : WfS S) : Kp S S := ⟨h, rfl, fun _ _ => Iff.rfl, rfl, fun _ _ => rfl, rfl, rfl, rfl⟩
theorem put_ok {S : zM} (hW : WfS S) {m : Nat} {c r : Int} {k : Nat} (hm : m < 10) (h0 : 0 ≤ S 1 m) (hc : 0 ≤ c ∧ c < 120) (hw : S 0 c.toNat ≠ 1) (hf : onS S c = -1) (hk : k < 5) : Kp S (sacc (sput S m c r) k) := by
  have k5 : k ≠ 5 := by omega
  have k6 : k ≠ 6 := by omega
  have k7 : k ≠ 7 := by omega
  have h := WfS_put (T := sacc (sput S m c r) k) hW hm h0 hc hw hf (fun j => by simp [sacc, sput, zup]) (fun b hb => by
    funext j
    have b1 : b ≠ 1 := by omega
    have b2 : b ≠ 2 := by omega
    have b3 : b ≠ 3 := by omega
    have b6 : b ≠ 6 := by omega
    have b7 : b ≠ 7 := by omega
    simp [sacc, sput, zup, b1, b2, b3, b6, b7]) (by simp [sacc, sput, zup, k5.symm, k7.symm]) (fun b j hj b1 b2 => by
    have b7 : b ≠ 7 := by omega
    simp [sacc, sput, zup, hj, b7])
  refine ⟨h.1, h.2.1, h.2.2, by funext j; simp [sacc, sput, zup], fun b hb => ?_, by simp [sacc, sput, zup, k5.symm], by simp [sacc, sput, zup, k6.symm], by simp [sacc, sput, zup, k7.symm]⟩
  funext j
  have b1 : b ≠ 1 := by omega
  have b2 : b ≠ 2 := by omega
  have b3 : b ≠ 3 := by omega
  have b6 : b ≠ 6 := by omega
  have b7 : b ≠ 7 := by omega
  simp [sacc, sput, zup, b1, b2, b3, b6, b7]
theorem xch_ok {S : zM} (hW : WfS S) {m o : Nat} {r : Int} {k : Nat} (hm : m < 10) (ho : o < 10) (hmo : m ≠ o) (h0 : 0 ≤ S 1 m) (h1 : 0 ≤ S 1 o) (hk : k < 5) : Kp S (sacc (sput (sput S m (S 1 o) r) o (S 1 m) r) k) := by
  have k5 : k ≠ 5 := by omega
  have k6 : k ≠ 6 := by omega
  have k7 : k ≠ 7 := by omega
  have h := WfS_xch (T := sacc (sput (sput S m (S 1 o) r) o (S 1 m) r) k) hW hm ho hmo h0 h1 (fun j => by
    by_cases z : j = m
    · subst z; simp [sacc, sput, zup, hmo]
    · by_cases y : j = o
      · subst y; simp [sacc, sput, zup, z]
      · simp [sacc, sput, zup, z, y]) (fun b hb => by
    funext j
    have b1 : b ≠ 1 := by omega
    have b2 : b ≠ 2 := by omega
    have b3 : b ≠ 3 := by omega
    have b6 : b ≠ 6 := by omega
    have b7 : b ≠ 7 := by omega
    simp [sacc, sput, zup, b1, b2, b3, b6, b7]) (by simp [sacc, sput, zup, k5.symm, k7.symm]) (fun b j hj hjo b1 b2 => by
    have b7 : b ≠ 7 := by omega
    simp [sacc, sput, zup, hj, hjo, b7])
  refine ⟨h.1, h.2.1, h.2.2, by funext j; simp [sacc, sput, zup], fun b hb => ?_, by simp [sacc, sput, zup, k5.symm], by simp [sacc, sput, zup, k6.symm], by simp [sacc, sput, zup, k7.symm]⟩
  funext j
  have b1 : b ≠ 1 := by omega
  have b2 : b ≠ 2 := by omega
  have b3 : b ≠ 3 := by omega
  have b6 : b ≠ 6 := by omega
  have b7 : b ≠ 7 := by omega
  simp [sacc, sput, zup, b1, b2, b3, b6, b7]
/-- rows 0, 1 and from 8 on stand, other rows only where members stand, accounts below 5 -/
theorem stay_ok {S T : zM} (hW : WfS S) (h0 : ∀ b, b = 0 ∨ b = 1 ∨ 8 ≤ b → T b = S b) (h7 : ∀ k, 5 ≤ k → T 7 k = S 7 k) (hTo : ∀ b j, S 1 j < 0 → 1 ≤ b → b ≤ 6 → T b j = S b j) : Kp S T := by
  have h := WfS_stay hW h0 ⟨h7 7 (by omega), h7 5 (by omega)⟩ hTo
  exact ⟨h.1, h.2.1, h.2.2, h0 0 (Or.inl rfl), fun b hb => h0 b (Or.inr (Or.inr hb)), h7 5 (by omega), h7 6 (by omega), h7 7 (by omega)⟩
theorem stayS_ok {S : zM} (hW : WfS S) {m : Nat} {r : Int} (h0 : 0 ≤ S 1 m) : Kp S (sstay S m r) := by
  refine stay_ok hW (fun b hb => ?_) (fun k hk => ?_) (fun b j hj b1 b2 => ?_)
  · funext j
    have b4 : b ≠ 4 := by omega
    have b6 : b ≠ 6 := by omega
    have b7 : b ≠ 7 := by omega
    simp [sstay, zup, b4, b6, b7]
  · have k2 : k ≠ 2 := by omega
    simp [sstay, zup, k2]
  · have hjm : j ≠ m := fun z => by subst z; omega
    have b7 : b ≠ 7 := by omega
    simp [sstay, zup, hjm, b7]
theorem wait_ok {S : zM} (hW : WfS S) {m : Nat} {r v : Int} (h0 : 0 ≤ S 1 m) : Kp S (zup (sstay S m r) 2 m v) := by
  refine stay_ok hW (fun b hb => ?_) (fun k hk => ?_) (fun b j hj b1 b2 => ?_)
  · funext j
    have b2 : b ≠ 2 := by omega
    have b4 : b ≠ 4 := by omega
    have b6 : b ≠ 6 := by omega
    have b7 : b ≠ 7 := by omega
    simp [sstay, zup, b2, b4, b6, b7]
  · have k2 : k ≠ 2 := by omega
    simp [sstay, zup, k2]
  · have hjm : j ≠ m := fun z => by subst z; omega
    have b7 : b ≠ 7 := by omega
    simp [sstay, zup, hjm, b7]
theorem act_ok {S : zM} (hW : WfS S) {pl : Nat → Int} {m : Nat} (hm : m < 10) (h0 : 0 ≤ S 1 m) (hp : 0 ≤ pl m) : Kp S (actS pl S m) := by
  have hc := hW.2.1 m hm
  have hcc : 0 ≤ S 1 m ∧ S 1 m < 120 := ⟨h0, hc.2⟩
  unfold actS
  by_cases a1 : S 1 m = pl m
  · rw [if_pos a1]; exact Kp_refl hW
  · rw [if_neg a1]
    have hne : (S 1 m).toNat ≠ (pl m).toNat := by omega
    by_cases a2 : 0 ≤ frst (kFree S (pl m).toNat (S 1 m).toNat) (S 1 m)
    · rw [if_pos a2]
      rcases frst_cases (ok := kFree S (pl m).toNat (S 1 m).toNat) hcc with z | ⟨z1, z2, z3, z4⟩
      · omega
      · have z5 := good_ok (free_ok z3).1 hne
        have z6 := (free_ok z3).2
        exact put_ok hW hm h0 ⟨z1, z2⟩ z5.2.2 (by
          have e : (((frst (kFree S (pl m).toNat (S 1 m).toNat) (S 1 m)).toNat : Nat) : Int) = frst (kFree S (pl m).toNat (S 1 m).toNat) (S 1 m) := by omega
          rw [← e]; exact z6) (by omega)
    · rw [if_neg a2]
      by_cases a3 : 0 ≤ frst (kPart S pl (pl m).toNat (S 1 m).toNat) (S 1 m)
      · rw [if_pos a3]
        rcases frst_cases (ok := kPart S pl (pl m).toNat (S 1 m).toNat) hcc with z | ⟨z1, z2, z3, z4⟩
        · omega
        · have z6 := (part_ok z3).2.1
          have e : (((frst (kPart S pl (pl m).toNat (S 1 m).toNat) (S 1 m)).toNat : Nat) : Int) = frst (kPart S pl (pl m).toNat (S 1 m).toNat) (S 1 m) := by omega
          rw [e] at z6
          generalize frst (kPart S pl (pl m).toNat (S 1 m).toNat) (S 1 m) = n2 at *
          obtain ⟨o, ho⟩ : ∃ o : Nat, onS S n2 = o := ⟨(onS S n2).toNat, by omega⟩
          obtain ⟨o1, o2⟩ := onS_some ho
          rw [ho, Int.toNat_natCast, ← o2]
          exact xch_ok hW hm o1 (fun z => by subst z; omega) h0 (by omega) (by omega)
      · rw [if_neg a3]
        by_cases a4 : 2 ≤ S 2 m ∧ 0 ≤ frst (kSide S) (S 1 m)
        · rw [if_pos a4]
          rcases frst_cases (ok := kSide S) hcc with z | ⟨z1, z2, z3, z4⟩
          · omega
          · have z5 := of_decide_eq_true z3
            have e : (((frst (kSide S) (S 1 m)).toNat : Nat) : Int) = frst (kSide S) (S 1 m) := by omega
            rw [e] at z5
            exact put_ok hW hm h0 ⟨z1, z2⟩ z5.1 z5.2 (by omega)
        · rw [if_neg a4]; exact wait_ok hW h0
/-- the class's world S and the reference's T while members act -/
def Dst (pl a : Nat → Int) (P : Nat → Prop) (S T : zM) : Prop :=
  (∀ b, b ≠ 5 → b ≠ 6 → b ≠ 7 → T b = S b) ∧ (∀ j, T 5 j = S 5 j + a j) ∧ (∀ j, T 7 j = S 7 j + if j = 0 then 1 else 0) ∧ ∀ j, T 6 j = S 6 j ∨ (P j ∧ S 1 j ≠ pl j)
theorem act_D {pl a : Nat → Int} {P P' : Nat → Prop} {S T : zM} {m : Nat} (h : Dst pl a P S T) (hP : ∀ j, P j → j ≠ m → P' j) : Dst pl a P' (actS pl S m) (actS pl T m) := by
  obtain ⟨h1, h2, h3, h4⟩ := h
  have e0 : T 0 = S 0 := h1 0 (by omega) (by omega) (by omega)
  have e1 : T 1 = S 1 := h1 1 (by omega) (by omega) (by omega)
  have e2 : T 2 = S 2 := h1 2 (by omega) (by omega) (by omega)
  have e3 : T 3 = S 3 := h1 3 (by omega) (by omega) (by omega)
  have e4 : T 4 = S 4 := h1 4 (by omega) (by omega) (by omega)
  have eo : ∀ x, onS T x = onS S x := fun x => by unfold onS; rw [e1]
  have k1 : ∀ p c, kFree T p c = kFree S p c := fun p c => by funext x; unfold kFree kGood; rw [e0, eo]
  have k2 : ∀ p c, kPart T pl p c = kPart S pl p c := fun p c => by funext x; unfold kPart kGood; rw [e0, eo]
  have k3 : kSide T = kSide S := by funext x; unfold kSide; rw [e0, eo]
  have six : ∀ (A B : zM) (X : Nat → Prop) (hm6 : ∀ j, X j → B 6 j = A 6 j) (ho : ∀ j, ¬ X j → A 6 j = S 6 j ∧ B 6 j = T 6 j ∧ A 1 j = S 1 j ∧ j ≠ m), ∀ j, B 6 j = A 6 j ∨ (P' j ∧ A 1 j ≠ pl j) := fun A B X hm6 ho j => by
    by_cases z : X j
    · exact Or.inl (hm6 j z)
    · obtain ⟨o1, o2, o3, o4⟩ := ho j z
      rcases h4 j with q | ⟨q1, q2⟩
      · exact Or.inl (by rw [o1, o2, q])
      · exact Or.inr ⟨hP j q1 o4, by rw [o3]; exact q2⟩
  unfold actS
  rw [e1, k1, k2, k3, e2]
  by_cases a1 : S 1 m = pl m
  · rw [if_pos a1, if_pos a1]
    refine ⟨h1, h2, h3, fun j => ?_⟩
    rcases h4 j with q | ⟨q1, q2⟩
    · exact Or.inl q
    · exact Or.inr ⟨hP j q1 (fun z => by subst z; exact q2 a1), q2⟩
  rw [if_neg a1, if_neg a1]
  have put : ∀ (c r : Int) (k : Nat), Dst pl a P' (sacc (sput S m c r) k) (sacc (sput T m c r) k) := fun c r k => by
    refine ⟨fun b b5 b6 b7 => ?_, fun j => ?_, fun j => ?_, six _ _ (fun j => j = m) (fun j hj => ?_) (fun j hj => ?_)⟩
    · funext j
      simp [sacc, sput, zup, b6, b7, h1 b b5 b6 b7, e3]
    · simp [sacc, sput, zup, h2 j]
    · simp only [sacc, sput, zup, h3]
      by_cases z : j = k
      · subst z; simp; omega
      · simp [z, h3]
    · subst hj; simp [sacc, sput, zup]
    · have hj : j ≠ m := hj
      simp [sacc, sput, zup, hj]
  by_cases a2 : 0 ≤ frst (kFree S (pl m).toNat (S 1 m).toNat) (S 1 m)
  · rw [if_pos a2, if_pos a2]
    exact put _ _ _
  rw [if_neg a2, if_neg a2]
  by_cases a3 : 0 ≤ frst (kPart S pl (pl m).toNat (S 1 m).toNat) (S 1 m)
  · rw [if_pos a3, if_pos a3, eo]
    generalize (onS S (frst (kPart S pl (pl m).toNat (S 1 m).toNat) (S 1 m))).toNat = o
    generalize frst (kPart S pl (pl m).toNat (S 1 m).toNat) (S 1 m) = c
    refine ⟨fun b b5 b6 b7 => ?_, fun j => ?_, fun j => ?_, six _ _ (fun j => j = m ∨ j = o) (fun j hj => ?_) (fun j hj => ?_)⟩
    · funext j
      simp [sacc, sput, zup, b6, b7, h1 b b5 b6 b7, e3]
    · simp [sacc, sput, zup, h2 j]
    · simp only [sacc, sput, zup, h3]
      by_cases z : j = 3
      · subst z; simp [h3]
      · simp [z, h3]
    · rcases hj with hj | hj
      · subst hj; simp [sacc, sput, zup]
      · subst hj; simp [sacc, sput, zup]
    · have j1 : j ≠ m := fun z => hj (Or.inl z)
      have j2 : j ≠ o := fun z => hj (Or.inr z)
      simp [sacc, sput, zup, j1, j2]
  rw [if_neg a3, if_neg a3]
  by_cases a4 : 2 ≤ S 2 m ∧ 0 ≤ frst (kSide S) (S 1 m)
  · rw [if_pos a4, if_pos a4]
    exact put _ _ _
  rw [if_neg a4, if_neg a4]
  refine ⟨fun b b5 b6 b7 => ?_, fun j => ?_, fun j => ?_, six _ _ (fun j => j = m) (fun j hj => ?_) (fun j hj => ?_)⟩
  · funext j
    simp [sstay, zup, b6, b7, h1 b b5 b6 b7, e4]
  · simp [sstay, zup, h2 j]
  · simp only [sstay, zup, h3]
    by_cases z : j = 2
    · subst z; simp [h3]
    · simp [z, h3]
  · subst hj; simp [sstay, zup]
  · have hj : j ≠ m := hj
    simp [sstay, zup, hj]
