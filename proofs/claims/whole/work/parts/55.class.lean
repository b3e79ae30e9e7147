/-! ### the class's matching gives the best assignment -/
/-- the prices stand in rows 1 to k -/
def PrR (S N : zM) (k p n : Nat) : Prop := ∀ i m : Nat, 0 < i → i ≤ k → (folN S 10)[i - 1]? = some m → (∀ c s : Nat, 1 ≤ c → c ≤ p → (opnN S n)[c - 1]? = some s → N (240 + i) c = prc S k i m s) ∧ ∀ c : Nat, p < c → c ≤ p + k → N (240 + i) c = 2593742460100 + 10 * (11 : Int) ^ (k - i)
theorem prc_rng {S : zM} (hW : WfS S) {k i m s : Nat} (hs : isO S s = true) (hs9 : s < 10) (hi : 1 ≤ i) (hk : k < 10) : 0 ≤ prc S k i m s ∧ prc S k i m s ≤ 1125899906842624 := by
  unfold prc
  split
  · omega
  · unfold isO at hs
    have h2 := (of_decide_eq_true hs).2
    have h3 := (plc_rng h2).1
    have h4 := dst_lt (w := S 0) (a := (plc S s).toNat) (c := (S 1 m).toNat) (by omega)
    have h5 := eleven9 (k := k - i) (by omega)
    have h6 : (s : Int) * (11 : Int) ^ (k - i) ≤ 9 * 2357947691 := Int.mul_le_mul (by omega) h5.1 (by omega) (by omega)
    have h7 : 0 ≤ (s : Int) * (11 : Int) ^ (k - i) := Int.mul_nonneg (by omega) (by omega)
    unfold dm at *
    omega
theorem PrR_Pr {S N : zM} (hW : WfS S) {k p n : Nat} (hk : k = (folN S 10).length) (hp : p = (opnN S n).length) (hn : n ≤ 10) (hk9 : k < 10) (h : PrR S N k p n) : Pr N (p + k) k := by
  intro i c i1 i2 c1 c2
  obtain ⟨m, hm⟩ : ∃ m, (folN S 10)[i - 1]? = some m := ⟨_, List.getElem?_eq_getElem (by omega)⟩
  obtain ⟨h1, h2⟩ := h i m (by omega) i2 hm
  by_cases z : c ≤ p
  · obtain ⟨s, hs⟩ : ∃ s, (opnN S n)[c - 1]? = some s := ⟨_, List.getElem?_eq_getElem (by omega)⟩
    have := lst_mem hs
    rw [h1 c s c1 z hs]
    exact prc_rng hW this.2 (by omega) i1 hk9
  · have h5 := eleven9 (k := k - i) (by omega)
    rw [h2 c (by omega) c2]
    omega
/-- the price of an assignment's row -/
theorem rp_at {S N : zM} (hW : WfS S) {k p n : Nat} {t : Nat → Int} (hk : k = (folN S 10).length) (h : PrR S N k p n) {i c : Nat} (hi : i < k) (hc1 : 1 ≤ c) (hc2 : c ≤ p + k)
    (hv : (t (fo S i) = -1 ∧ p < c) ∨ ∃ s : Nat, t (fo S i) = s ∧ c ≤ p ∧ (opnN S n)[c - 1]? = some s ∧ 0 ≤ dm S (fo S i) s) : N (240 + (i + 1)) c = rp S (fo S) k t i := by
  have hm : (folN S 10)[i + 1 - 1]? = some (fo S i) := fo_at (by omega)
  obtain ⟨h1, h2⟩ := h (i + 1) (fo S i) (by omega) (by omega) hm
  unfold rp gv ds dg
  rcases hv with ⟨q1, q2⟩ | ⟨s, q1, q2, q3, q4⟩
  · rw [h2 c q2 hc2, if_pos (by omega), if_pos (by omega), if_pos (by omega)]
    omega
  · rw [h1 c s hc1 q2 q3, if_neg (by omega), if_neg (by omega), if_neg (by omega), q1, Int.toNat_natCast]
    unfold prc
    rw [if_neg (by omega)]
    omega
theorem mt_best {S N : zM} {k p n : Nat} {t : Nat → Int} (hW : WfS S) (hk : k = (folN S 10).length) (hp : p = (opnN S n).length) (hn : n ≤ 10) (hk9 : k < 10) (hH : HM N (p + k) k) (hPr : PrR S N k p n) (hT : BestT (wo S) n t) :
    ∀ i c : Nat, i < k → 1 ≤ c → c ≤ p + k → N 235 c = ((i + 1 : Nat) : Int) → (t (fo S i) = -1 ∧ p < c) ∨ ∃ s : Nat, t (fo S i) = s ∧ c ≤ p ∧ (opnN S n)[c - 1]? = some s := by
  have hex : ∀ i : Nat, ∃ c : Nat, i < k → 1 ≤ c ∧ c ≤ p + k ∧ N 235 c = ((i + 1 : Nat) : Int) := fun i => by
    by_cases z : i < k
    · obtain ⟨c, c1, c2, c3⟩ := hH.2.2.1 (i + 1) (by omega) (by omega)
      exact ⟨c, fun _ => ⟨c1, c2, by rw [c3]⟩⟩
    · exact ⟨0, fun y => absurd y z⟩
  obtain ⟨sc, hsc⟩ := Classical.axiomOfChoice hex
  have fat : ∀ i, i < k → (folN S 10)[i]? = some (fo S i) := fun i hi => fo_at (by omega)
  have finj : ∀ i j, i < k → j < k → fo S i = fo S j → i = j := fun i j hi hj e => lst_inj (fat i hi) (by rw [e]; exact fat j hj)
  have f10 : ∀ i, i < k → fo S i < 10 := fun i hi => (lst_mem (fat i hi)).1
  have oat : ∀ c, 1 ≤ c → c ≤ p → (opnN S n)[c - 1]? = some ((opnN S n).getD (c - 1) 0) := fun c c1 c2 => by
    rw [List.getD_eq_getElem?_getD, List.getElem?_eq_getElem (by omega)]; rfl
  -- the class's assignment
  obtain ⟨u, hu1, hu2⟩ : ∃ u : Nat → Int, (∀ i, i < k → u (fo S i) = if sc i ≤ p then (((opnN S n).getD (sc i - 1) 0 : Nat) : Int) else -1) ∧ ∀ m, (∀ i, i < k → fo S i ≠ m) → u m = -1 := by
    have : ∀ m : Nat, ∃ v : Int, (∀ i, i < k → fo S i = m → v = if sc i ≤ p then (((opnN S n).getD (sc i - 1) 0 : Nat) : Int) else -1) ∧ ((∀ i, i < k → fo S i ≠ m) → v = -1) := fun m => by
      by_cases z : ∃ i, i < k ∧ fo S i = m
      · obtain ⟨i, i1, i2⟩ := z
        refine ⟨if sc i ≤ p then (((opnN S n).getD (sc i - 1) 0 : Nat) : Int) else -1, fun j j1 j2 => ?_, fun y => absurd i2 (y i i1)⟩
        · have := finj i j i1 j1 (by rw [i2, j2])
          subst this; rfl
      · exact ⟨-1, fun i i1 i2 => absurd ⟨i, i1, i2⟩ z, fun _ => rfl⟩
    obtain ⟨u, hu⟩ := Classical.axiomOfChoice this
    exact ⟨u, fun i hi => (hu (fo S i)).1 i hi rfl, fun m hm => (hu m).2 hm⟩
  -- no row stands at a forbidden price
  have hnn : ∀ i c, i < k → 1 ≤ c → c ≤ p + k → 0 ≤ N (240 + (i + 1)) c := fun i c hi c1 c2 => (PrR_Pr hW hk hp hn hk9 hPr (i + 1) c (by omega) (by omega) c1 c2).1
  have hfin : ∀ i, i < k → N (240 + (i + 1)) (sc i) ≤ 100000000000000 := by
    have h1 := HM_opt hH hk9 sc (fun i => p + (i + 1)) hsc (fun i hi => ⟨by omega, by omega⟩) (fun i j hi hj e => by
      have e : p + (i + 1) = p + (j + 1) := e
      omega)
    have h2 := (smN_ge (f := fun i => N (240 + (i + 1)) (sc i)) k (fun i hi => hnn i (sc i) hi (hsc i hi).1 (hsc i hi).2.1)).2
    have h3 : smN (fun i => N (240 + (i + 1)) (p + (i + 1))) k ≤ smN (fun _ => 2700000000000) k := smN_le k (fun i hi => by
      show N (240 + (i + 1)) (p + (i + 1)) ≤ 2700000000000
      have h4 := (hPr (i + 1) (fo S i) (by omega) (by omega) (fat i hi)).2 (p + (i + 1)) (by omega) (by omega)
      have h5 := eleven9 (k := k - (i + 1)) (by omega)
      rw [h4]; omega)
    rw [smN_const] at h3
    intro i hi
    have h4 : N (240 + (i + 1)) (sc i) ≤ _ := h2 i hi
    omega
  have hud : ∀ i, i < k → (u (fo S i) = -1 ∧ p < sc i) ∨ ∃ s : Nat, u (fo S i) = s ∧ sc i ≤ p ∧ (opnN S n)[sc i - 1]? = some s ∧ 0 ≤ dm S (fo S i) s := fun i hi => by
    have h1 := hu1 i hi
    by_cases z : sc i ≤ p
    · rw [if_pos z] at h1
      refine Or.inr ⟨_, h1, z, oat _ (hsc i hi).1 z, ?_⟩
      have h2 := (hPr (i + 1) (fo S i) (by omega) (by omega) (fat i hi)).1 (sc i) _ (hsc i hi).1 z (oat _ (hsc i hi).1 z)
      have h3 := hfin i hi
      rw [h2] at h3
      unfold prc at h3
      split at h3
      · omega
      · omega
    · rw [if_neg z] at h1
      exact Or.inl ⟨h1, by omega⟩
  have hFu : Fe (wo S) n u := by
    refine ⟨fun m hm => ?_, fun m e hm he h1 h2 => ?_⟩
    · by_cases z : ∃ i, i < k ∧ fo S i = m
      · obtain ⟨i, i1, rfl⟩ := z
        rcases hud i i1 with q | ⟨s, q1, q2, q3, q4⟩
        · exact Or.inl q.1
        · have h5 := lst_mem q3
          have h6 := lst_mem (fat i i1)
          have h7 := dst_lt (w := S 0) (a := (plc S s).toNat) (c := (S 1 (fo S i)).toNat) (by
            have h5 := h5.2
            unfold isO at h5
            have h2 := (of_decide_eq_true h5).2
            have h3 := (plc_rng h2).1
            omega)
          refine Or.inr ⟨s, q1, h5.1, ?_⟩
          unfold wo
          rw [if_pos ⟨h6.2, h5.2, q4⟩]
          unfold dm
          omega
      · exact Or.inl (hu2 m (fun i i1 i2 => z ⟨i, i1, i2⟩))
    · have hz : ∀ m : Nat, 0 ≤ u m → ∃ i, i < k ∧ fo S i = m := fun m hm => by
        by_cases z : ∃ i, i < k ∧ fo S i = m
        · exact z
        · have := hu2 m (fun i i1 i2 => z ⟨i, i1, i2⟩); omega
      obtain ⟨i, i1, rfl⟩ := hz m h1
      obtain ⟨j, j1, rfl⟩ := hz e (by omega)
      rcases hud i i1 with q | ⟨s, q1, q2, q3, q4⟩
      · omega
      rcases hud j j1 with y | ⟨r, y1, y2, y3, y4⟩
      · omega
      have : s = r := by omega
      subst this
      have h7 := lst_inj q3 y3
      have h8 := hsc i i1
      have h9 := hsc j j1
      have h10 : sc i = sc j := by omega
      have : i = j := by
        have a1 := h8.2.2
        have a2 := h9.2.2
        rw [h10] at a1
        omega
      rw [this]
  -- the columns of t
  obtain ⟨ct, hct⟩ : ∃ ct : Nat → Nat, ∀ i, i < k → 1 ≤ ct i ∧ ct i ≤ p + k ∧ ((t (fo S i) = -1 ∧ ct i = p + (i + 1)) ∨ ∃ s : Nat, t (fo S i) = s ∧ ct i ≤ p ∧ (opnN S n)[ct i - 1]? = some s ∧ 0 ≤ dm S (fo S i) s) := by
    have : ∀ i : Nat, ∃ c : Nat, i < k → 1 ≤ c ∧ c ≤ p + k ∧ ((t (fo S i) = -1 ∧ c = p + (i + 1)) ∨ ∃ s : Nat, t (fo S i) = s ∧ c ≤ p ∧ (opnN S n)[c - 1]? = some s ∧ 0 ≤ dm S (fo S i) s) := fun i => by
      by_cases z : i < k
      · rcases hT.1.1 (fo S i) (f10 i z) with q | ⟨s, q1, q2, q3⟩
        · exact ⟨p + (i + 1), fun _ => ⟨by omega, by omega, Or.inl ⟨q, rfl⟩⟩⟩
        · have h1 := wo_pos hW q3
          obtain ⟨c, hc⟩ := lst_idx q2 h1.2.1
          have h2 := (List.getElem?_eq_some_iff.mp hc).1
          have h3 : c < p := by rw [hp]; exact h2
          exact ⟨c + 1, fun _ => ⟨by omega, by omega, Or.inr ⟨s, q1, by omega, hc, h1.2.2.1⟩⟩⟩
      · exact ⟨0, fun y => absurd y z⟩
    obtain ⟨ct, hct⟩ := Classical.axiomOfChoice this
    exact ⟨ct, hct⟩
  have hle := HM_opt hH hk9 sc ct hsc (fun i hi => ⟨(hct i hi).1, (hct i hi).2.1⟩) (fun i j hi hj e => by
    obtain ⟨a1, a2, a3⟩ := hct i hi
    obtain ⟨b1, b2, b3⟩ := hct j hj
    rcases a3 with ⟨a3, a4⟩ | ⟨s, a3, a4, a5, a6⟩ <;> rcases b3 with ⟨b3, b4⟩ | ⟨r, b3, b4, b5, b6⟩
    · omega
    · omega
    · omega
    · have : s = r := by
        rw [e, b5] at a5
        exact (Option.some.inj a5).symm
      subst this
      exact finj i j hi hj (hT.1.2 _ _ (f10 i hi) (f10 j hj) (by omega) (by omega)))
  have e1 : smN (fun i => N (240 + (i + 1)) (sc i)) k = smN (rp S (fo S) k u) k := smN_congr k (fun i hi => rp_at hW hk hPr hi (hsc i hi).1 (hsc i hi).2.1 (hud i hi))
  have e2 : smN (fun i => N (240 + (i + 1)) (ct i)) k = smN (rp S (fo S) k t) k := smN_congr k (fun i hi => by
    obtain ⟨a1, a2, a3⟩ := hct i hi
    refine rp_at hW hk hPr hi a1 a2 ?_
    rcases a3 with ⟨a3, a4⟩ | a3
    · exact Or.inl ⟨a3, by omega⟩
    · exact Or.inr a3)
  rw [e1, e2, rp_sum, rp_sum] at hle
  have v1 := vl_sum hW hFu
  have v2 := vl_sum hW hT.1
  have b1 := ds_bnd hW hFu k (by omega)
  have b2 := ds_bnd hW hT.1 k (by omega)
  rw [← hk] at v1 v2
  obtain ⟨w1, w2⟩ := hT.2 u hFu
  have hdg : ∀ (x : Nat → Int), Fe (wo S) n x → ∀ i, i < k → 0 ≤ dg (fo S) x i ∧ dg (fo S) x i ≤ 10 := fun x hx i hi => by
    unfold dg
    rcases hx.1 _ (f10 i hi) with q | ⟨s, q1, q2, q3⟩
    · rw [if_pos (by omega)]; omega
    · rw [if_neg (by omega)]; omega
  have l1 := hor_rng k (hdg u hFu)
  have l2 := hor_rng k (hdg t hT.1)
  have l3 := (eleven9 hk9).1
  generalize smN (vl (wo S) u) 10 = vu at *
  generalize smN (vl (wo S) t) 10 = vt at *
  generalize smN (gv (fo S) u) k = cu at *
  generalize smN (gv (fo S) t) k = cq at *
  generalize smN (ds S (fo S) u) k = du at *
  generalize smN (ds S (fo S) t) k = dt at *
  have key : cu = cq ∧ du = dt := by omega
  have hve : vu = vt := by omega
  have hLe : hor (dg (fo S) u) k ≤ hor (dg (fo S) t) k := by omega
  have w3 := w2 hve
  have heq : ∀ m, m < 10 → u m = t m := by
    intro m
    induction m using Nat.strongRecOn with
    | _ m ih =>
      intro hm
      by_cases z : u m = t m
      · exact z
      · exfalso
        obtain ⟨x1, x2⟩ := w3 m hm (fun j hj => ih j hj (by omega)) z
        rcases hT.1.1 m hm with q | ⟨s, q1, q2, q3⟩
        · omega
        · obtain ⟨i, hi⟩ := lst_idx hm (wo_pos hW q3).1
          have hik : i < k := by rw [hk]; exact (List.getElem?_eq_some_iff.mp hi).1
          have hfm : fo S i = m := by
            have := fat i hik
            have h2 : (folN S 10)[i]? = some m := hi
            rw [h2] at this
            exact (Option.some.inj this).symm
          have := hor_lt (f := dg (fo S) t) (g := dg (fo S) u) (i := i) (fun j hj => by
            have h3 := lst_mono (fat j (by omega)) (fat i hik) hj
            have := ih (fo S j) (by omega) (by omega)
            unfold dg
            rw [this]) (by
            unfold dg
            rw [hfm, if_neg (by omega)]
            split
            · omega
            · exact x2 (by omega)) k hik (fun j hj => ⟨(hdg t hT.1 j hj).1, (hdg t hT.1 j hj).2, (hdg u hFu j hj).1, (hdg u hFu j hj).2⟩)
          omega
  intro i c hi c1 c2 hc
  have h1 := hsc i hi
  have h2 : c = sc i := hH.2.1 c (sc i) c1 c2 h1.1 h1.2.1 (by omega) (by rw [hc, h1.2.2])
  subst h2
  have h3 := heq _ (f10 i hi)
  rcases hud i hi with q | ⟨s, q1, q2, q3, q4⟩
  · exact Or.inl ⟨by omega, q.2⟩
  · exact Or.inr ⟨s, by omega, q2, q3⟩
