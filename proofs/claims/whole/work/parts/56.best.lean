/-! ### the best assignment exists and is one -/
theorem GR_congr {w : Nat → Nat → Int} {n : Nat} : ∀ (j set : Nat) (t u : Nat → Int), j ≤ 10 → (∀ m : Nat, 10 - j ≤ m → m < 10 → t m = u m) → GR w n j set t → GR w n j set u
  | 0, _, _, _, _, _, _ => trivial
  | j + 1, set, t, u, hj, he, h => by
    have h0 := he (9 - j) (by omega) (by omega)
    rcases h with ⟨h1, h2, h3⟩ | ⟨s, h1, h2, h3, h4, h5, h6, h7⟩
    · exact Or.inl ⟨by rw [← h0]; exact h1, h2, GR_congr j set t u (by omega) (fun m m1 m2 => he m (by omega) m2) h3⟩
    · exact Or.inr ⟨s, by rw [← h0]; exact h1, h2, h3, h4, h5, h6, GR_congr j _ t u (by omega) (fun m m1 m2 => he m (by omega) m2) h7⟩
theorem GR_ex {w : Nat → Nat → Int} {n : Nat} : ∀ (j set : Nat), j ≤ 10 → ∃ t, GR w n j set t
  | 0, _, _ => ⟨fun _ => 0, trivial⟩
  | j + 1, set, hj => by
    by_cases z : ∃ r, r < n ∧ set.testBit r = true ∧ w (9 - j) r ≠ 0 ∧ w (9 - j) r + bst w n j (set ^^^ 2 ^ r) = bst w n (j + 1) set
    · obtain ⟨r0, hr0⟩ := z
      obtain ⟨r, hr, hmin⟩ := least_ex (P := fun r => r < n ∧ set.testBit r = true ∧ w (9 - j) r ≠ 0 ∧ w (9 - j) r + bst w n j (set ^^^ 2 ^ r) = bst w n (j + 1) set) r0 hr0
      obtain ⟨t, ht⟩ := GR_ex (w := w) (n := n) j (set ^^^ 2 ^ r) (by omega)
      refine ⟨fun m => if m = 9 - j then (r : Int) else t m, Or.inr ⟨r, by simp, hr.1, hr.2.1, hr.2.2.1, hr.2.2.2, fun q q1 q2 q3 q4 => hmin q q1 ⟨by have := hr.1; omega, q2, q3, q4⟩, ?_⟩⟩
      exact GR_congr j _ t _ (by omega) (fun m m1 m2 => by
        have : ¬ m = 9 - j := by omega
        simp only [this, if_false]) ht
    · obtain ⟨t, ht⟩ := GR_ex (w := w) (n := n) j set (by omega)
      refine ⟨fun m => if m = 9 - j then -1 else t m, Or.inl ⟨by simp, fun r r1 r2 r3 r4 => z ⟨r, r1, r2, r3, r4⟩, ?_⟩⟩
      exact GR_congr j _ t _ (by omega) (fun m m1 m2 => by
        have : ¬ m = 9 - j := by omega
        simp only [this, if_false]) ht
theorem BestT_ex {S : zM} (hW : WfS S) (n : Nat) : ∃ t, BestT (wo S) n t := by
  obtain ⟨t, ht⟩ := GR_ex (w := wo S) (n := n) 10 (2 ^ n - 1) (by omega)
  exact ⟨t, GR_best (wo_nn S hW) (fun m s hm hs _ => by rw [Nat.testBit_two_pow_sub_one]; exact decide_eq_true hs) ht⟩
theorem BestT_uni {w : Nat → Nat → Int} {n : Nat} {t u : Nat → Int} (ht : BestT w n t) (hu : BestT w n u) : ∀ m : Nat, m < 10 → t m = u m := by
  obtain ⟨a1, a2⟩ := ht.2 u hu.1
  obtain ⟨b1, b2⟩ := hu.2 t ht.1
  have a3 := a2 (by omega)
  have b3 := b2 (by omega)
  intro m
  induction m using Nat.strongRecOn with
  | _ m ih =>
    intro hm
    by_cases z : t m = u m
    · exact z
    · exfalso
      obtain ⟨c1, c2⟩ := a3 m hm (fun j hj => (ih j hj (by omega)).symm) (fun q => z q.symm)
      obtain ⟨d1, d2⟩ := b3 m hm (fun j hj => ih j hj (by omega)) z
      have := c2 d1
      have := d2 c1
      omega
/-- the slot that each member is given, -1 without one -/
noncomputable def bT (S : zM) : Nat → Int := Classical.epsilon (fun t => BestT (wo S) (nsl S).toNat t)
theorem bT_is {S : zM} (hW : WfS S) : BestT (wo S) (nsl S).toNat (bT S) := Classical.epsilon_spec (p := fun t => BestT (wo S) (nsl S).toNat t) (BestT_ex hW _)
theorem bT_cases {S : zM} (hW : WfS S) {m : Nat} (hm : m < 10) : bT S m = -1 ∨ ∃ s : Nat, bT S m = s ∧ (s : Int) < nsl S ∧ s < 10 ∧ isF S m = true ∧ isO S s = true ∧ 0 ≤ dm S m s ∧ dm S m s < 120 ∧ 0 ≤ plc S s ∧ plc S s < 120 ∧ 0 ≤ S 1 m ∧ (m : Int) ≠ ldr S := by
  rcases (bT_is hW).1.1 m hm with h | ⟨s, h1, h2, h3⟩
  · exact Or.inl h
  · obtain ⟨q1, q2, q3, q4, q5⟩ := wo_pos hW h3
    have h6 := hW.2.2.2.2.2.2.2.2.2 (pj S) (pj_rng hW).1
    have h7 : nsl S = S (9 + pj S) 0 := rfl
    have q6 := q2
    unfold isO at q6
    have q7 := (of_decide_eq_true q6).2
    have q8 := q1
    unfold isF at q8
    have q9 := of_decide_eq_true q8
    exact Or.inr ⟨s, h1, by omega, by omega, q1, q2, q3, q4, q7, (plc_rng q7).1, q9.2, q9.1⟩
noncomputable def gvn (S : zM) : Int := smN (fun m => if bT S m < 0 then 0 else 1) 10
noncomputable def gvs (S : zM) : Int := smN (fun m => if bT S m < 0 then 0 else dm S m (bT S m).toNat) 10
theorem smN_upd (f : Nat → Int) (a : Nat) (v : Int) : ∀ n : Nat, a < n → smN (fun m => if m = a then v else f m) n = smN f n - f a + v
  | 0, h => absurd h (Nat.not_lt_zero a)
  | n + 1, h => by
    have h1 : smN (fun m => if m = a then v else f m) (n + 1) = smN (fun m => if m = a then v else f m) n + (if n = a then v else f n) := rfl
    have h2 : smN f (n + 1) = smN f n + f n := rfl
    by_cases z : n = a
    · subst z
      rw [h1, if_pos rfl, h2]
      have := smN_congr (f := fun m => if m = n then v else f m) (g := f) n (fun i hi => if_neg (by omega))
      omega
    · rw [h1, if_neg z, h2, smN_upd f a v n (by omega)]; omega
/-! ### Giving.give -/
def Gb (M N : zM) : Prop := ∀ b, b ≠ 224 → b ≠ 225 → (b < 254 ∨ 374 ≤ b) → N b = M b
theorem s_give (d : Nat) (Q : zQ) (M S : zM) (m s : Nat) (hR : RelC M 0 S) (hW : WfS S) (hV : Wv M (S 0)) (hm : m < 10) (hs : s < 10) (hp : 0 ≤ plc S s) (h229 : M 229 s = plc S s) (hc : 0 ≤ S 1 m) (hd : 0 ≤ dm S m s)
    (hQ : ∀ N, Gb (zup (zup (zup (zup M 227 m s) 228 m (plc S s)) 226 4 (M 226 4 + 1)) 226 5 (M 226 5 + dm S m s)) N → Wv N (S 0) → Q none N) : Sp (d + 3) 11 [.inr (.inr 226), .inl (s : Int), .inl (m : Int)] M Q := by
  obtain ⟨pl, hpl⟩ : ∃ pl : Nat, plc S s = pl := ⟨(plc S s).toNat, by omega⟩
  obtain ⟨cm, hcm⟩ : ∃ cm : Nat, S 1 m = cm := ⟨(S 1 m).toNat, by omega⟩
  have hpr := plc_rng hp
  have hm0 : 0 ≤ (m : Int) ∧ (m : Int) < 10 := ⟨by omega, by omega⟩
  have hs0 : 0 ≤ (s : Int) ∧ (s : Int) < 10 := ⟨by omega, by omega⟩
  have hcr := hW.2.1 m hm
  have hc0 : 0 ≤ (cm : Int) ∧ (cm : Int) < 120 := ⟨by omega, by omega⟩
  have hpl0 : pl < 120 := by omega
  rw [hpl] at hQ h229
  generalize hM1 : zup (zup (zup M 227 m s) 228 m pl) 226 4 (M 226 4 + 1) = M1 at hQ
  have hoth : ∀ b, b ≠ 226 → b ≠ 227 → b ≠ 228 → M1 b = M b := fun b h1 h2 h3 => by rw [← hM1, zup_ne _ _ _ h1, zup_ne _ _ _ h3, zup_ne _ _ _ h2]
  have hR1 : RelC M1 0 S := RelC_congr (fun b hb => hoth b (by omega) (by omega) (by omega)) hR
  have hV1 : Wv M1 (S 0) := fun x hx => by
    rw [hoth 224 (by omega) (by omega) (by omega), hoth (254 + x) (by omega) (by omega) (by omega)]
    exact hV x hx
  have e0 : zup M 227 m s 229 = M 229 := zup_ne _ _ _ (by omega)
  have e1 : zup (zup M 227 m s) 228 m pl 226 = M 226 := by rw [zup_ne _ _ _ (by omega), zup_ne _ _ _ (by omega)]
  have e2 : M1 228 m = pl := by rw [← hM1]; simp [zup]
  have e3 : M1 226 5 = M 226 5 := by rw [← hM1]; simp [zup]
  have hzD : ∀ i : Int, zin 0 (254 + pl) i = (0 ≤ i ∧ i < 120) := fun i => zin_of (n := 120) (zkD hpl0)
  simp only [↓e11, ↓e11_0, ↓e11_1, ↓e11_4, ↓e11_5, ↓e11_6, ↓e11_7, ↓e11_8, ↓e11_11, ↓e11_12, ↓e11_13, ↓e11_16, ↓e11_17, ↓e11_18, ↓e11_19, ↓e11_20, ↓e11_20i, ↓e11_21, ↓e11_24, ↓e11_25, ↓e11_26, ↓e11_29, ↓e11_30, ↓e11_30i, ↓e11_31, ↓e11_34, ↓e11_35, ↓e11_38, ↓e11_39, ↓e11_42, ↓e11_43, ↓e11_44, ↓e11_48, ↓e11_51, ↓e11_54, ↓e11_55, ↓e11_56, ↓e11_57, ↓e11_58, ↓e11_61, znl_i, znl_r, znl_n, zcs_0, zcs_1, zcs_2, zcs_3, zcat_0, zcat_1, zcat_2, zcat_3, zbl_0, zbl_1, true_and, and_true, ↓zret_some, ↓zret_none, Nat.reduceAdd, Nat.reduceLeDiff, Nat.reduceMul, eq_self, Int.reduceToNat, Int.reduceLE, Int.reduceLT, Int.reduceNeg, and_self, zkc_0, zin_1, zin_2, zin_3, zin_4, zin_5, zin_6, zin_7, zin_8, zin_9, zaa_9, zkc_10, zin_11, zin_12, zkc_13, zin_14, zin_15, zkc_16, zin_17, zin_18, zkc_19, zin_20, zin_21, zin_22, zin_23, zin_24, zin_25, zin_26, zin_27, zin_28, zaa_28, zkc_29, zin_30, zin_31, zkc_32, zin_33, zin_34, zkc_35, zin_36, zin_37, zkc_38, zin_39, zin_40, zin_41, zin_42, zin_43, zin_44, zin_45, zin_46, zin_47, zaa_47, zkc_48, zin_49, zin_50, zkc_51, zin_52, zin_53, zkc_54, zin_55, zin_56, zkc_209, zkc_210, zin_211, zaa_211, zkc_212, zin_213, zkc_214, zkc_215, zin_216, zin_217, zkc_218, zin_219, zin_220, zin_221, zkc_222, zin_223, zaa_223, zin_224, zin_225, zkc_226, zin_227, zin_228, zin_229, zin_230, zin_231, zin_232, zkc_233, zin_234, zaa_234, zin_235, zin_236, zin_237, zin_238, zin_239, zin_240, zin_241, zin_242, zin_243, zin_244, zin_245, zin_246, zin_247, zin_248, zin_249, zin_250, zkc_251, zin_252, zin_253, zkc_374, zin_375, zin_376, zin_377, zin_378, zin_379, zin_380, zin_381, zin_382, zin_383, zin_384, zin_385, zin_386, zin_387, hm0, hs0, Int.toNat_natCast, e0, h229, e1, hM1, e2, e3]
  refine s_from d _ M1 (S 0) pl hpl0 (Hw_of hR1 hW) hV1 (fun N v1 v2 v3 => ?_)
  have hdv := v2 cm (by omega)
  have hdm : dst (S 0) pl cm = dm S m s := by unfold dm; rw [hpl, hcm]; simp
  have hdd : dd (S 0) pl cm = dm S m s := by unfold dd; rw [if_neg (by omega)]; exact hdm
  have h2m : N 2 m = cm := by
    rw [v3 2 (by omega) (by omega) (by omega)]
    have := hR1.2.1 m hm
    simp only [Nat.zero_add] at this
    rw [this, if_neg (by omega), hcm]
  rw [zret_some]
  simp only [↓e11, ↓e11_0, ↓e11_1, ↓e11_4, ↓e11_5, ↓e11_6, ↓e11_7, ↓e11_8, ↓e11_11, ↓e11_12, ↓e11_13, ↓e11_16, ↓e11_17, ↓e11_18, ↓e11_19, ↓e11_20, ↓e11_20i, ↓e11_21, ↓e11_24, ↓e11_25, ↓e11_26, ↓e11_29, ↓e11_30, ↓e11_30i, ↓e11_31, ↓e11_34, ↓e11_35, ↓e11_38, ↓e11_39, ↓e11_42, ↓e11_43, ↓e11_44, ↓e11_47, ↓e11_48, ↓e11_51, ↓e11_54, ↓e11_55, ↓e11_56, ↓e11_57, ↓e11_58, ↓e11_61, znl_i, znl_r, znl_n, zcs_0, zcs_1, zcs_2, zcs_3, zcat_0, zcat_1, zcat_2, zcat_3, zbl_0, zbl_1, true_and, and_true, ↓zret_some, ↓zret_none, Nat.reduceAdd, Nat.reduceLeDiff, Nat.reduceMul, eq_self, Int.reduceToNat, Int.reduceLE, Int.reduceLT, Int.reduceNeg, and_self, zkc_0, zin_1, zin_2, zin_3, zin_4, zin_5, zin_6, zin_7, zin_8, zin_9, zaa_9, zkc_10, zin_11, zin_12, zkc_13, zin_14, zin_15, zkc_16, zin_17, zin_18, zkc_19, zin_20, zin_21, zin_22, zin_23, zin_24, zin_25, zin_26, zin_27, zin_28, zaa_28, zkc_29, zin_30, zin_31, zkc_32, zin_33, zin_34, zkc_35, zin_36, zin_37, zkc_38, zin_39, zin_40, zin_41, zin_42, zin_43, zin_44, zin_45, zin_46, zin_47, zaa_47, zkc_48, zin_49, zin_50, zkc_51, zin_52, zin_53, zkc_54, zin_55, zin_56, zkc_209, zkc_210, zin_211, zaa_211, zkc_212, zin_213, zkc_214, zkc_215, zin_216, zin_217, zkc_218, zin_219, zin_220, zin_221, zkc_222, zin_223, zaa_223, zin_224, zin_225, zkc_226, zin_227, zin_228, zin_229, zin_230, zin_231, zin_232, zkc_233, zin_234, zaa_234, zin_235, zin_236, zin_237, zin_238, zin_239, zin_240, zin_241, zin_242, zin_243, zin_244, zin_245, zin_246, zin_247, zin_248, zin_249, zin_250, zkc_251, zin_252, zin_253, zkc_374, zin_375, zin_376, zin_377, zin_378, zin_379, zin_380, zin_381, zin_382, zin_383, zin_384, zin_385, zin_386, zin_387, hm0, Int.toNat_natCast, h2m, hzD, hc0, hdv, hdd]
  refine hQ _ (fun b b1 b2 b3 => ?_) (fun x hx => ?_)
  · by_cases z : b = 226
    · subst z
      funext j
      have := v3 226 (by omega) (by omega) (by omega)
      simp only [zup, this]
    · rw [zup_ne _ _ _ z, v3 b b1 b2 b3, zup_ne _ _ _ z]
  · rw [zup_ne _ _ _ (by omega), zup_ne _ _ _ (by omega)]
    exact v1 x hx
