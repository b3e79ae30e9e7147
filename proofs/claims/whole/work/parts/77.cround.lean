/-! ### Turns: lining up, a round of the class -/
theorem s_insert (d : Nat) (Q : zQ) (M : zM) (ln : Nat → Nat) (key : Nat → Int) (cnt m : Nat) (hc : cnt < 10) (h5 : M 251 5 = cnt) (hL : LnA M 252 253 cnt ln key)
    (hk : ∀ i, i < cnt → -2147483648 ≤ key (ln i) ∧ key (ln i) < 2147483648) (hm : -2147483648 ≤ key m ∧ key m < 2147483648)
    (hQ : ∀ N, (∀ b, b ≠ 251 → b ≠ 252 → b ≠ 253 → N b = M b) → N 251 5 = ((cnt + 1 : Nat) : Int) → LnA N 252 253 (cnt + 1) (insF key ln cnt m) key → Q none N) :
    Sp (d + 1) 45 [.inr (.inr 251), .inl (m : Int), .inl (key m)] M Q := by
  have stop : ∀ (p : Nat) (N : zM), (∀ b, b ≠ 252 → b ≠ 253 → N b = M b) → LnP N 252 253 cnt p ln key (key m) → ps key ln (key m) p = p → RT (Sp d) 45 Q 55 [some (.inr (.inr 251)), some (.inl (m : Int)), some (.inl (key m)), some (.inl (p : Int))] [] N := by
    intro p N h1 h2 h3
    have hp : 0 ≤ (p : Int) ∧ (p : Int) < 10 := ⟨by omega, by have := h2.1; omega⟩
    have h9 := LnP_end (m := m) (show (252 : Nat) ≠ 253 by omega) h2 h3
    have e5 : zup (zup N 252 p (m : Int)) 253 p (key m) 251 5 = (cnt : Int) := by rw [zup_ne _ _ _ (by omega), zup_ne _ _ _ (by omega), h1 251 (by omega) (by omega), h5]
    have h8 := hQ (zup (zup (zup N 252 p (m : Int)) 253 p (key m)) 251 5 ((cnt : Int) + 1)) (fun b b1 b2 b3 => by rw [zup_ne _ _ _ b1, zup_ne _ _ _ b3, zup_ne _ _ _ b2, h1 b b2 b3]) (by simp [zup]) (fun i hi => by
      rw [zup_ne _ (b := 252) _ _ (by omega), zup_ne _ (b := 253) (a := 251) _ _ (by omega)]
      exact h9 i hi)
    simp only [↓e45, ↓e45_0, ↓e45_1, ↓e45_4, ↓e45_6, ↓e45_9, ↓e45_10, ↓e45_13, ↓e45_14, ↓e45_15, ↓e45_16, ↓e45_17, ↓e45_18, ↓e45_21, ↓e45_22, ↓e45_25, ↓e45_26, ↓e45_27, ↓e45_30, ↓e45_31, ↓e45_32, ↓e45_33, ↓e45_34, ↓e45_35, ↓e45_36, ↓e45_39, ↓e45_40, ↓e45_41, ↓e45_44, ↓e45_45, ↓e45_46, ↓e45_47, ↓e45_48, ↓e45_49, ↓e45_52, ↓e45_55, ↓e45_56, ↓e45_59, ↓e45_60, ↓e45_61, ↓e45_62, ↓e45_63, ↓e45_66, ↓e45_67, ↓e45_68, ↓e45_69, ↓e45_70, ↓e45_70i, ↓e45_71, ↓e45_74, ↓e45_75, ↓e45_76, ↓e45_79, znl_i, znl_r, znl_n, zcs_0, zcs_1, zcs_2, zcs_3, zcat_0, zcat_1, zcat_2, zcat_3, zbl_0, zbl_1, true_and, and_true, ↓zret_some, ↓zret_none, Nat.reduceAdd, Nat.reduceLeDiff, Nat.reduceMul, eq_self, Int.reduceToNat, Int.reduceLE, Int.reduceLT, Int.reduceNeg, and_self, zkc_0, zin_1, zin_2, zin_3, zin_4, zin_5, zin_6, zin_7, zin_8, zin_9, zaa_9, zkc_10, zin_11, zin_12, zkc_13, zin_14, zin_15, zkc_16, zin_17, zin_18, zkc_19, zin_20, zin_21, zin_22, zin_23, zin_24, zin_25, zin_26, zin_27, zin_28, zaa_28, zkc_29, zin_30, zin_31, zkc_32, zin_33, zin_34, zkc_35, zin_36, zin_37, zkc_38, zin_39, zin_40, zin_41, zin_42, zin_43, zin_44, zin_45, zin_46, zin_47, zaa_47, zkc_48, zin_49, zin_50, zkc_51, zin_52, zin_53, zkc_54, zin_55, zin_56, zkc_209, zkc_210, zin_211, zaa_211, zkc_212, zin_213, zkc_214, zkc_215, zin_216, zin_217, zkc_218, zin_219, zin_220, zin_221, zkc_222, zin_223, zaa_223, zin_224, zin_225, zkc_226, zin_227, zin_228, zin_229, zin_230, zin_231, zin_232, zkc_233, zin_234, zaa_234, zin_235, zin_236, zin_237, zin_238, zin_239, zin_240, zin_241, zin_242, zin_243, zin_244, zin_245, zin_246, zin_247, zin_248, zin_249, zin_250, zkc_251, zin_252, zin_253, zkc_374, zin_375, zin_376, zin_377, zin_378, zin_379, zin_380, zin_381, zin_382, zin_383, zin_384, zin_385, zin_386, zin_387, hp, Int.toNat_natCast, e5]
    exact h8
  have loop : ∀ (p : Nat) (N : zM), (∀ b, b ≠ 252 → b ≠ 253 → N b = M b) → LnP N 252 253 cnt p ln key (key m) → RT (Sp d) 45 Q 5 [some (.inr (.inr 251)), some (.inl (m : Int)), some (.inl (key m)), some (.inl (p : Int))] [] N := by
    intro p
    induction p with
    | zero =>
      intro N h1 h2
      have h9 := stop 0 N h1 h2 rfl
      rw [e45_5]
      simp only [↓e45, ↓e45_0, ↓e45_1, ↓e45_4, ↓e45_6, ↓e45_9, ↓e45_10, ↓e45_13, ↓e45_14, ↓e45_15, ↓e45_16, ↓e45_17, ↓e45_18, ↓e45_21, ↓e45_22, ↓e45_25, ↓e45_26, ↓e45_27, ↓e45_30, ↓e45_31, ↓e45_32, ↓e45_33, ↓e45_34, ↓e45_35, ↓e45_36, ↓e45_39, ↓e45_40, ↓e45_41, ↓e45_44, ↓e45_45, ↓e45_46, ↓e45_47, ↓e45_48, ↓e45_49, ↓e45_52, ↓e45_56, ↓e45_59, ↓e45_60, ↓e45_61, ↓e45_62, ↓e45_63, ↓e45_66, ↓e45_67, ↓e45_68, ↓e45_69, ↓e45_70, ↓e45_70i, ↓e45_71, ↓e45_74, ↓e45_75, ↓e45_76, ↓e45_79, znl_i, znl_r, znl_n, zcs_0, zcs_1, zcs_2, zcs_3, zcat_0, zcat_1, zcat_2, zcat_3, zbl_0, zbl_1, true_and, and_true, ↓zret_some, ↓zret_none, Nat.reduceAdd, Nat.reduceLeDiff, Nat.reduceMul, eq_self, Int.reduceToNat, Int.reduceLE, Int.reduceLT, Int.reduceNeg, and_self, zrg, Int.cast_ofNat_Int, Int.le_refl, ↓reduceIte]
      exact h9
    | succ p ih =>
      intro N h1 h2
      have hp9 := h2.1
      obtain ⟨v1, v2⟩ := h2.2.1 p (by omega)
      have v3 := hk p (by omega)
      have hp : 0 ≤ (p : Int) ∧ (p : Int) < 10 := ⟨by omega, by omega⟩
      have hp1 : 0 ≤ ((p + 1 : Nat) : Int) ∧ ((p + 1 : Nat) : Int) < 10 := ⟨by omega, by omega⟩
      have hpr : -2147483648 ≤ ((p + 1 : Nat) : Int) ∧ ((p + 1 : Nat) : Int) < 2147483648 := ⟨by omega, by omega⟩
      have e1 : ((p + 1 : Nat) : Int) - 1 = p := by omega
      have e2 : ((p + 1 : Nat) : Int) + -1 = p := by omega
      have e3 : ∀ x, zup N 252 (p + 1) x 253 p = key (ln p) := fun x => by rw [zup_ne _ _ _ (by omega), v2]
      have en : ¬ ((p + 1 : Nat) : Int) ≤ 0 := by omega
      rw [e45_5]
      simp only [↓e45, ↓e45_0, ↓e45_1, ↓e45_4, ↓e45_6, ↓e45_9, ↓e45_10, ↓e45_13, ↓e45_14, ↓e45_15, ↓e45_16, ↓e45_17, ↓e45_18, ↓e45_21, ↓e45_22, ↓e45_25, ↓e45_26, ↓e45_27, ↓e45_30, ↓e45_31, ↓e45_32, ↓e45_33, ↓e45_34, ↓e45_35, ↓e45_36, ↓e45_39, ↓e45_40, ↓e45_41, ↓e45_44, ↓e45_45, ↓e45_46, ↓e45_47, ↓e45_48, ↓e45_49, ↓e45_52, ↓e45_56, ↓e45_59, ↓e45_60, ↓e45_61, ↓e45_62, ↓e45_63, ↓e45_66, ↓e45_67, ↓e45_68, ↓e45_69, ↓e45_70, ↓e45_70i, ↓e45_71, ↓e45_74, ↓e45_75, ↓e45_76, ↓e45_79, znl_i, znl_r, znl_n, zcs_0, zcs_1, zcs_2, zcs_3, zcat_0, zcat_1, zcat_2, zcat_3, zbl_0, zbl_1, true_and, and_true, ↓zret_some, ↓zret_none, Nat.reduceAdd, Nat.reduceLeDiff, Nat.reduceMul, eq_self, Int.reduceToNat, Int.reduceLE, Int.reduceLT, Int.reduceNeg, and_self, zrg, zkc_0, zin_1, zin_2, zin_3, zin_4, zin_5, zin_6, zin_7, zin_8, zin_9, zaa_9, zkc_10, zin_11, zin_12, zkc_13, zin_14, zin_15, zkc_16, zin_17, zin_18, zkc_19, zin_20, zin_21, zin_22, zin_23, zin_24, zin_25, zin_26, zin_27, zin_28, zaa_28, zkc_29, zin_30, zin_31, zkc_32, zin_33, zin_34, zkc_35, zin_36, zin_37, zkc_38, zin_39, zin_40, zin_41, zin_42, zin_43, zin_44, zin_45, zin_46, zin_47, zaa_47, zkc_48, zin_49, zin_50, zkc_51, zin_52, zin_53, zkc_54, zin_55, zin_56, zkc_209, zkc_210, zin_211, zaa_211, zkc_212, zin_213, zkc_214, zkc_215, zin_216, zin_217, zkc_218, zin_219, zin_220, zin_221, zkc_222, zin_223, zaa_223, zin_224, zin_225, zkc_226, zin_227, zin_228, zin_229, zin_230, zin_231, zin_232, zkc_233, zin_234, zaa_234, zin_235, zin_236, zin_237, zin_238, zin_239, zin_240, zin_241, zin_242, zin_243, zin_244, zin_245, zin_246, zin_247, zin_248, zin_249, zin_250, zkc_251, zin_252, zin_253, zkc_374, zin_375, zin_376, zin_377, zin_378, zin_379, zin_380, zin_381, zin_382, zin_383, zin_384, zin_385, zin_386, zin_387, en, ↓reduceIte, e1, e2, e3, hp, hp1, hpr, v1, v2, v3, hm, Int.toNat_natCast]
      by_cases z : key (ln p) ≥ key m
      · rw [if_pos z]
        exact stop (p + 1) N h1 h2 (by show (if key (ln p) < key m then ps key ln (key m) p else p + 1) = p + 1; rw [if_neg (by omega)])
      · rw [if_neg z]
        have h9 := LnP_step (show (252 : Nat) ≠ 253 by omega) h2 (by omega)
        rw [v1, v2] at h9
        exact ih _ (fun b b1 b2 => by rw [zup_ne _ _ _ b2, zup_ne _ _ _ b1, h1 b b1 b2]) h9
  have h9 := loop cnt M (fun _ _ _ => rfl) ⟨Nat.le_refl _, hL, fun i h1 h2 => by omega, rfl⟩
  simp only [↓e45, ↓e45_0, ↓e45_1, ↓e45_4, ↓e45_6, ↓e45_9, ↓e45_10, ↓e45_13, ↓e45_14, ↓e45_15, ↓e45_16, ↓e45_17, ↓e45_18, ↓e45_21, ↓e45_22, ↓e45_25, ↓e45_26, ↓e45_27, ↓e45_30, ↓e45_31, ↓e45_32, ↓e45_33, ↓e45_34, ↓e45_35, ↓e45_36, ↓e45_39, ↓e45_40, ↓e45_41, ↓e45_44, ↓e45_45, ↓e45_46, ↓e45_47, ↓e45_48, ↓e45_49, ↓e45_52, ↓e45_55, ↓e45_56, ↓e45_59, ↓e45_60, ↓e45_61, ↓e45_62, ↓e45_63, ↓e45_66, ↓e45_67, ↓e45_68, ↓e45_69, ↓e45_70, ↓e45_70i, ↓e45_71, ↓e45_74, ↓e45_75, ↓e45_76, ↓e45_79, znl_i, znl_r, znl_n, zcs_0, zcs_1, zcs_2, zcs_3, zcat_0, zcat_1, zcat_2, zcat_3, zbl_0, zbl_1, true_and, and_true, ↓zret_some, ↓zret_none, Nat.reduceAdd, Nat.reduceLeDiff, Nat.reduceMul, eq_self, Int.reduceToNat, Int.reduceLE, Int.reduceLT, Int.reduceNeg, and_self, zkc_0, zin_1, zin_2, zin_3, zin_4, zin_5, zin_6, zin_7, zin_8, zin_9, zaa_9, zkc_10, zin_11, zin_12, zkc_13, zin_14, zin_15, zkc_16, zin_17, zin_18, zkc_19, zin_20, zin_21, zin_22, zin_23, zin_24, zin_25, zin_26, zin_27, zin_28, zaa_28, zkc_29, zin_30, zin_31, zkc_32, zin_33, zin_34, zkc_35, zin_36, zin_37, zkc_38, zin_39, zin_40, zin_41, zin_42, zin_43, zin_44, zin_45, zin_46, zin_47, zaa_47, zkc_48, zin_49, zin_50, zkc_51, zin_52, zin_53, zkc_54, zin_55, zin_56, zkc_209, zkc_210, zin_211, zaa_211, zkc_212, zin_213, zkc_214, zkc_215, zin_216, zin_217, zkc_218, zin_219, zin_220, zin_221, zkc_222, zin_223, zaa_223, zin_224, zin_225, zkc_226, zin_227, zin_228, zin_229, zin_230, zin_231, zin_232, zkc_233, zin_234, zaa_234, zin_235, zin_236, zin_237, zin_238, zin_239, zin_240, zin_241, zin_242, zin_243, zin_244, zin_245, zin_246, zin_247, zin_248, zin_249, zin_250, zkc_251, zin_252, zin_253, zkc_374, zin_375, zin_376, zin_377, zin_378, zin_379, zin_380, zin_381, zin_382, zin_383, zin_384, zin_385, zin_386, zin_387, h5]
  exact h9
theorem lu_succ (S : zM) (pl : Nat → Int) (k : Nat) : luS S pl (k + 1) = if isF S k = true then (if pl k < 0 then zup (luS S pl k) 6 k 2 else if S 1 k = pl k then zup (luS S pl k) 6 k 1 else luS S pl k) else luS S pl k := by
  funext b j
  by_cases hb : b = 6
  · subst hb
    by_cases hj : j = k
    · subst hj
      by_cases a1 : isF S j = true
      · by_cases a2 : pl j < 0
        · simp [luS, zrow, zup, a1, a2]
        · by_cases a3 : S 1 j = pl j
          · simp [luS, zrow, zup, a1, a2, a3]
          · simp [luS, zrow, zup, a1, a2, a3]
      · simp [luS, zrow, zup, a1]
    · have e : (j < k + 1) ↔ (j < k) := ⟨fun h => by omega, fun h => by omega⟩
      have e2 : ∀ X : zM, ∀ v, zup X 6 k v 6 j = X 6 j := fun X v => by simp [zup, hj]
      have e3 : luS S pl (k + 1) 6 j = luS S pl k 6 j := by unfold luS; rw [zrow_self, zrow_self]; simp only [e]
      rw [e3]
      split
      · split
        · exact (e2 _ _).symm
        · split
          · exact (e2 _ _).symm
          · rfl
      · rfl
  · have e2 : ∀ X : zM, ∀ v, zup X 6 k v b j = X b j := fun X v => by simp [zup, hb]
    have e3 : luS S pl (k + 1) b j = luS S pl k b j := by unfold luS; rw [zrow_ne _ _ hb, zrow_ne _ _ hb]
    rw [e3]
    split
    · split
      · exact (e2 _ _).symm
      · split
        · exact (e2 _ _).symm
        · rfl
    · rfl
def LI (S : zM) (pl : Nat → Int) (M : zM) (k : Nat) (N : zM) : Prop :=
  RelC N 0 (luS S pl k) ∧ Wv N (S 0) ∧ (∀ b, 19 ≤ b → b ≠ 224 → b ≠ 225 → b ≠ 251 → b ≠ 252 → b ≠ 253 → (b < 254 ∨ 374 ≤ b) → N b = M b) ∧ N 251 5 = (lnc S pl k : Nat) ∧ LnA N 252 253 (lnc S pl k) (lnf S pl k) (key S pl)
theorem lu_ne (S : zM) (pl : Nat → Int) (k : Nat) {b : Nat} (hb : b ≠ 6) : luS S pl k b = S b := by unfold luS; rw [zrow_ne _ _ hb]
theorem key_rng {S : zM} {pl : Nat → Int} {j : Nat} (h : pl j < 120) : -2147483648 ≤ key S pl j ∧ key S pl j < 2147483648 := by
  have h1 := dst_rng (S 0) (pl j).toNat (S 1 j).toNat
  have h2 := dst_lt (w := S 0) (a := (pl j).toNat) (c := (S 1 j).toNat) (by omega)
  unfold key
  omega
theorem s_lineUpMember (d : Nat) (Q : zQ) (M N S : zM) (pl : Nat → Int) (k : Nat) (hk : k < 10) (hf : isF S k = true) (hW : WfS S) (hP : PlR M pl) (hr : ∀ j : Nat, j < 10 → 0 ≤ pl j → 0 ≤ key S pl j) (hI : LI S pl M k N)
    (hQ : ∀ N', LI S pl M (k + 1) N' → Q none N') : Sp (d + 3) 44 [.inr (.inr 251), .inl (k : Int)] N Q := by
  obtain ⟨i1, i2, i3, i4, i5⟩ := id hI
  have hk0 : 0 ≤ (k : Int) ∧ (k : Int) < 10 := ⟨by omega, by omega⟩
  obtain ⟨q1, q2, q3⟩ := hP k hk
  have q4 : N 228 k = m5 (pl k) := by rw [i3 228 (by omega) (by omega) (by omega) (by omega) (by omega) (by omega) (by omega)]; exact q1
  have q5 : -2147483648 ≤ m5 (pl k) ∧ m5 (pl k) < 2147483648 := by unfold m5; constructor <;> split <;> omega
  obtain ⟨f1, f2⟩ := isF_mem hf
  have hc := hW.2.1 k hk
  have h2 := i1.2.1 k hk
  simp only [Nat.zero_add] at h2
  rw [lu_ne S pl k (by omega), if_neg (by omega)] at h2
  have r1 : -2147483648 ≤ S 1 k ∧ S 1 k < 2147483648 := ⟨by omega, by omega⟩
  have hs := lu_succ S pl k
  rw [if_pos hf] at hs
  have hKp := lu_ok hW pl k
  by_cases a1 : pl k < 0
  · have e5 : m5 (pl k) = -5 := by unfold m5; rw [if_pos a1]
    rw [if_pos a1] at hs
    have hn : ¬ inl S pl k = true := fun z => by
      unfold inl at z
      rw [Bool.and_eq_true] at z
      have := of_decide_eq_true z.2
      omega
    have h9 := hQ (zup N 3 k 2) (by
      unfold LI
      rw [hs]
      refine ⟨RelC_num i1 (b := 3) (e := 6) (by omega), Wv_cong (fun b hb => zup_ne _ _ _ (by omega)) i2, fun b b0 b1 b2 b3 b4 b5 b6 => by rw [zup_ne _ _ _ (by omega)]; exact i3 b b0 b1 b2 b3 b4 b5 b6, ?_, ?_⟩
      · rw [zup_ne _ _ _ (by omega), i4]; unfold lnc; rw [if_neg hn]; cases k <;> rfl
      · unfold lnc lnf
        rw [if_neg hn, if_neg hn]
        intro i hi
        rw [zup_ne _ _ _ (by omega), zup_ne _ _ _ (by omega)]
        exact i5 i hi)
    simp only [↓e44, ↓e44_0, ↓e44_1, ↓e44_4, ↓e44_7, ↓e44_8, ↓e44_9, ↓e44_10, ↓e44_11, ↓e44_14, ↓e44_15, ↓e44_18, ↓e44_21, ↓e44_22, ↓e44_23, ↓e44_24, ↓e44_27, ↓e44_28, ↓e44_29, ↓e44_32, ↓e44_35, ↓e44_36, ↓e44_37, ↓e44_40, ↓e44_41, ↓e44_44, ↓e44_47, ↓e44_48, ↓e44_49, ↓e44_50, ↓e44_53, ↓e44_54, ↓e44_55, ↓e44_56, ↓e44_59, ↓e44_60, ↓e44_63, ↓e44_64, ↓e44_67, ↓e44_70, ↓e44_71, ↓e44_72, ↓e44_73, ↓e44_76, znl_i, znl_r, znl_n, zcs_0, zcs_1, zcs_2, zcs_3, zcat_0, zcat_1, zcat_2, zcat_3, zbl_0, zbl_1, true_and, and_true, ↓zret_some, ↓zret_none, Nat.reduceAdd, Nat.reduceLeDiff, Nat.reduceMul, eq_self, Int.reduceToNat, Int.reduceLE, Int.reduceLT, Int.reduceNeg, and_self, zrg, zkc_0, zin_1, zin_2, zin_3, zin_4, zin_5, zin_6, zin_7, zin_8, zin_9, zaa_9, zkc_10, zin_11, zin_12, zkc_13, zin_14, zin_15, zkc_16, zin_17, zin_18, zkc_19, zin_20, zin_21, zin_22, zin_23, zin_24, zin_25, zin_26, zin_27, zin_28, zaa_28, zkc_29, zin_30, zin_31, zkc_32, zin_33, zin_34, zkc_35, zin_36, zin_37, zkc_38, zin_39, zin_40, zin_41, zin_42, zin_43, zin_44, zin_45, zin_46, zin_47, zaa_47, zkc_48, zin_49, zin_50, zkc_51, zin_52, zin_53, zkc_54, zin_55, zin_56, zkc_209, zkc_210, zin_211, zaa_211, zkc_212, zin_213, zkc_214, zkc_215, zin_216, zin_217, zkc_218, zin_219, zin_220, zin_221, zkc_222, zin_223, zaa_223, zin_224, zin_225, zkc_226, zin_227, zin_228, zin_229, zin_230, zin_231, zin_232, zkc_233, zin_234, zaa_234, zin_235, zin_236, zin_237, zin_238, zin_239, zin_240, zin_241, zin_242, zin_243, zin_244, zin_245, zin_246, zin_247, zin_248, zin_249, zin_250, zkc_251, zin_252, zin_253, zkc_374, zin_375, zin_376, zin_377, zin_378, zin_379, zin_380, zin_381, zin_382, zin_383, zin_384, zin_385, zin_386, zin_387, hk0, Int.toNat_natCast, q4, e5, ge_iff_le, ↓reduceIte]
    exact h9
  · obtain ⟨p, hpN⟩ : ∃ p : Nat, pl k = p := ⟨(pl k).toNat, by omega⟩
    obtain ⟨c, hcN⟩ : ∃ c : Nat, S 1 k = c := ⟨(S 1 k).toNat, by omega⟩
    have e5 : m5 (pl k) = pl k := by unfold m5; rw [if_neg a1]
    rw [if_neg a1] at hs
    rw [e5] at q5
    have c1 : pl k ≥ 0 := by omega
    simp only [↓e44, ↓e44_0, ↓e44_1, ↓e44_4, ↓e44_7, ↓e44_8, ↓e44_9, ↓e44_10, ↓e44_11, ↓e44_14, ↓e44_15, ↓e44_18, ↓e44_21, ↓e44_22, ↓e44_23, ↓e44_24, ↓e44_27, ↓e44_28, ↓e44_29, ↓e44_32, ↓e44_35, ↓e44_36, ↓e44_37, ↓e44_40, ↓e44_41, ↓e44_44, ↓e44_47, ↓e44_48, ↓e44_49, ↓e44_50, ↓e44_54, ↓e44_55, ↓e44_56, ↓e44_59, ↓e44_60, ↓e44_63, ↓e44_64, ↓e44_67, ↓e44_70, ↓e44_71, ↓e44_72, ↓e44_73, ↓e44_76, znl_i, znl_r, znl_n, zcs_0, zcs_1, zcs_2, zcs_3, zcat_0, zcat_1, zcat_2, zcat_3, zbl_0, zbl_1, true_and, and_true, ↓zret_some, ↓zret_none, Nat.reduceAdd, Nat.reduceLeDiff, Nat.reduceMul, eq_self, Int.reduceToNat, Int.reduceLE, Int.reduceLT, Int.reduceNeg, and_self, zrg, zkc_0, zin_1, zin_2, zin_3, zin_4, zin_5, zin_6, zin_7, zin_8, zin_9, zaa_9, zkc_10, zin_11, zin_12, zkc_13, zin_14, zin_15, zkc_16, zin_17, zin_18, zkc_19, zin_20, zin_21, zin_22, zin_23, zin_24, zin_25, zin_26, zin_27, zin_28, zaa_28, zkc_29, zin_30, zin_31, zkc_32, zin_33, zin_34, zkc_35, zin_36, zin_37, zkc_38, zin_39, zin_40, zin_41, zin_42, zin_43, zin_44, zin_45, zin_46, zin_47, zaa_47, zkc_48, zin_49, zin_50, zkc_51, zin_52, zin_53, zkc_54, zin_55, zin_56, zkc_209, zkc_210, zin_211, zaa_211, zkc_212, zin_213, zkc_214, zkc_215, zin_216, zin_217, zkc_218, zin_219, zin_220, zin_221, zkc_222, zin_223, zaa_223, zin_224, zin_225, zkc_226, zin_227, zin_228, zin_229, zin_230, zin_231, zin_232, zkc_233, zin_234, zaa_234, zin_235, zin_236, zin_237, zin_238, zin_239, zin_240, zin_241, zin_242, zin_243, zin_244, zin_245, zin_246, zin_247, zin_248, zin_249, zin_250, zkc_251, zin_252, zin_253, zkc_374, zin_375, zin_376, zin_377, zin_378, zin_379, zin_380, zin_381, zin_382, zin_383, zin_384, zin_385, zin_386, zin_387, hk0, Int.toNat_natCast, q4, e5, q5, c1, ↓reduceIte, h2, r1]
    by_cases a2 : S 1 k = pl k
    · rw [if_pos a2] at hs
      have hn : ¬ inl S pl k = true := fun z => by
        unfold inl at z
        rw [Bool.and_eq_true] at z
        exact (of_decide_eq_true z.2).2 a2
      have h9 := hQ (zup N 3 k 1) (by
        unfold LI
        rw [hs]
        refine ⟨RelC_num i1 (b := 3) (e := 6) (by omega), Wv_cong (fun b hb => zup_ne _ _ _ (by omega)) i2, fun b b0 b1 b2 b3 b4 b5 b6 => by rw [zup_ne _ _ _ (by omega)]; exact i3 b b0 b1 b2 b3 b4 b5 b6, ?_, ?_⟩
        · rw [zup_ne _ _ _ (by omega), i4]; unfold lnc; rw [if_neg hn]; cases k <;> rfl
        · unfold lnc lnf
          rw [if_neg hn, if_neg hn]
          intro i hi
          rw [zup_ne _ _ _ (by omega), zup_ne _ _ _ (by omega)]
          exact i5 i hi)
      rw [if_neg (fun z => z a2.symm)]
      exact h9
    · rw [if_neg a2] at hs
      rw [if_pos (fun z => a2 z.symm)]
      have hy : inl S pl k = true := by
        unfold inl
        rw [hf, Bool.true_and, decide_eq_true_eq]
        exact ⟨by omega, a2⟩
      simp only [↓e44_53, ↓e44_54, ↓e44_55, ↓e44_56, ↓e44_59, ↓e44_60, znl_i, znl_r, znl_n, zcs_0, zcs_1, zcs_2, zcs_3, zcat_0, zcat_1, zcat_2, zcat_3, zbl_0, zbl_1, true_and, and_true, ↓zret_some, ↓zret_none, Nat.reduceAdd, Nat.reduceLeDiff, Nat.reduceMul, eq_self, Int.reduceToNat, Int.reduceLE, Int.reduceLT, Int.reduceNeg, and_self, zkc_0, zin_1, zin_2, zin_3, zin_4, zin_5, zin_6, zin_7, zin_8, zin_9, zaa_9, zkc_10, zin_11, zin_12, zkc_13, zin_14, zin_15, zkc_16, zin_17, zin_18, zkc_19, zin_20, zin_21, zin_22, zin_23, zin_24, zin_25, zin_26, zin_27, zin_28, zaa_28, zkc_29, zin_30, zin_31, zkc_32, zin_33, zin_34, zkc_35, zin_36, zin_37, zkc_38, zin_39, zin_40, zin_41, zin_42, zin_43, zin_44, zin_45, zin_46, zin_47, zaa_47, zkc_48, zin_49, zin_50, zkc_51, zin_52, zin_53, zkc_54, zin_55, zin_56, zkc_209, zkc_210, zin_211, zaa_211, zkc_212, zin_213, zkc_214, zkc_215, zin_216, zin_217, zkc_218, zin_219, zin_220, zin_221, zkc_222, zin_223, zaa_223, zin_224, zin_225, zkc_226, zin_227, zin_228, zin_229, zin_230, zin_231, zin_232, zkc_233, zin_234, zaa_234, zin_235, zin_236, zin_237, zin_238, zin_239, zin_240, zin_241, zin_242, zin_243, zin_244, zin_245, zin_246, zin_247, zin_248, zin_249, zin_250, zkc_251, zin_252, zin_253, zkc_374, zin_375, zin_376, zin_377, zin_378, zin_379, zin_380, zin_381, zin_382, zin_383, zin_384, zin_385, zin_386, zin_387, hpN]
      have h0 : luS S pl k 0 = S 0 := lu_ne S pl k (by omega)
      have hHw := Hw_of i1 hKp.1
      rw [h0] at hHw
      refine s_from (d) _ N (S 0) p (by omega) hHw i2 (fun N2 v1 v2 v3 => ?_)
      have hzp : ∀ i : Int, zin 0 (254 + p) i = (0 ≤ i ∧ i < 120) := fun i => zin_of (n := 120) (zkD (by omega))
      have hc0 : 0 ≤ (c : Int) ∧ (c : Int) < 120 := ⟨by omega, by omega⟩
      have hkey : key S pl k = dst (S 0) p c := by unfold key; rw [hpN, hcN, Int.toNat_natCast, Int.toNat_natCast]
      have hk9 := hr k hk (by omega)
      have hdd : dd (S 0) p c = key S pl k := by rw [hkey] at hk9 ⊢; unfold dd; rw [if_neg (by omega)]
      have g2 : N2 2 k = c := by rw [v3 2 (by omega) (by omega) (by omega), h2, hcN]
      have hI2 : N2 251 5 = (lnc S pl k : Nat) := by rw [v3 251 (by omega) (by omega) (by omega), i4]
      have hL2 : LnA N2 252 253 (lnc S pl k) (lnf S pl k) (key S pl) := fun i hi => by
        rw [v3 252 (by omega) (by omega) (by omega), v3 253 (by omega) (by omega) (by omega)]; exact i5 i hi
      rw [zret_some]
      simp only [↓e44_63, ↓e44_64, ↓e44_67, ↓e44_70, ↓e44_71, ↓e44_72, ↓e44_73, znl_i, znl_r, znl_n, zcs_0, zcs_1, zcs_2, zcs_3, zcat_0, zcat_1, zcat_2, zcat_3, zbl_0, zbl_1, true_and, and_true, ↓zret_some, ↓zret_none, Nat.reduceAdd, Nat.reduceLeDiff, Nat.reduceMul, eq_self, Int.reduceToNat, Int.reduceLE, Int.reduceLT, Int.reduceNeg, and_self, zkc_0, zin_1, zin_2, zin_3, zin_4, zin_5, zin_6, zin_7, zin_8, zin_9, zaa_9, zkc_10, zin_11, zin_12, zkc_13, zin_14, zin_15, zkc_16, zin_17, zin_18, zkc_19, zin_20, zin_21, zin_22, zin_23, zin_24, zin_25, zin_26, zin_27, zin_28, zaa_28, zkc_29, zin_30, zin_31, zkc_32, zin_33, zin_34, zkc_35, zin_36, zin_37, zkc_38, zin_39, zin_40, zin_41, zin_42, zin_43, zin_44, zin_45, zin_46, zin_47, zaa_47, zkc_48, zin_49, zin_50, zkc_51, zin_52, zin_53, zkc_54, zin_55, zin_56, zkc_209, zkc_210, zin_211, zaa_211, zkc_212, zin_213, zkc_214, zkc_215, zin_216, zin_217, zkc_218, zin_219, zin_220, zin_221, zkc_222, zin_223, zaa_223, zin_224, zin_225, zkc_226, zin_227, zin_228, zin_229, zin_230, zin_231, zin_232, zkc_233, zin_234, zaa_234, zin_235, zin_236, zin_237, zin_238, zin_239, zin_240, zin_241, zin_242, zin_243, zin_244, zin_245, zin_246, zin_247, zin_248, zin_249, zin_250, zkc_251, zin_252, zin_253, zkc_374, zin_375, zin_376, zin_377, zin_378, zin_379, zin_380, zin_381, zin_382, zin_383, zin_384, zin_385, zin_386, zin_387, hk0, Int.toNat_natCast, g2, hzp, hc0, v2 c (by omega), hdd]
      have hcl := lnc_le S pl k
      refine s_insert (d + 1) _ N2 (lnf S pl k) (key S pl) (lnc S pl k) k (by omega) hI2 hL2 (fun i hi => ?_) (key_rng (by omega)) (fun N3 t1 t2 t3 => ?_)
      · have := ((ln_mem S pl k).1 i hi).1
        exact key_rng (hP _ (by omega)).2.2
      rw [zret_none]
      simp only [↓e44, ↓e44_0, ↓e44_1, ↓e44_4, ↓e44_7, ↓e44_8, ↓e44_9, ↓e44_10, ↓e44_11, ↓e44_14, ↓e44_15, ↓e44_18, ↓e44_21, ↓e44_22, ↓e44_23, ↓e44_24, ↓e44_27, ↓e44_28, ↓e44_29, ↓e44_32, ↓e44_35, ↓e44_36, ↓e44_37, ↓e44_40, ↓e44_41, ↓e44_44, ↓e44_47, ↓e44_48, ↓e44_49, ↓e44_50, ↓e44_53, ↓e44_54, ↓e44_55, ↓e44_56, ↓e44_59, ↓e44_60, ↓e44_63, ↓e44_64, ↓e44_67, ↓e44_70, ↓e44_71, ↓e44_72, ↓e44_73, ↓e44_76, znl_i, znl_r, znl_n, zcs_0, zcs_1, zcs_2, zcs_3, zcat_0, zcat_1, zcat_2, zcat_3, zbl_0, zbl_1, true_and, and_true, ↓zret_some, ↓zret_none, Nat.reduceAdd, Nat.reduceLeDiff, Nat.reduceMul, eq_self, Int.reduceToNat, Int.reduceLE, Int.reduceLT, Int.reduceNeg, and_self]
      refine hQ N3 ?_
      unfold LI
      rw [hs]
      refine ⟨RelC_congr (fun b hb => by rw [t1 b (by omega) (by omega) (by omega), v3 b (by omega) (by omega) (by omega)]) i1, fun x hx => ?_, fun b b0 b1 b2 b3 b4 b5 b6 => by rw [t1 b b3 b4 b5, v3 b b1 b2 b6]; exact i3 b b0 b1 b2 b3 b4 b5 b6, ?_, ?_⟩
      · rw [t1 224 (by omega) (by omega) (by omega), t1 (254 + x) (by omega) (by omega) (by omega)]
        exact v1 x hx
      · rw [t2]; unfold lnc; rw [if_pos hy]; cases k <;> rfl
      · unfold lnc lnf
        rw [if_pos hy, if_pos hy]
        exact t3
theorem s_lineUp (d : Nat) (Q : zQ) (M S : zM) (pl : Nat → Int) (hW : WfS S) (hR : RelC M 0 S) (hV : Wv M (S 0)) (hP : PlR M pl) (hr : ∀ j : Nat, j < 10 → 0 ≤ pl j → 0 ≤ key S pl j)
    (hQ : ∀ N', LI S pl M 10 N' → Q none N') : Sp (d + 4) 43 [.inr (.inr 251), .inl (ldr S)] M Q := by
  obtain ⟨l1, l2, l3⟩ := ldr_rng hW
  have hlr : -2147483648 ≤ ldr S ∧ ldr S < 2147483648 := ⟨by omega, by omega⟩
  have loop : ∀ n k : Nat, k + n = 10 → ∀ N, LI S pl M k N → RT (Sp (d + 3)) 43 Q 7 [some (.inr (.inr 251)), some (.inl (ldr S)), some (.inl (k : Int))] [] N := by
    intro n
    induction n with
    | zero =>
      intro k hk N hI
      obtain rfl : k = 10 := by omega
      rw [e43_7]
      simp only [↓e43, ↓e43_0, ↓e43_1, ↓e43_2, ↓e43_5, ↓e43_6, ↓e43_8, ↓e43_10, ↓e43_13, ↓e43_14, ↓e43_15, ↓e43_18, ↓e43_19, ↓e43_22, ↓e43_23, ↓e43_26, ↓e43_29, ↓e43_30, ↓e43_31, ↓e43_34, ↓e43_37, ↓e43_40, znl_i, znl_r, znl_n, zcs_0, zcs_1, zcs_2, zcs_3, zcat_0, zcat_1, zcat_2, zcat_3, zbl_0, zbl_1, true_and, and_true, ↓zret_some, ↓zret_none, Nat.reduceAdd, Nat.reduceLeDiff, Nat.reduceMul, eq_self, Int.reduceToNat, Int.reduceLE, Int.reduceLT, Int.reduceNeg, and_self, zrg, Int.cast_ofNat_Int, ge_iff_le, Int.le_refl, ↓reduceIte]
      exact hQ N hI
    | succ n ih =>
      intro k hk N hI
      have hk1 : ¬ (k : Int) ≥ 10 := by omega
      have hk2 : -2147483648 ≤ (k : Int) ∧ (k : Int) < 2147483648 := ⟨by omega, by omega⟩
      have next : ∀ N', LI S pl M (k + 1) N' → RT (Sp (d + 3)) 43 Q 34 [some (.inr (.inr 251)), some (.inl (ldr S)), some (.inl (k : Int))] [] N' := fun N' h => by
        have h9 := ih (k + 1) (by omega) N' h
        simp only [↓e43, ↓e43_0, ↓e43_1, ↓e43_2, ↓e43_5, ↓e43_6, ↓e43_8, ↓e43_10, ↓e43_13, ↓e43_14, ↓e43_15, ↓e43_18, ↓e43_19, ↓e43_22, ↓e43_23, ↓e43_26, ↓e43_29, ↓e43_30, ↓e43_31, ↓e43_34, ↓e43_37, ↓e43_40, znl_i, znl_r, znl_n, zcs_0, zcs_1, zcs_2, zcs_3, zcat_0, zcat_1, zcat_2, zcat_3, zbl_0, zbl_1, true_and, and_true, ↓zret_some, ↓zret_none, Nat.reduceAdd, Nat.reduceLeDiff, Nat.reduceMul, eq_self, Int.reduceToNat, Int.reduceLE, Int.reduceLT, Int.reduceNeg, and_self]
        rw [show ((k : Int) + 1) = ((k + 1 : Nat) : Int) by omega]
        exact h9
      have no : ¬ isF S k = true → LI S pl M (k + 1) N := fun z => by
        have hs := lu_succ S pl k
        rw [if_neg z] at hs
        have hn : ¬ inl S pl k = true := fun y => by unfold inl at y; rw [Bool.and_eq_true] at y; exact z y.1
        obtain ⟨i1, i2, i3, i4, i5⟩ := hI
        unfold LI
        rw [hs]
        refine ⟨i1, i2, i3, ?_, ?_⟩
        · rw [i4]; unfold lnc; rw [if_neg hn]; cases k <;> rfl
        · unfold lnc lnf; rw [if_neg hn, if_neg hn]; exact i5
      have hKp := lu_ok hW pl k
      rw [e43_7]
      simp only [↓e43, ↓e43_0, ↓e43_1, ↓e43_2, ↓e43_5, ↓e43_6, ↓e43_8, ↓e43_10, ↓e43_13, ↓e43_14, ↓e43_15, ↓e43_18, ↓e43_19, ↓e43_22, ↓e43_23, ↓e43_26, ↓e43_29, ↓e43_30, ↓e43_31, ↓e43_37, ↓e43_40, znl_i, znl_r, znl_n, zcs_0, zcs_1, zcs_2, zcs_3, zcat_0, zcat_1, zcat_2, zcat_3, zbl_0, zbl_1, true_and, and_true, ↓zret_some, ↓zret_none, Nat.reduceAdd, Nat.reduceLeDiff, Nat.reduceMul, eq_self, Int.reduceToNat, Int.reduceLE, Int.reduceLT, Int.reduceNeg, and_self, zrg, zkc_0, zin_1, zin_2, zin_3, zin_4, zin_5, zin_6, zin_7, zin_8, zin_9, zaa_9, zkc_10, zin_11, zin_12, zkc_13, zin_14, zin_15, zkc_16, zin_17, zin_18, zkc_19, zin_20, zin_21, zin_22, zin_23, zin_24, zin_25, zin_26, zin_27, zin_28, zaa_28, zkc_29, zin_30, zin_31, zkc_32, zin_33, zin_34, zkc_35, zin_36, zin_37, zkc_38, zin_39, zin_40, zin_41, zin_42, zin_43, zin_44, zin_45, zin_46, zin_47, zaa_47, zkc_48, zin_49, zin_50, zkc_51, zin_52, zin_53, zkc_54, zin_55, zin_56, zkc_209, zkc_210, zin_211, zaa_211, zkc_212, zin_213, zkc_214, zkc_215, zin_216, zin_217, zkc_218, zin_219, zin_220, zin_221, zkc_222, zin_223, zaa_223, zin_224, zin_225, zkc_226, zin_227, zin_228, zin_229, zin_230, zin_231, zin_232, zkc_233, zin_234, zaa_234, zin_235, zin_236, zin_237, zin_238, zin_239, zin_240, zin_241, zin_242, zin_243, zin_244, zin_245, zin_246, zin_247, zin_248, zin_249, zin_250, zkc_251, zin_252, zin_253, zkc_374, zin_375, zin_376, zin_377, zin_378, zin_379, zin_380, zin_381, zin_382, zin_383, zin_384, zin_385, zin_386, zin_387, hk1, hk2, hlr, ↓reduceIte, ↓s_hasMember (d + 2) _ N _ 0 k zkc_0 hI.1 hKp.1 hk2]
      by_cases a1 : (k : Int) = ldr S
      · rw [if_pos a1]
        exact next N (no (fun z => (isF_mem z).2 a1))
      · rw [if_neg a1]
        have hm : isM (luS S pl k) k ↔ 0 ≤ S 1 k := by
          unfold isM
          rw [lu_ne S pl k (by omega), Int.toNat_natCast]
          exact ⟨fun h => h.2.2, fun h => ⟨by omega, by omega, h⟩⟩
        have hzz : -2147483648 ≤ zb (isM (luS S pl k) k) ∧ zb (isM (luS S pl k) k) < 2147483648 := by unfold zb; split <;> omega
        simp only [hzz, and_self, true_and]
        by_cases a2 : 0 ≤ S 1 k
        · have e1 : zb (isM (luS S pl k) k) = 1 := if_pos (hm.mpr a2)
          rw [e1, if_neg (by omega)]
          refine s_lineUpMember d _ M N S pl k (by omega) (decide_eq_true ⟨a1, a2⟩) hW hP hr hI (fun N' h => ?_)
          rw [zret_none]
          exact next N' h
        · have e1 : zb (isM (luS S pl k) k) = 0 := if_neg (fun z => a2 (hm.mp z))
          rw [e1, if_pos rfl]
          exact next N (no (fun z => a2 (isF_mem z).1))
  have h9 := loop 10 0 rfl (zup M 251 5 0) (by
    have hl0 : luS S pl 0 = S := by
      funext b j
      by_cases z : b = 6
      · subst z; simp [luS, zrow]
      · simp [luS, zrow, z]
    unfold LI
    rw [hl0]
    refine ⟨RelC_congr (fun b hb => zup_ne _ _ _ (by omega)) hR, fun x hx => ?_, fun b b0 b1 b2 b3 b4 b5 b6 => zup_ne _ _ _ b3, by simp [zup, lnc], fun i hi => absurd hi (Nat.not_lt_zero i)⟩
    rw [zup_ne _ _ _ (by omega), zup_ne _ _ _ (by omega)]
    exact hV x hx)
  simp only [↓e43, ↓e43_0, ↓e43_1, ↓e43_2, ↓e43_5, ↓e43_6, ↓e43_8, ↓e43_10, ↓e43_13, ↓e43_14, ↓e43_15, ↓e43_18, ↓e43_19, ↓e43_22, ↓e43_23, ↓e43_26, ↓e43_29, ↓e43_30, ↓e43_31, ↓e43_34, ↓e43_37, ↓e43_40, znl_i, znl_r, znl_n, zcs_0, zcs_1, zcs_2, zcs_3, zcat_0, zcat_1, zcat_2, zcat_3, zbl_0, zbl_1, true_and, and_true, ↓zret_some, ↓zret_none, Nat.reduceAdd, Nat.reduceLeDiff, Nat.reduceMul, eq_self, Int.reduceToNat, Int.reduceLE, Int.reduceLT, Int.reduceNeg, and_self, zkc_0, zin_1, zin_2, zin_3, zin_4, zin_5, zin_6, zin_7, zin_8, zin_9, zaa_9, zkc_10, zin_11, zin_12, zkc_13, zin_14, zin_15, zkc_16, zin_17, zin_18, zkc_19, zin_20, zin_21, zin_22, zin_23, zin_24, zin_25, zin_26, zin_27, zin_28, zaa_28, zkc_29, zin_30, zin_31, zkc_32, zin_33, zin_34, zkc_35, zin_36, zin_37, zkc_38, zin_39, zin_40, zin_41, zin_42, zin_43, zin_44, zin_45, zin_46, zin_47, zaa_47, zkc_48, zin_49, zin_50, zkc_51, zin_52, zin_53, zkc_54, zin_55, zin_56, zkc_209, zkc_210, zin_211, zaa_211, zkc_212, zin_213, zkc_214, zkc_215, zin_216, zin_217, zkc_218, zin_219, zin_220, zin_221, zkc_222, zin_223, zaa_223, zin_224, zin_225, zkc_226, zin_227, zin_228, zin_229, zin_230, zin_231, zin_232, zkc_233, zin_234, zaa_234, zin_235, zin_236, zin_237, zin_238, zin_239, zin_240, zin_241, zin_242, zin_243, zin_244, zin_245, zin_246, zin_247, zin_248, zin_249, zin_250, zkc_251, zin_252, zin_253, zkc_374, zin_375, zin_376, zin_377, zin_378, zin_379, zin_380, zin_381, zin_382, zin_383, zin_384, zin_385, zin_386, zin_387]
  exact h9
