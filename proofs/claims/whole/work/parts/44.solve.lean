theorem s_fillL (d : Nat) (Q : zQ) (M : zM) (a n : Nat) (fs : List Nat) (v : Int) (hk : zk a = (2, n, fs)) (hn : n < 20001) : Sp (d + 1) 183 [.inr (.inr a), .inr (.inl v)] M Q = Q none (zfill M a n v) := by
  have hz : ∀ i : Int, zin 2 a i = (0 ≤ i ∧ i < n) := fun i => zin_of hk
  have loop : ∀ m i : Nat, i + m = n → RT (Sp d) 183 Q 6 [some (.inr (.inr a)), some (.inr (.inl v)), none, some (.inl (i : Int)), some (.inl (n : Int))] [] (zfill M a i v) = Q none (zfill M a n v) := by
    intro m
    induction m with
    | zero =>
      intro i hi
      obtain rfl : i = n := by omega
      have h1 : -2147483648 ≤ (i : Int) ∧ (i : Int) < 2147483648 := ⟨by omega, by omega⟩
      simp only [↓e183, ↓e183_0, ↓e183_1, ↓e183_2, ↓e183_3, ↓e183_4, ↓e183_6, ↓e183_7, ↓e183_9, ↓e183_12, ↓e183_13, ↓e183_14, ↓e183_15, ↓e183_16, ↓e183_19, ↓e183_22, znl_i, znl_r, znl_n, zcs_0, zcs_1, zcs_2, zcs_3, zcat_0, zcat_1, zcat_2, zcat_3, zbl_0, zbl_1, true_and, and_true, ↓zret_some, ↓zret_none, Nat.reduceAdd, Nat.reduceLeDiff, Nat.reduceMul, eq_self, Int.reduceToNat, zrg, h1, ge_iff_le, Int.le_refl, ↓reduceIte]
    | succ m ih =>
      intro i hi
      have h1 : -2147483648 ≤ (i : Int) ∧ (i : Int) < 2147483648 := ⟨by omega, by omega⟩
      have h2 : -2147483648 ≤ (n : Int) ∧ (n : Int) < 2147483648 := ⟨by omega, by omega⟩
      have h3 : ¬ (i : Int) ≥ n := by omega
      have h4 : 0 ≤ (i : Int) ∧ (i : Int) < n := ⟨by omega, by omega⟩
      rw [e183_6]
      simp only [↓e183, ↓e183_0, ↓e183_1, ↓e183_2, ↓e183_3, ↓e183_4, ↓e183_7, ↓e183_9, ↓e183_12, ↓e183_13, ↓e183_14, ↓e183_15, ↓e183_16, ↓e183_19, ↓e183_22, znl_i, znl_r, znl_n, zcs_0, zcs_1, zcs_2, zcs_3, zcat_0, zcat_1, zcat_2, zcat_3, zbl_0, zbl_1, true_and, and_true, ↓zret_some, ↓zret_none, Nat.reduceAdd, Nat.reduceLeDiff, Nat.reduceMul, eq_self, Int.reduceToNat, zrg, h1, h2, h3, hz, h4, ↓reduceIte, Int.toNat_natCast, zfill_s]
      rw [show ((i : Int) + 1) = ((i + 1 : Nat) : Int) by omega]
      exact ih (i + 1) (by omega)
  have h0 := loop n 0 (by omega)
  rw [zfill_0] at h0
  simp only [↓e183, ↓e183_0, ↓e183_1, ↓e183_2, ↓e183_3, ↓e183_4, ↓e183_7, ↓e183_9, ↓e183_12, ↓e183_13, ↓e183_14, ↓e183_15, ↓e183_16, ↓e183_19, ↓e183_22, znl_i, znl_r, znl_n, zcs_0, zcs_1, zcs_2, zcs_3, zcat_0, zcat_1, zcat_2, zcat_3, zbl_0, zbl_1, true_and, and_true, ↓zret_some, ↓zret_none, Nat.reduceAdd, Nat.reduceLeDiff, Nat.reduceMul, eq_self, Int.reduceToNat, hk]
  simp
  exact iff_of_eq h0
theorem zk235 : zk 235 = (0, 20, []) := by decide +kernel
theorem zk236 : zk 236 = (2, 10, []) := by decide +kernel
theorem zk237 : zk 237 = (2, 20, []) := by decide +kernel
theorem s_solve (d : Nat) (Q : zQ) (M : zM) (n k : Nat) (hn : n < 20) (hk : k < 10) (hkn : k ≤ n) (hP : Pr M n k)
    (hQ : ∀ N, HM N n k → (∀ b, b ≠ 235 → b ≠ 236 → b ≠ 237 → b ≠ 238 → b ≠ 239 → b ≠ 250 → N b = M b) → Q none N) : Sp (d + 3) 14 [.inr (.inr 233), .inl (k : Int), .inl (n : Int)] M Q := by
  have hkr : -2147483648 ≤ (k : Int) ∧ (k : Int) < 2147483648 := ⟨by omega, by omega⟩
  have loop : ∀ m r : Nat, r + m = k → ∀ N : zM, HM N n r → (∀ b, b ≠ 235 → b ≠ 236 → b ≠ 237 → b ≠ 238 → b ≠ 239 → b ≠ 250 → N b = M b) →
      RT (Sp (d + 2)) 14 Q 26 [some (.inr (.inr 233)), some (.inl (k : Int)), some (.inl (n : Int)), some (.inl ((r + 1 : Nat) : Int))] [] N := by
    intro m
    induction m with
    | zero =>
      intro r hr N h1 h2
      obtain rfl : r = k := by omega
      have e1 : ((r + 1 : Nat) : Int) > r := by omega
      have e2 : -2147483648 ≤ ((r + 1 : Nat) : Int) ∧ ((r + 1 : Nat) : Int) < 2147483648 := ⟨by omega, by omega⟩
      rw [e14_26]
      simp only [↓e14, ↓e14_0, ↓e14_1, ↓e14_4, ↓e14_5, ↓e14_8, ↓e14_9, ↓e14_12, ↓e14_13, ↓e14_16, ↓e14_17, ↓e14_20, ↓e14_21, ↓e14_24, ↓e14_25, ↓e14_27, ↓e14_28, ↓e14_31, ↓e14_32, ↓e14_33, ↓e14_34, ↓e14_37, ↓e14_40, ↓e14_43, znl_i, znl_r, znl_n, zcs_0, zcs_1, zcs_2, zcs_3, zcat_0, zcat_1, zcat_2, zcat_3, zbl_0, zbl_1, true_and, and_true, ↓zret_some, ↓zret_none, Nat.reduceAdd, Nat.reduceLeDiff, Nat.reduceMul, eq_self, Int.reduceToNat, zrg, hkr, e1, e2, ↓reduceIte]
      exact hQ N h1 h2
    | succ m ih =>
      intro r hr N h1 h2
      have e1 : ¬ ((r + 1 : Nat) : Int) > k := by omega
      have e2 : -2147483648 ≤ ((r + 1 : Nat) : Int) ∧ ((r + 1 : Nat) : Int) < 2147483648 := ⟨by omega, by omega⟩
      rw [e14_26]
      simp only [↓e14, ↓e14_0, ↓e14_1, ↓e14_4, ↓e14_5, ↓e14_8, ↓e14_9, ↓e14_12, ↓e14_13, ↓e14_16, ↓e14_17, ↓e14_20, ↓e14_21, ↓e14_24, ↓e14_25, ↓e14_27, ↓e14_28, ↓e14_31, ↓e14_32, ↓e14_33, ↓e14_34, ↓e14_40, ↓e14_43, znl_i, znl_r, znl_n, zcs_0, zcs_1, zcs_2, zcs_3, zcat_0, zcat_1, zcat_2, zcat_3, zbl_0, zbl_1, true_and, and_true, ↓zret_some, ↓zret_none, Nat.reduceAdd, Nat.reduceLeDiff, Nat.reduceMul, eq_self, Int.reduceToNat, zrg, hkr, e1, e2, ↓reduceIte, zkc_0, zin_1, zin_2, zin_3, zin_4, zin_5, zin_6, zin_7, zin_8, zin_9, zaa_9, zkc_10, zin_11, zin_12, zkc_13, zin_14, zin_15, zkc_16, zin_17, zin_18, zkc_19, zin_20, zin_21, zin_22, zin_23, zin_24, zin_25, zin_26, zin_27, zin_28, zaa_28, zkc_29, zin_30, zin_31, zkc_32, zin_33, zin_34, zkc_35, zin_36, zin_37, zkc_38, zin_39, zin_40, zin_41, zin_42, zin_43, zin_44, zin_45, zin_46, zin_47, zaa_47, zkc_48, zin_49, zin_50, zkc_51, zin_52, zin_53, zkc_54, zin_55, zin_56, zkc_209, zkc_210, zin_211, zaa_211, zkc_212, zin_213, zkc_214, zkc_215, zin_216, zin_217, zkc_218, zin_219, zin_220, zin_221, zkc_222, zin_223, zaa_223, zin_224, zin_225, zkc_226, zin_227, zin_228, zin_229, zin_230, zin_231, zin_232, zkc_233, zin_234, zaa_234, zin_235, zin_236, zin_237, zin_238, zin_239, zin_240, zin_241, zin_242, zin_243, zin_244, zin_245, zin_246, zin_247, zin_248, zin_249, zin_250, zkc_251, zin_252, zin_253, zkc_374, zin_375, zin_376, zin_377, zin_378, zin_379, zin_380, zin_381, zin_382, zin_383, zin_384, zin_385, zin_386, zin_387]
      refine s_seat d _ N n (r + 1) hn (by omega) (by omega) (by omega) (by simpa using h1) (fun i c i1 i2 c1 c2 => ?_) (fun N2 h3 h4 => ?_)
      · rw [h2 (240 + i) (by omega) (by omega) (by omega) (by omega) (by omega) (by omega)]
        exact hP i c i1 (by omega) c1 c2
      · have h9 := ih (r + 1) (by omega) N2 h3 (fun b b1 b2 b3 b4 b5 b6 => (h4 b b1 b2 b3 b4 b5 b6).trans (h2 b b1 b2 b3 b4 b5 b6))
        simp only [↓e14, ↓e14_0, ↓e14_1, ↓e14_4, ↓e14_5, ↓e14_8, ↓e14_9, ↓e14_12, ↓e14_13, ↓e14_16, ↓e14_17, ↓e14_20, ↓e14_21, ↓e14_24, ↓e14_25, ↓e14_27, ↓e14_28, ↓e14_31, ↓e14_32, ↓e14_33, ↓e14_34, ↓e14_37, ↓e14_40, ↓e14_43, znl_i, znl_r, znl_n, zcs_0, zcs_1, zcs_2, zcs_3, zcat_0, zcat_1, zcat_2, zcat_3, zbl_0, zbl_1, true_and, and_true, ↓zret_some, ↓zret_none, Nat.reduceAdd, Nat.reduceLeDiff, Nat.reduceMul, eq_self, Int.reduceToNat]
        rw [show (((r + 1 : Nat) : Int) + 1) = ((r + 1 + 1 : Nat) : Int) by omega]
        exact h9
  have h9 := loop k 0 (by omega) (zfill (zfill (zfill M 235 20 0) 236 10 0) 237 20 0) (by
    have z5 : ∀ c, c < 20 → zfill (zfill (zfill M 235 20 0) 236 10 0) 237 20 0 235 c = 0 := fun c hc => by
      unfold zfill
      rw [zrow_ne _ _ (by omega), zrow_ne _ _ (by omega), zrow_self, if_pos hc]
    have z6 : ∀ c, c < 10 → zfill (zfill (zfill M 235 20 0) 236 10 0) 237 20 0 236 c = 0 := fun c hc => by
      unfold zfill
      rw [zrow_ne _ _ (by omega), zrow_self, if_pos hc]
    have z7 : ∀ c, c < 20 → zfill (zfill (zfill M 235 20 0) 236 10 0) 237 20 0 237 c = 0 := fun c hc => by
      unfold zfill
      rw [zrow_self, if_pos hc]
    refine ⟨fun c c1 c2 => by rw [z5 c (by omega)]; omega, fun c e c1 c2 e1 e2 hz => absurd (z5 c (by omega)) hz, fun i i1 i2 => absurd i2 (by omega), fun i c i1 i2 => absurd i2 (by omega), fun i c i1 c1 c2 hp => ?_, fun c c1 c2 => by rw [z7 c (by omega)]; exact ⟨Int.le_refl _, fun _ => rfl⟩, fun i i1 i2 => by rw [z6 i i2]; exact ⟨Int.le_refl _, fun _ => rfl⟩⟩
    rw [z5 c (by omega)] at hp
    omega) (fun b b1 b2 b3 b4 b5 b6 => by
    unfold zfill
    rw [zrow_ne _ _ b3, zrow_ne _ _ b2, zrow_ne _ _ b1])
  simp only [↓e14, ↓e14_0, ↓e14_1, ↓e14_4, ↓e14_5, ↓e14_8, ↓e14_9, ↓e14_12, ↓e14_13, ↓e14_16, ↓e14_17, ↓e14_20, ↓e14_21, ↓e14_24, ↓e14_25, ↓e14_27, ↓e14_28, ↓e14_31, ↓e14_32, ↓e14_33, ↓e14_34, ↓e14_37, ↓e14_40, ↓e14_43, znl_i, znl_r, znl_n, zcs_0, zcs_1, zcs_2, zcs_3, zcat_0, zcat_1, zcat_2, zcat_3, zbl_0, zbl_1, true_and, and_true, ↓zret_some, ↓zret_none, Nat.reduceAdd, Nat.reduceLeDiff, Nat.reduceMul, eq_self, Int.reduceToNat, zkc_0, zin_1, zin_2, zin_3, zin_4, zin_5, zin_6, zin_7, zin_8, zin_9, zaa_9, zkc_10, zin_11, zin_12, zkc_13, zin_14, zin_15, zkc_16, zin_17, zin_18, zkc_19, zin_20, zin_21, zin_22, zin_23, zin_24, zin_25, zin_26, zin_27, zin_28, zaa_28, zkc_29, zin_30, zin_31, zkc_32, zin_33, zin_34, zkc_35, zin_36, zin_37, zkc_38, zin_39, zin_40, zin_41, zin_42, zin_43, zin_44, zin_45, zin_46, zin_47, zaa_47, zkc_48, zin_49, zin_50, zkc_51, zin_52, zin_53, zkc_54, zin_55, zin_56, zkc_209, zkc_210, zin_211, zaa_211, zkc_212, zin_213, zkc_214, zkc_215, zin_216, zin_217, zkc_218, zin_219, zin_220, zin_221, zkc_222, zin_223, zaa_223, zin_224, zin_225, zkc_226, zin_227, zin_228, zin_229, zin_230, zin_231, zin_232, zkc_233, zin_234, zaa_234, zin_235, zin_236, zin_237, zin_238, zin_239, zin_240, zin_241, zin_242, zin_243, zin_244, zin_245, zin_246, zin_247, zin_248, zin_249, zin_250, zkc_251, zin_252, zin_253, zkc_374, zin_375, zin_376, zin_377, zin_378, zin_379, zin_380, zin_381, zin_382, zin_383, zin_384, zin_385, zin_386, zin_387, ↓s_fill _ _ _ 235 20 [] 0 zk235 (by omega), ↓s_fillL _ _ _ 236 10 [] 0 zk236 (by omega), ↓s_fillL _ _ _ 237 20 [] 0 zk237 (by omega)]
  exact h9
