theorem s_colsFrom (d : Nat) (Q : zQ) (M : zM) (a s : Nat) (ha : zkc a = 5) (hs : s < 10) (h : 0 ≤ M a 3 ∧ M a 3 < 10) : Sp (d + 1) 24 [.inr (.inr a), .inl (s : Int)] M Q = Q (some (.inl (M (a + 1) s - M (a + 1) (M a 3).toNat))) M := by
  have hz : ∀ i : Int, zin 0 (a + 1) i = (0 ≤ i ∧ i < 10) := fun i => zin_of (n := 10) (zkS ha).1
  have hs0 : 0 ≤ (s : Int) ∧ (s : Int) < 10 := ⟨by omega, by omega⟩
  simp only [↓e24, ↓e24_0, ↓e24_1, ↓e24_4, ↓e24_5, ↓e24_6, ↓e24_7, ↓e24_10, ↓e24_11, ↓e24_14, ↓e24_15, ↓e24_16, znl_i, znl_r, znl_n, zcs_0, zcs_1, zcs_2, zcs_3, zcat_0, zcat_1, zcat_2, zcat_3, zbl_0, zbl_1, true_and, and_true, ↓zret_some, ↓zret_none, Nat.reduceAdd, Nat.reduceLeDiff, Nat.reduceMul, eq_self, Int.reduceToNat, Int.reduceLE, Int.reduceLT, Int.reduceNeg, and_self, ha, hz, hs0, h, Int.toNat_natCast]
theorem s_rowsFrom (d : Nat) (Q : zQ) (M : zM) (a s : Nat) (ha : zkc a = 5) (hs : s < 10) (h : 0 ≤ M a 3 ∧ M a 3 < 10) : Sp (d + 1) 25 [.inr (.inr a), .inl (s : Int)] M Q = Q (some (.inl (M (a + 2) s - M (a + 2) (M a 3).toNat))) M := by
  have hz : ∀ i : Int, zin 0 (a + 2) i = (0 ≤ i ∧ i < 10) := fun i => zin_of (n := 10) (zkS ha).2
  have hs0 : 0 ≤ (s : Int) ∧ (s : Int) < 10 := ⟨by omega, by omega⟩
  simp only [↓e25, ↓e25_0, ↓e25_1, ↓e25_4, ↓e25_5, ↓e25_6, ↓e25_7, ↓e25_10, ↓e25_11, ↓e25_14, ↓e25_15, ↓e25_16, znl_i, znl_r, znl_n, zcs_0, zcs_1, zcs_2, zcs_3, zcat_0, zcat_1, zcat_2, zcat_3, zbl_0, zbl_1, true_and, and_true, ↓zret_some, ↓zret_none, Nat.reduceAdd, Nat.reduceLeDiff, Nat.reduceMul, eq_self, Int.reduceToNat, Int.reduceLE, Int.reduceLT, Int.reduceNeg, and_self, ha, hz, hs0, h, Int.toNat_natCast]
theorem pj_rng {S : zM} (hW : WfS S) : pj S < 3 ∧ S 8 2 = pj S := by
  have h := hW.2.2.2.2.2.2.2.2.1
  unfold pj
  omega
theorem s_placeFrom (d : Nat) (Q : zQ) (M S : zM) (s : Nat) (hR : RelC M 0 S) (hW : WfS S) (hs : (s : Int) < nsl S) (hl : 0 ≤ ldr S) :
    Sp (d + 2) 9 [.inr (.inr 226), .inl (S 1 (ldr S).toNat), .inr (.inr (10 + 3 * pj S)), .inl (s : Int)] M Q = Q (some (.inl (if plc S s < 0 then -5 else plc S s))) M := by
  obtain ⟨p1, p2⟩ := pj_rng hW
  obtain ⟨l1, l2, l3⟩ := ldr_rng hW
  obtain ⟨l4, l5⟩ := l3 hl
  obtain ⟨w1, w2, w3, w4, w5⟩ := hW.2.2.2.2.2.2.2.2.2 (pj S) p1
  have hns : nsl S = S (9 + pj S) 0 := rfl
  obtain ⟨a1, a2⟩ := w4 (by omega)
  obtain ⟨b1, b2, b3, b4⟩ := w5 s (by omega)
  obtain ⟨c1, c2, c3, c4⟩ := w5 (S (9 + pj S) 1).toNat (by omega)
  have hsh := hR.2.2.2.2.2.2.2.2.2.2.2 (pj S) p1
  simp only [Nat.zero_add] at hsh
  obtain ⟨r1, r2, r3⟩ := hsh
  have ha : zkc (10 + 3 * pj S) = 5 := by
    have := zkcWS (a := 0) (j := pj S) zkc_0 p1
    simpa using this
  have hs10 : s < 10 := by omega
  obtain ⟨q1, q2⟩ := r3 s hs10
  obtain ⟨q3, q4⟩ := r3 (S (9 + pj S) 1).toNat (by omega)
  have e1 : 10 + 3 * pj S + 1 = 11 + 3 * pj S := by omega
  have e2 : 10 + 3 * pj S + 2 = 12 + 3 * pj S := by omega
  have h3 : 0 ≤ M (10 + 3 * pj S) 3 ∧ M (10 + 3 * pj S) 3 < 10 := by rw [r2]; omega
  have hc := fun Q' => s_colsFrom d Q' M (10 + 3 * pj S) s ha hs10 h3
  have hr := fun Q' => s_rowsFrom d Q' M (10 + 3 * pj S) s ha hs10 h3
  simp only [r2, e1, e2, q1, q2, q3, q4] at hc hr
  generalize hX : S 1 (ldr S).toNat % 12 + (S (12 + pj S) s - S (12 + pj S) (S (9 + pj S) 1).toNat) = X at *
  generalize hY : S 1 (ldr S).toNat / 12 + (S (15 + pj S) s - S (15 + pj S) (S (9 + pj S) 1).toNat) = Y at *
  have hXr : zrg X := ⟨by omega, by omega⟩
  have hYr : zrg Y := ⟨by omega, by omega⟩
  have hplc : plc S s = if 0 ≤ X ∧ X < 12 ∧ 0 ≤ Y ∧ Y < 10 ∧ S 0 (12 * Y + X).toNat ≠ 1 then 12 * Y + X else -1 := by
    unfold plc anc
    rw [if_neg (by omega), hX, hY]
  have hlr : -2147483648 ≤ S 1 (ldr S).toNat ∧ S 1 (ldr S).toNat < 2147483648 := by omega
  simp only [↓e9, ↓e9_0, ↓e9_1, ↓e9_3, ↓e9_4, ↓e9_5, ↓e9_6, ↓e9_9, ↓e9_10, ↓e9_11, ↓e9_13, ↓e9_14, ↓e9_15, ↓e9_16, ↓e9_19, ↓e9_20, ↓e9_23, ↓e9_25, ↓e9_27, ↓e9_30, ↓e9_31, ↓e9_34, ↓e9_37, ↓e9_39, ↓e9_40, ↓e9_42, ↓e9_45, ↓e9_47, ↓e9_50, ↓e9_52, znl_i, znl_r, znl_n, zcs_0, zcs_1, zcs_2, zcs_3, zcat_0, zcat_1, zcat_2, zcat_3, zbl_0, zbl_1, true_and, and_true, ↓zret_some, ↓zret_none, Nat.reduceAdd, Nat.reduceLeDiff, Nat.reduceMul, eq_self, Int.reduceToNat, Int.reduceLE, Int.reduceLT, Int.reduceNeg, and_self, zrg, zkc_0, zin_1, zin_2, zin_3, zin_4, zin_5, zin_6, zin_7, zin_8, zin_9, zaa_9, zkc_10, zin_11, zin_12, zkc_13, zin_14, zin_15, zkc_16, zin_17, zin_18, zkc_19, zin_20, zin_21, zin_22, zin_23, zin_24, zin_25, zin_26, zin_27, zin_28, zaa_28, zkc_29, zin_30, zin_31, zkc_32, zin_33, zin_34, zkc_35, zin_36, zin_37, zkc_38, zin_39, zin_40, zin_41, zin_42, zin_43, zin_44, zin_45, zin_46, zin_47, zaa_47, zkc_48, zin_49, zin_50, zkc_51, zin_52, zin_53, zkc_54, zin_55, zin_56, zkc_209, zkc_210, zin_211, zaa_211, zkc_212, zin_213, zkc_214, zkc_215, zin_216, zin_217, zkc_218, zin_219, zin_220, zin_221, zkc_222, zin_223, zaa_223, zin_224, zin_225, zkc_226, zin_227, zin_228, zin_229, zin_230, zin_231, zin_232, zkc_233, zin_234, zaa_234, zin_235, zin_236, zin_237, zin_238, zin_239, zin_240, zin_241, zin_242, zin_243, zin_244, zin_245, zin_246, zin_247, zin_248, zin_249, zin_250, zkc_251, zin_252, zin_253, zkc_374, zin_375, zin_376, zin_377, zin_378, zin_379, zin_380, zin_381, zin_382, zin_383, zin_384, zin_385, zin_386, zin_387, ha, ↓hc, ↓hr, l4, hlr, hX, hY, ↓s_cellAt _ _ M X Y hXr hYr, Int.reduceLT]
  by_cases h : 0 ≤ X ∧ X < 12 ∧ 0 ≤ Y ∧ Y < 10
  · have hc0 : ¬ 12 * Y + X < 0 := by omega
    have hc1 : 0 ≤ 12 * Y + X ∧ 12 * Y + X < 120 := by omega
    have hc2 : -2147483648 ≤ 12 * Y + X ∧ 12 * Y + X < 2147483648 := by omega
    have hm := hR.1 (12 * Y + X).toNat (by omega)
    simp only [Nat.zero_add] at hm
    have hon : -1 ≤ onS S ((12 * Y + X).toNat : Int) ∧ onS S ((12 * Y + X).toNat : Int) < 10 := by
      unfold onS
      rcases zfst_rng (fun m => decide (S 1 m = ((12 * Y + X).toNat : Int))) 10 0 with h | ⟨m, h, h2, h3, -⟩ <;> omega
    have hmr : -2147483648 ≤ M 1 (12 * Y + X).toNat ∧ M 1 (12 * Y + X).toNat < 2147483648 := by rw [hm]; split <;> omega
    simp only [if_pos h, hc0, hc1, hc2, hmr, and_self, true_and, ↓reduceIte]
    by_cases hw : S 0 (12 * Y + X).toNat = 1
    · have hp1 : plc S s = -1 := by rw [hplc]; exact if_neg (fun z => z.2.2.2.2 hw)
      have hm1 : M 1 (12 * Y + X).toNat = -2 := by rw [hm, if_pos hw]
      rw [if_pos hm1, hp1]
      simp
    · have hp2 : plc S s = 12 * Y + X := by rw [hplc]; exact if_pos ⟨h.1, h.2.1, h.2.2.1, h.2.2.2, hw⟩
      have hm1 : ¬ M 1 (12 * Y + X).toNat = -2 := by rw [hm, if_neg hw]; omega
      rw [if_neg hm1, hp2, if_neg hc0]
  · have hp1 : plc S s = -1 := by rw [hplc]; exact if_neg (fun z => h ⟨z.1, z.2.1, z.2.2.1, z.2.2.2.1⟩)
    rw [if_neg h, hp1]
    simp
def OpnI (S M N : zM) (k : Nat) : Prop :=
  (∀ b, b ≠ 226 → b ≠ 229 → b ≠ 231 → N b = M b) ∧ (∀ j, j ≠ 3 → N 226 j = M 226 j) ∧ N 226 3 = (opnN S k).length ∧ (∀ s : Nat, s < k → N 229 s = if plc S s < 0 then -5 else plc S s) ∧ (∀ i s : Nat, (opnN S k)[i]? = some s → N 231 i = s)
theorem s_listOpen (d : Nat) (Q : zQ) (M S : zM) (hR : RelC M 0 S) (hW : WfS S) (hQ : ∀ N, OpnI S M N (nsl S).toNat → Q none N) : Sp (d + 4) 8 [.inr (.inr 226)] M Q := by
  obtain ⟨p1, p2⟩ := pj_rng hW
  obtain ⟨l1, l2, l3⟩ := ldr_rng hW
  obtain ⟨w1, w2, w3, w4, w5⟩ := hW.2.2.2.2.2.2.2.2.2 (pj S) p1
  have hns : nsl S = S (9 + pj S) 0 := rfl
  have hsh := hR.2.2.2.2.2.2.2.2.2.2.2 (pj S) p1
  simp only [Nat.zero_add] at hsh
  obtain ⟨r1, r2, r3⟩ := hsh
  have ha : zkc (10 + 3 * pj S) = 5 := by
    have := zkcWS (a := 0) (j := pj S) zkc_0 p1
    simpa using this
  generalize hL : (if ldr S < 0 then -5 else ldr S) = L
  have hLr : -2147483648 ≤ L ∧ L < 2147483648 := by rw [← hL]; constructor <;> split <;> omega
  have hnr : -2147483648 ≤ nsl S ∧ nsl S < 2147483648 := by omega
  have loop : ∀ n k : Nat, k + n = (nsl S).toNat → ∀ N : zM, OpnI S M N k → RT (Sp (d + 3)) 8 Q 23 [some (.inr (.inr 226)), some (.inr (.inr (10 + 3 * pj S))), some (.inl L), some (.inl (k : Int))] [] N := by
    intro n
    induction n with
    | zero =>
      intro k hk N hN
      obtain rfl : k = (nsl S).toNat := by omega
      have e0 : (((nsl S).toNat : Nat) : Int) = nsl S := by omega
      have hN2 : N (10 + 3 * pj S) = M (10 + 3 * pj S) := hN.1 _ (by omega) (by omega) (by omega)
      rw [e8_23]
      simp only [↓e8, ↓e8_0, ↓e8_1, ↓e8_4, ↓e8_7, ↓e8_8, ↓e8_9, ↓e8_12, ↓e8_15, ↓e8_16, ↓e8_17, ↓e8_18, ↓e8_21, ↓e8_22, ↓e8_24, ↓e8_25, ↓e8_28, ↓e8_31, ↓e8_32, ↓e8_35, ↓e8_36, ↓e8_37, ↓e8_40, ↓e8_42, ↓e8_45, ↓e8_46, ↓e8_47, ↓e8_50, ↓e8_53, ↓e8_54, ↓e8_55, ↓e8_56, ↓e8_57, ↓e8_60, ↓e8_61, ↓e8_62, ↓e8_65, ↓e8_66, ↓e8_67, ↓e8_70, ↓e8_71, ↓e8_72, ↓e8_75, ↓e8_78, ↓e8_79, ↓e8_82, ↓e8_83, ↓e8_86, ↓e8_87, ↓e8_88, ↓e8_89, ↓e8_89i, ↓e8_90, ↓e8_93, ↓e8_94, ↓e8_95, ↓e8_98, ↓e8_101, ↓e8_104, znl_i, znl_r, znl_n, zcs_0, zcs_1, zcs_2, zcs_3, zcat_0, zcat_1, zcat_2, zcat_3, zbl_0, zbl_1, true_and, and_true, ↓zret_some, ↓zret_none, Nat.reduceAdd, Nat.reduceLeDiff, Nat.reduceMul, eq_self, Int.reduceToNat, Int.reduceLE, Int.reduceLT, Int.reduceNeg, and_self, zrg, ha, e0, hN2, r1, ← hns, hnr, ge_iff_le, Int.le_refl, ↓reduceIte]
      exact hQ N hN
    | succ n ih =>
      intro k hk N hN
      obtain ⟨f1, f2, f3, f4, f5⟩ := id hN
      have hkr : -2147483648 ≤ (k : Int) ∧ (k : Int) < 2147483648 := ⟨by omega, by omega⟩
      have hk0 : 0 ≤ (k : Int) ∧ (k : Int) < 10 := ⟨by omega, by omega⟩
      have e1 : ¬ (k : Int) ≥ nsl S := by omega
      have hRN : RelC N 0 S := RelC_congr (fun b hb => f1 b (by omega) (by omega) (by omega)) hR
      have hN2 : N (10 + 3 * pj S) = M (10 + 3 * pj S) := f1 _ (by omega) (by omega) (by omega)
      have hlen := opnN_len S k
      -- behind the place
      have step2 : ∀ N', (∀ b, b ≠ 229 → N' b = N b) → (∀ s : Nat, s < k + 1 → N' 229 s = if plc S s < 0 then -5 else plc S s) → RT (Sp (d + 3)) 8 Q 61 [some (.inr (.inr 226)), some (.inr (.inr (10 + 3 * pj S))), some (.inl L), some (.inl (k : Int))] [] N' := by
        intro N' g1 g2
        have g3 := g2 k (by omega)
        have g4 : N' 226 = N 226 := g1 226 (by omega)
        have g5 : N' (10 + 3 * pj S) = M (10 + 3 * pj S) := (g1 _ (by omega)).trans hN2
        have join : ∀ N3, OpnI S M N3 (k + 1) → RT (Sp (d + 3)) 8 Q 98 [some (.inr (.inr 226)), some (.inr (.inr (10 + 3 * pj S))), some (.inl L), some (.inl (k : Int))] [] N3 := by
          intro N3 h
          have h9 := ih (k + 1) (by omega) N3 h
          simp only [↓e8, ↓e8_0, ↓e8_1, ↓e8_4, ↓e8_7, ↓e8_8, ↓e8_9, ↓e8_12, ↓e8_15, ↓e8_16, ↓e8_17, ↓e8_18, ↓e8_21, ↓e8_22, ↓e8_24, ↓e8_25, ↓e8_28, ↓e8_31, ↓e8_32, ↓e8_35, ↓e8_36, ↓e8_37, ↓e8_40, ↓e8_42, ↓e8_45, ↓e8_46, ↓e8_47, ↓e8_50, ↓e8_53, ↓e8_54, ↓e8_55, ↓e8_56, ↓e8_57, ↓e8_60, ↓e8_61, ↓e8_62, ↓e8_65, ↓e8_66, ↓e8_67, ↓e8_70, ↓e8_71, ↓e8_72, ↓e8_75, ↓e8_78, ↓e8_79, ↓e8_82, ↓e8_83, ↓e8_86, ↓e8_87, ↓e8_88, ↓e8_89, ↓e8_89i, ↓e8_90, ↓e8_93, ↓e8_94, ↓e8_95, ↓e8_98, ↓e8_101, ↓e8_104, znl_i, znl_r, znl_n, zcs_0, zcs_1, zcs_2, zcs_3, zcat_0, zcat_1, zcat_2, zcat_3, zbl_0, zbl_1, true_and, and_true, ↓zret_some, ↓zret_none, Nat.reduceAdd, Nat.reduceLeDiff, Nat.reduceMul, eq_self, Int.reduceToNat, Int.reduceLE, Int.reduceLT, Int.reduceNeg, and_self]
          exact h9
        have hno : isO S k = false → OpnI S M N' (k + 1) := fun q => by
          refine ⟨fun b b1 b2 b3 => (g1 b b2).trans (f1 b b1 b2 b3), fun j hj => by rw [g4]; exact f2 j hj, ?_, g2, ?_⟩
          · unfold opnN; rw [filt_succ, q, g4]; simpa [opnN] using f3
          · unfold opnN; rw [filt_succ, q, g1 231 (by omega)]; simpa [opnN] using f5
        have hpr : -2147483648 ≤ N' 229 k ∧ N' 229 k < 2147483648 := by
          rw [g3]
          split
          · omega
          · have := plc_rng (S := S) (s := k) (by omega); omega
        have har : -2147483648 ≤ S (9 + pj S) 1 ∧ S (9 + pj S) 1 < 2147483648 := by
          have := w4 (by omega); omega
        simp only [↓e8, ↓e8_0, ↓e8_1, ↓e8_4, ↓e8_7, ↓e8_8, ↓e8_9, ↓e8_12, ↓e8_15, ↓e8_16, ↓e8_17, ↓e8_18, ↓e8_21, ↓e8_22, ↓e8_24, ↓e8_25, ↓e8_28, ↓e8_31, ↓e8_32, ↓e8_35, ↓e8_36, ↓e8_37, ↓e8_40, ↓e8_42, ↓e8_45, ↓e8_46, ↓e8_47, ↓e8_50, ↓e8_53, ↓e8_54, ↓e8_55, ↓e8_56, ↓e8_57, ↓e8_60, ↓e8_61, ↓e8_62, ↓e8_65, ↓e8_66, ↓e8_67, ↓e8_70, ↓e8_71, ↓e8_72, ↓e8_75, ↓e8_78, ↓e8_79, ↓e8_82, ↓e8_83, ↓e8_86, ↓e8_87, ↓e8_88, ↓e8_89, ↓e8_89i, ↓e8_90, ↓e8_93, ↓e8_94, ↓e8_95, ↓e8_101, ↓e8_104, znl_i, znl_r, znl_n, zcs_0, zcs_1, zcs_2, zcs_3, zcat_0, zcat_1, zcat_2, zcat_3, zbl_0, zbl_1, true_and, and_true, ↓zret_some, ↓zret_none, Nat.reduceAdd, Nat.reduceLeDiff, Nat.reduceMul, eq_self, Int.reduceToNat, Int.reduceLE, Int.reduceLT, Int.reduceNeg, and_self, zrg, zkc_0, zin_1, zin_2, zin_3, zin_4, zin_5, zin_6, zin_7, zin_8, zin_9, zaa_9, zkc_10, zin_11, zin_12, zkc_13, zin_14, zin_15, zkc_16, zin_17, zin_18, zkc_19, zin_20, zin_21, zin_22, zin_23, zin_24, zin_25, zin_26, zin_27, zin_28, zaa_28, zkc_29, zin_30, zin_31, zkc_32, zin_33, zin_34, zkc_35, zin_36, zin_37, zkc_38, zin_39, zin_40, zin_41, zin_42, zin_43, zin_44, zin_45, zin_46, zin_47, zaa_47, zkc_48, zin_49, zin_50, zkc_51, zin_52, zin_53, zkc_54, zin_55, zin_56, zkc_209, zkc_210, zin_211, zaa_211, zkc_212, zin_213, zkc_214, zkc_215, zin_216, zin_217, zkc_218, zin_219, zin_220, zin_221, zkc_222, zin_223, zaa_223, zin_224, zin_225, zkc_226, zin_227, zin_228, zin_229, zin_230, zin_231, zin_232, zkc_233, zin_234, zaa_234, zin_235, zin_236, zin_237, zin_238, zin_239, zin_240, zin_241, zin_242, zin_243, zin_244, zin_245, zin_246, zin_247, zin_248, zin_249, zin_250, zkc_251, zin_252, zin_253, zkc_374, zin_375, zin_376, zin_377, zin_378, zin_379, zin_380, zin_381, zin_382, zin_383, zin_384, zin_385, zin_386, zin_387, hk0, hkr, hpr, Int.toNat_natCast, ha, g5, r2, har]
        by_cases h1 : plc S k < 0
        · rw [if_pos (by rw [g3, if_pos h1]; omega)]
          exact join N' (hno (by simp [isO]; intro _; omega))
        · rw [if_neg (by rw [g3, if_neg h1]; exact h1)]
          by_cases h2 : (k : Int) = S (9 + pj S) 1
          · rw [if_pos h2]
            exact join N' (hno (by simp [isO, anc, h2]))
          · rw [if_neg h2]
            have h3 : isO S k = true := by
              unfold isO anc
              exact decide_eq_true ⟨h2, by omega⟩
            have hl0 : 0 ≤ N 226 3 ∧ N 226 3 < 10 := by rw [f3]; omega
            have hy : OpnI S M (zup (zup N' 231 (N 226 3).toNat k) 226 3 (N 226 3 + 1)) (k + 1) := by
              have e5 : opnN S (k + 1) = opnN S k ++ [k] := by unfold opnN; rw [filt_succ, h3]; rfl
              refine ⟨fun b b1 b2 b3 => by rw [zup_ne _ _ _ b1, zup_ne _ _ _ b3]; exact (g1 b b2).trans (f1 b b1 b2 b3), fun j hj => ?_, ?_, fun s hs => ?_, fun i m him => ?_⟩
              · simp [zup, hj, g4, f2 j hj]
              · rw [e5]; simp [zup, f3]
              · rw [zup_ne _ _ _ (by omega), zup_ne _ _ _ (by omega)]; exact g2 s hs
              · rw [e5] at him
                have e6 : (N 226 3).toNat = (opnN S k).length := by rw [f3]; simp
                rw [zup_ne _ _ _ (by omega)]
                by_cases z : i < (opnN S k).length
                · rw [List.getElem?_append_left z] at him
                  have : ¬ i = (N 226 3).toNat := by omega
                  simp only [zup, this, and_false, if_false]
                  rw [g1 231 (by omega)]
                  exact f5 i m him
                · rw [List.getElem?_append_right (by omega)] at him
                  have e7 : i - (opnN S k).length < 1 := (List.getElem?_eq_some_iff.mp him).1
                  have e8 : i - (opnN S k).length = 0 := by omega
                  rw [e8] at him
                  have e9 : k = m := by simpa using him
                  have : i = (N 226 3).toNat := by omega
                  subst this
                  subst e9
                  simp [zup]
            have h9 := join _ hy
            have e10 : ∀ v : Int, zup N' 231 (N 226 3).toNat v 226 = N 226 := fun v => by rw [zup_ne _ _ _ (by omega)]; exact g4
            simp [hl0, e10, g4]
            exact h9
      have fin : ∀ v : Int, v = (if plc S k < 0 then -5 else plc S k) → RT (Sp (d + 3)) 8 Q 61 [some (.inr (.inr 226)), some (.inr (.inr (10 + 3 * pj S))), some (.inl L), some (.inl (k : Int))] [] (zup N 229 k v) := fun v hv =>
        step2 _ (fun b hb => zup_ne _ _ _ hb) (fun s hs => by
          by_cases z : s = k
          · subst z; simp [zup, hv]
          · simp only [zup, z, and_false, if_false]; exact f4 s (by omega))
      rw [e8_23]
      simp only [↓e8, ↓e8_0, ↓e8_1, ↓e8_4, ↓e8_7, ↓e8_8, ↓e8_9, ↓e8_12, ↓e8_15, ↓e8_16, ↓e8_17, ↓e8_18, ↓e8_21, ↓e8_22, ↓e8_24, ↓e8_25, ↓e8_28, ↓e8_31, ↓e8_32, ↓e8_35, ↓e8_36, ↓e8_37, ↓e8_40, ↓e8_42, ↓e8_45, ↓e8_46, ↓e8_47, ↓e8_50, ↓e8_53, ↓e8_54, ↓e8_55, ↓e8_56, ↓e8_60, ↓e8_62, ↓e8_65, ↓e8_66, ↓e8_67, ↓e8_70, ↓e8_71, ↓e8_72, ↓e8_75, ↓e8_78, ↓e8_79, ↓e8_82, ↓e8_83, ↓e8_86, ↓e8_87, ↓e8_88, ↓e8_89, ↓e8_89i, ↓e8_90, ↓e8_93, ↓e8_94, ↓e8_95, ↓e8_98, ↓e8_101, ↓e8_104, znl_i, znl_r, znl_n, zcs_0, zcs_1, zcs_2, zcs_3, zcat_0, zcat_1, zcat_2, zcat_3, zbl_0, zbl_1, true_and, and_true, ↓zret_some, ↓zret_none, Nat.reduceAdd, Nat.reduceLeDiff, Nat.reduceMul, eq_self, Int.reduceToNat, Int.reduceLE, Int.reduceLT, Int.reduceNeg, and_self, zrg, zkc_0, zin_1, zin_2, zin_3, zin_4, zin_5, zin_6, zin_7, zin_8, zin_9, zaa_9, zkc_10, zin_11, zin_12, zkc_13, zin_14, zin_15, zkc_16, zin_17, zin_18, zkc_19, zin_20, zin_21, zin_22, zin_23, zin_24, zin_25, zin_26, zin_27, zin_28, zaa_28, zkc_29, zin_30, zin_31, zkc_32, zin_33, zin_34, zkc_35, zin_36, zin_37, zkc_38, zin_39, zin_40, zin_41, zin_42, zin_43, zin_44, zin_45, zin_46, zin_47, zaa_47, zkc_48, zin_49, zin_50, zkc_51, zin_52, zin_53, zkc_54, zin_55, zin_56, zkc_209, zkc_210, zin_211, zaa_211, zkc_212, zin_213, zkc_214, zkc_215, zin_216, zin_217, zkc_218, zin_219, zin_220, zin_221, zkc_222, zin_223, zaa_223, zin_224, zin_225, zkc_226, zin_227, zin_228, zin_229, zin_230, zin_231, zin_232, zkc_233, zin_234, zaa_234, zin_235, zin_236, zin_237, zin_238, zin_239, zin_240, zin_241, zin_242, zin_243, zin_244, zin_245, zin_246, zin_247, zin_248, zin_249, zin_250, zkc_251, zin_252, zin_253, zkc_374, zin_375, zin_376, zin_377, zin_378, zin_379, zin_380, zin_381, zin_382, zin_383, zin_384, zin_385, zin_386, zin_387, ha, hkr, hk0, hN2, r1, ← hns, hnr, e1, hLr, ↓reduceIte]
      by_cases hl : 0 ≤ ldr S
      · obtain ⟨l4, l5⟩ := l3 hl
        have hL2 : L = ldr S := by rw [← hL, if_neg (by omega)]
        have hL0 : L ≥ 0 := by omega
        have hm := hRN.2.1 (ldr S).toNat (by omega)
        simp only [Nat.zero_add] at hm
        rw [if_neg (by omega)] at hm
        rw [if_pos hL0]
        have hLi : 0 ≤ L ∧ L < 10 := by omega
        have hmL : N 2 L.toNat = S 1 (ldr S).toNat := by rw [hL2]; exact hm
        simp only [hLi, and_self, true_and, hmL, e8_57, zkc_226, zcs_1, zcs_2, zcat_1, zcat_2, zcat_0, Nat.reduceAdd, Nat.reduceLeDiff, ↓s_placeFrom (d + 1) _ N S k hRN hW (show (k : Int) < nsl S by omega) hl, ↓zret_some, e8_60, zin_229, hk0, Int.toNat_natCast]
        exact fin _ rfl
      · have hL0 : ¬ L ≥ 0 := by rw [← hL, if_pos (by omega)]; omega
        rw [if_neg hL0]
        have := fin (-5) (by
          have : plc S k = -1 := by unfold plc; rw [if_pos (by omega)]
          rw [this]; simp)
        simp
        exact this
  have h8 := hR.2.2.2.2.2.2.2.2.2.2.1
  have hp : M 0 11 = pj S := by rw [h8]; exact p2
  have h0 := loop (nsl S).toNat 0 (by omega) (zup M 226 3 0) ⟨fun b b1 b2 b3 => zup_ne _ _ _ b1, fun j hj => by simp [zup, hj], by simp [zup, opnN], fun s hs => absurd hs (Nat.not_lt_zero s), fun i m h => by simp [opnN] at h⟩
  simp only [↓e8, ↓e8_0, ↓e8_1, ↓e8_4, ↓e8_7, ↓e8_8, ↓e8_9, ↓e8_12, ↓e8_15, ↓e8_16, ↓e8_17, ↓e8_18, ↓e8_21, ↓e8_22, ↓e8_24, ↓e8_25, ↓e8_28, ↓e8_31, ↓e8_32, ↓e8_35, ↓e8_36, ↓e8_37, ↓e8_40, ↓e8_42, ↓e8_45, ↓e8_46, ↓e8_47, ↓e8_50, ↓e8_53, ↓e8_54, ↓e8_55, ↓e8_56, ↓e8_57, ↓e8_60, ↓e8_61, ↓e8_62, ↓e8_65, ↓e8_66, ↓e8_67, ↓e8_70, ↓e8_71, ↓e8_72, ↓e8_75, ↓e8_78, ↓e8_79, ↓e8_82, ↓e8_83, ↓e8_86, ↓e8_87, ↓e8_88, ↓e8_89, ↓e8_89i, ↓e8_90, ↓e8_93, ↓e8_94, ↓e8_95, ↓e8_98, ↓e8_101, ↓e8_104, znl_i, znl_r, znl_n, zcs_0, zcs_1, zcs_2, zcs_3, zcat_0, zcat_1, zcat_2, zcat_3, zbl_0, zbl_1, true_and, and_true, ↓zret_some, ↓zret_none, Nat.reduceAdd, Nat.reduceLeDiff, Nat.reduceMul, eq_self, Int.reduceToNat, Int.reduceLE, Int.reduceLT, Int.reduceNeg, and_self, zkc_0, zin_1, zin_2, zin_3, zin_4, zin_5, zin_6, zin_7, zin_8, zin_9, zaa_9, zkc_10, zin_11, zin_12, zkc_13, zin_14, zin_15, zkc_16, zin_17, zin_18, zkc_19, zin_20, zin_21, zin_22, zin_23, zin_24, zin_25, zin_26, zin_27, zin_28, zaa_28, zkc_29, zin_30, zin_31, zkc_32, zin_33, zin_34, zkc_35, zin_36, zin_37, zkc_38, zin_39, zin_40, zin_41, zin_42, zin_43, zin_44, zin_45, zin_46, zin_47, zaa_47, zkc_48, zin_49, zin_50, zkc_51, zin_52, zin_53, zkc_54, zin_55, zin_56, zkc_209, zkc_210, zin_211, zaa_211, zkc_212, zin_213, zkc_214, zkc_215, zin_216, zin_217, zkc_218, zin_219, zin_220, zin_221, zkc_222, zin_223, zaa_223, zin_224, zin_225, zkc_226, zin_227, zin_228, zin_229, zin_230, zin_231, zin_232, zkc_233, zin_234, zaa_234, zin_235, zin_236, zin_237, zin_238, zin_239, zin_240, zin_241, zin_242, zin_243, zin_244, zin_245, zin_246, zin_247, zin_248, zin_249, zin_250, zkc_251, zin_252, zin_253, zkc_374, zin_375, zin_376, zin_377, zin_378, zin_379, zin_380, zin_381, zin_382, zin_383, zin_384, zin_385, zin_386, zin_387, ↓s_leader (d + 1) _ M S 0 zkc_0 hR hW, ↓s_presentShape (d + 2) _ M (by rw [hp]; omega), hp, Int.toNat_natCast, hL]
  exact h0
