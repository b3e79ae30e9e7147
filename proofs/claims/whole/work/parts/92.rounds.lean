/-! ### rounds on both sides -/
noncomputable def rndN (S : zM) : Nat → zM
  | 0 => S
  | k + 1 => rnd (rndN S k)
theorem rndN_ok {S : zM} {B : Int} (hW : WfS S) (hl : 0 ≤ ldr S) (hB0 : 0 ≤ B) (hB : Bw S B) : ∀ k : Nat, Kp S (rndN S k) ∧ Bw (rndN S k) (B + 10 * k)
  | 0 => ⟨Kp_refl hW, fun m hm => by have := hB m hm; show 0 ≤ S 2 m ∧ S 2 m ≤ B + 10 * ((0 : Nat) : Int); omega⟩
  | k + 1 => by
    obtain ⟨h1, h2⟩ := rndN_ok hW hl hB0 hB k
    obtain ⟨g1, g2⟩ := rnd_ok h1.1 (by rw [h1.2.1]; exact hl) (B := B + 10 * k) (by omega) h2
    refine ⟨Kp_trans h1 g1, fun m hm => ?_⟩
    have := g2 m hm
    show 0 ≤ rnd (rndN S k) 2 m ∧ rnd (rndN S k) 2 m ≤ _
    have e : ((k + 1 : Nat) : Int) = k + 1 := by omega
    omega
theorem rndN_Wb {S : zM} {B C : Int} (hW : Wb B S) (hl : 0 ≤ ldr S) (hB0 : 0 ≤ B) (k : Nat) (hC : B + 10 * k ≤ C) : Wb C (rndN S k) := by
  obtain ⟨h1, h2⟩ := rndN_ok hW.1 hl hB0 hW.2.2 k
  exact Kp_Wb h1 hW (fun m hm => by have := h2 m hm; omega)
theorem Wb_B0 {S : zM} {B : Int} (hW : Wb B S) : 0 ≤ B := by have := hW.2.2 0 (by omega); omega
def mvd (S T : zM) : Nat → Int
  | 0 => 0
  | n + 1 => mvd S T n + (if 0 ≤ T 1 n ∧ T 1 n ≠ S 1 n then 1 else 0)
theorem cnt_nn (S : zM) : ∀ n : Nat, 0 ≤ cntM S n
  | 0 => Int.le_refl 0
  | n + 1 => by
    have := cnt_nn S n
    unfold cntM
    split <;> omega
theorem cnt_pos (S : zM) : ∀ n m : Nat, m < n → 0 ≤ S 1 m → 0 < cntM S n
  | 0, m, h, _ => absurd h (Nat.not_lt_zero m)
  | n + 1, m, h, h0 => by
    unfold cntM
    by_cases z : m = n
    · subst z
      have := cnt_nn S m
      rw [if_pos h0]; omega
    · have := cnt_pos S n m (by omega) h0
      split <;> omega
theorem cnt_zero (S : zM) : ∀ n : Nat, (∀ m, m < n → S 1 m < 0) → cntM S n = 0
  | 0, _ => rfl
  | n + 1, h => by
    unfold cntM
    rw [cnt_zero S n (fun m hm => h m (by omega)), if_neg (by have := h n (by omega); omega)]; rfl
theorem cnt_ldr {S : zM} (hW : WfS S) : cntM S 10 = 0 ↔ ldr S < 0 := by
  obtain ⟨l1, l2, l3⟩ := ldr_rng hW
  constructor
  · intro h
    rcases Int.lt_or_le (ldr S) 0 with z | z
    · exact z
    · have := cnt_pos S 10 (ldr S).toNat (by omega) (l3 z).1
      omega
  · intro h
    refine cnt_zero S 10 (fun m hm => ?_)
    rcases Int.lt_or_le (S 1 m) 0 with z | z
    · exact z
    · have := ldr_ex (S := S) (m := (m : Int)) ⟨by omega, by omega, by rw [Int.toNat_natCast]; exact z⟩
      omega
theorem cnt_le (S : zM) : ∀ n : Nat, cntM S n ≤ n
  | 0 => Int.le_refl 0
  | n + 1 => by
    have := cnt_le S n
    unfold cntM
    split <;> omega
theorem live_C {M S : zM} (hR : RelC M 0 S) (hW : WfS S) : M 8 7 - M 8 5 = cntM S 10 := by
  have h7 := hR.2.2.2.2.2.2.2.1 7 (by omega)
  have h5 := hR.2.2.2.2.2.2.2.1 5 (by omega)
  simp only [Nat.zero_add] at h7 h5
  rw [h7, h5]
  exact hW.2.2.2.2.2.1.2.2
theorem setX_self (X : zX) : setX X (X 0) = X := by
  funext k
  unfold setX
  by_cases z : k = 0
  · rw [if_pos z, z]
  · rw [if_neg z]
theorem IC_spare {X : zX} {M N : zM} (hC : IC X M) (h : ∀ b, b < 19 ∨ 38 ≤ b → N b = M b) : IC X N := by
  have h9 := IC_set (N := N) hC (RelC_congr (fun b hb => h b (by omega)) hC.1) (fun x hx => by rw [h 224 (by omega), h (254 + x) (by omega)]; exact hC.2.1 x hx) (fun b b1 b2 => h b (by omega))
  rw [setX_self] at h9
  exact h9
theorem s_moved (d : Nat) (Q : zQ) (M S T : zM) (hR : RelC M 0 T) (hS : RelC M 19 S) (hW : WfS S) (hT : WfS T) (ha : ∀ m : Nat, m < 10 → (0 ≤ T 1 m ↔ 0 ≤ S 1 m)) : Sp (d + 1) 66 [.inr (.inr 0), .inr (.inr 19)] M Q = Q (some (.inl (mvd S T 10))) M := by
  have loop : ∀ n k : Nat, k + n = 10 → RT (Sp d) 66 Q 4 [some (.inr (.inr 0)), some (.inr (.inr 19)), some (.inl (mvd S T k)), some (.inl (k : Int))] [] M = Q (some (.inl (mvd S T 10))) M := by
    intro n
    induction n with
    | zero =>
      intro k hk
      obtain rfl : k = 10 := by omega
      rw [e66_4]
      simp only [↓e66, ↓e66_0, ↓e66_1, ↓e66_2, ↓e66_3, ↓e66_5, ↓e66_7, ↓e66_10, ↓e66_11, ↓e66_14, ↓e66_15, ↓e66_16, ↓e66_17, ↓e66_20, ↓e66_21, ↓e66_22, ↓e66_25, ↓e66_28, ↓e66_31, ↓e66_34, ↓e66_35, znl_i, znl_r, znl_n, zcs_0, zcs_1, zcs_2, zcs_3, zcat_0, zcat_1, zcat_2, zcat_3, zbl_0, zbl_1, true_and, and_true, ↓zret_some, ↓zret_none, Nat.reduceAdd, Nat.reduceLeDiff, Nat.reduceMul, eq_self, Int.reduceToNat, Int.reduceLE, Int.reduceLT, Int.reduceNeg, and_self, zrg, Int.cast_ofNat_Int, ge_iff_le, Int.le_refl, ↓reduceIte]
    | succ n ih =>
      intro k hk
      have hk0 : 0 ≤ (k : Int) ∧ (k : Int) < 10 := ⟨by omega, by omega⟩
      have hk1 : ¬ (k : Int) ≥ 10 := by omega
      have hk2 : -2147483648 ≤ (k : Int) ∧ (k : Int) < 2147483648 := ⟨by omega, by omega⟩
      have a1 := hR.2.1 k (by omega)
      have a2 := hS.2.1 k (by omega)
      simp only [Nat.zero_add, Nat.reduceAdd] at a1 a2
      have b1 := hW.2.1 k (by omega)
      have b2 := hT.2.1 k (by omega)
      have b3 := ha k (by omega)
      have z1 : -2147483648 ≤ M 2 k ∧ M 2 k < 2147483648 := by rw [a1]; split <;> omega
      have z2 : -2147483648 ≤ M 21 k ∧ M 21 k < 2147483648 := by rw [a2]; split <;> omega
      have h9 := ih (k + 1) (by omega)
      have hs : mvd S T (k + 1) = mvd S T k + (if 0 ≤ T 1 k ∧ T 1 k ≠ S 1 k then 1 else 0) := rfl
      rw [hs] at h9
      rw [e66_4]
      simp only [↓e66, ↓e66_0, ↓e66_1, ↓e66_2, ↓e66_3, ↓e66_5, ↓e66_7, ↓e66_10, ↓e66_11, ↓e66_14, ↓e66_15, ↓e66_16, ↓e66_17, ↓e66_20, ↓e66_21, ↓e66_22, ↓e66_25, ↓e66_28, ↓e66_31, ↓e66_34, ↓e66_35, znl_i, znl_r, znl_n, zcs_0, zcs_1, zcs_2, zcs_3, zcat_0, zcat_1, zcat_2, zcat_3, zbl_0, zbl_1, true_and, and_true, ↓zret_some, ↓zret_none, Nat.reduceAdd, Nat.reduceLeDiff, Nat.reduceMul, eq_self, Int.reduceToNat, Int.reduceLE, Int.reduceLT, Int.reduceNeg, and_self, zrg, zkc_0, zin_1, zin_2, zin_3, zin_4, zin_5, zin_6, zin_7, zin_8, zin_9, zaa_9, zkc_10, zin_11, zin_12, zkc_13, zin_14, zin_15, zkc_16, zin_17, zin_18, zkc_19, zin_20, zin_21, zin_22, zin_23, zin_24, zin_25, zin_26, zin_27, zin_28, zaa_28, zkc_29, zin_30, zin_31, zkc_32, zin_33, zin_34, zkc_35, zin_36, zin_37, zkc_38, zin_39, zin_40, zin_41, zin_42, zin_43, zin_44, zin_45, zin_46, zin_47, zaa_47, zkc_48, zin_49, zin_50, zkc_51, zin_52, zin_53, zkc_54, zin_55, zin_56, zkc_209, zkc_210, zin_211, zaa_211, zkc_212, zin_213, zkc_214, zkc_215, zin_216, zin_217, zkc_218, zin_219, zin_220, zin_221, zkc_222, zin_223, zaa_223, zin_224, zin_225, zkc_226, zin_227, zin_228, zin_229, zin_230, zin_231, zin_232, zkc_233, zin_234, zaa_234, zin_235, zin_236, zin_237, zin_238, zin_239, zin_240, zin_241, zin_242, zin_243, zin_244, zin_245, zin_246, zin_247, zin_248, zin_249, zin_250, zkc_251, zin_252, zin_253, zkc_374, zin_375, zin_376, zin_377, zin_378, zin_379, zin_380, zin_381, zin_382, zin_383, zin_384, zin_385, zin_386, zin_387, hk0, hk1, hk2, ↓reduceIte, Int.toNat_natCast, z1, z2]
      rw [show ((k : Int) + 1) = ((k + 1 : Nat) : Int) by omega]
      by_cases e : M 2 k = M 21 k
      · have : ¬ (0 ≤ T 1 k ∧ T 1 k ≠ S 1 k) := fun z => z.2 (by
          rw [a1, a2, if_neg (by omega), if_neg (by omega)] at e
          exact e)
        rw [if_neg this, Int.add_zero] at h9
        rw [if_pos e]
        exact h9
      · have : 0 ≤ T 1 k ∧ T 1 k ≠ S 1 k := by
          rw [a1, a2] at e
          by_cases z : T 1 k < 0
          · exfalso
            rw [if_pos z, if_pos (by omega)] at e
            exact e rfl
          · rw [if_neg z, if_neg (by omega)] at e
            exact ⟨by omega, e⟩
        rw [if_pos this] at h9
        rw [if_neg e]
        exact h9
  have h9 := loop 10 0 rfl
  simp only [↓e66, ↓e66_0, ↓e66_1, ↓e66_2, ↓e66_3, ↓e66_5, ↓e66_7, ↓e66_10, ↓e66_11, ↓e66_14, ↓e66_15, ↓e66_16, ↓e66_17, ↓e66_20, ↓e66_21, ↓e66_22, ↓e66_25, ↓e66_28, ↓e66_31, ↓e66_34, ↓e66_35, znl_i, znl_r, znl_n, zcs_0, zcs_1, zcs_2, zcs_3, zcat_0, zcat_1, zcat_2, zcat_3, zbl_0, zbl_1, true_and, and_true, ↓zret_some, ↓zret_none, Nat.reduceAdd, Nat.reduceLeDiff, Nat.reduceMul, eq_self, Int.reduceToNat, Int.reduceLE, Int.reduceLT, Int.reduceNeg, and_self]
  exact h9
/-- what 'makes' leaves alone -/
def Gm (M N : zM) : Prop := (∀ b, b < 374 ∨ 385 ≤ b → N b = M b) ∧ (∀ j, 258 ≤ j ∨ j = 9 → N 375 j = M 375 j) ∧ ∀ j, j ≠ 8 → j ≠ 9 → N 374 j = M 374 j
theorem Gm_Ga {M N P : zM} (h : Gm M N) (k : Ga N P) : Gm M P := ⟨fun b hb => (k.1 b (by omega)).trans (h.1 b hb), fun j hj => (k.2.1 j hj).trans (h.2.1 j hj), fun j h8 h9 => (k.2.2 j h8 h9).trans (h.2.2 j h8 h9)⟩
theorem s_makes (d : Nat) (Q : zQ) (M S : zM) (B : Int) (n : Nat) (hn : n ≤ 40) (hl : 0 ≤ ldr S) (hB : B ≤ 900000000) (hR : RelR M 0 S) (hW : Wb B S)
    (hQ : ∀ N, RelR N 0 (rndN S n) → Gm M N → Q (some (.inl (mvd S (rndN S n) 10))) N) : Sp (d + 8) 144 [.inr (.inr 374), .inl (n : Int)] M Q := by
  have hB0 := Wb_B0 hW
  have hnr : -2147483648 ≤ (n : Int) ∧ (n : Int) < 2147483648 := ⟨by omega, by omega⟩
  have hok := fun k => rndN_ok hW.1 hl hB0 hW.2.2 k
  -- the third part
  have p3 : ∀ N : zM, RelR N 0 (rndN S n) → Gm M N → (∀ j : Nat, j < 10 → N 384 j = S 1 j) → ∀ w2 w3, RT (Sp (d + 7)) 144 Q 55 [some (.inr (.inr 374)), some (.inl (n : Int)), w2, w3] [] N := by
    intro N g1 g2 g3 w2 w3
    have hKp := (hok n).1
    have loop : ∀ q k : Nat, k + q = 10 → RT (Sp (d + 7)) 144 Q 59 [some (.inr (.inr 374)), some (.inl (n : Int)), some (.inl (mvd S (rndN S n) k)), some (.inl (k : Int))] [] N := by
      intro q
      induction q with
      | zero =>
        intro k hk
        obtain rfl : k = 10 := by omega
        have h9 := hQ N g1 g2
        rw [e144_59]
        simp only [↓e144, ↓e144_0, ↓e144_1, ↓e144_2, ↓e144_3, ↓e144_5, ↓e144_8, ↓e144_9, ↓e144_12, ↓e144_13, ↓e144_14, ↓e144_15, ↓e144_18, ↓e144_21, ↓e144_22, ↓e144_23, ↓e144_24, ↓e144_27, ↓e144_30, ↓e144_31, ↓e144_32, ↓e144_35, ↓e144_38, ↓e144_39, ↓e144_40, ↓e144_41, ↓e144_42, ↓e144_45, ↓e144_46, ↓e144_49, ↓e144_52, ↓e144_55, ↓e144_56, ↓e144_57, ↓e144_58, ↓e144_60, ↓e144_62, ↓e144_65, ↓e144_66, ↓e144_67, ↓e144_68, ↓e144_71, ↓e144_74, ↓e144_75, ↓e144_76, ↓e144_77, ↓e144_80, ↓e144_81, ↓e144_84, ↓e144_85, ↓e144_86, ↓e144_89, ↓e144_90, ↓e144_93, ↓e144_94, ↓e144_95, ↓e144_96, ↓e144_99, ↓e144_102, ↓e144_103, znl_i, znl_r, znl_n, zcs_0, zcs_1, zcs_2, zcs_3, zcat_0, zcat_1, zcat_2, zcat_3, zbl_0, zbl_1, true_and, and_true, ↓zret_some, ↓zret_none, Nat.reduceAdd, Nat.reduceLeDiff, Nat.reduceMul, eq_self, Int.reduceToNat, Int.reduceLE, Int.reduceLT, Int.reduceNeg, and_self, zrg, Int.cast_ofNat_Int, ge_iff_le, Int.le_refl, ↓reduceIte]
        exact h9
      | succ q ih =>
        intro k hk
        have hk9 : k < 10 := by omega
        have hk0 : 0 ≤ (k : Int) ∧ (k : Int) < 10 := ⟨by omega, by omega⟩
        have hk1 : ¬ (k : Int) ≥ 10 := by omega
        have hk2 : -2147483648 ≤ (k : Int) ∧ (k : Int) < 2147483648 := ⟨by omega, by omega⟩
        have hzz := zb01 (isM (rndN S n) k)
        have h9 := ih (k + 1) (by omega)
        have hs : mvd S (rndN S n) (k + 1) = mvd S (rndN S n) k + (if 0 ≤ rndN S n 1 k ∧ rndN S n 1 k ≠ S 1 k then 1 else 0) := rfl
        rw [hs] at h9
        have b1 := hW.1.2.1 k hk9
        have b2 := hKp.1.2.1 k hk9
        have z1 : -2147483648 ≤ S 1 k ∧ S 1 k < 2147483648 := by omega
        have z2 : -2147483648 ≤ rndN S n 1 k ∧ rndN S n 1 k < 2147483648 := by omega
        rw [e144_59]
        simp only [↓e144, ↓e144_0, ↓e144_1, ↓e144_2, ↓e144_3, ↓e144_5, ↓e144_8, ↓e144_9, ↓e144_12, ↓e144_13, ↓e144_14, ↓e144_15, ↓e144_18, ↓e144_21, ↓e144_22, ↓e144_23, ↓e144_24, ↓e144_27, ↓e144_30, ↓e144_31, ↓e144_32, ↓e144_35, ↓e144_38, ↓e144_39, ↓e144_40, ↓e144_41, ↓e144_42, ↓e144_45, ↓e144_46, ↓e144_49, ↓e144_52, ↓e144_55, ↓e144_56, ↓e144_57, ↓e144_58, ↓e144_60, ↓e144_62, ↓e144_65, ↓e144_66, ↓e144_67, ↓e144_68, ↓e144_71, ↓e144_75, ↓e144_76, ↓e144_77, ↓e144_80, ↓e144_81, ↓e144_84, ↓e144_85, ↓e144_86, ↓e144_89, ↓e144_90, ↓e144_93, ↓e144_94, ↓e144_95, ↓e144_96, ↓e144_99, ↓e144_102, ↓e144_103, znl_i, znl_r, znl_n, zcs_0, zcs_1, zcs_2, zcs_3, zcat_0, zcat_1, zcat_2, zcat_3, zbl_0, zbl_1, true_and, and_true, ↓zret_some, ↓zret_none, Nat.reduceAdd, Nat.reduceLeDiff, Nat.reduceMul, eq_self, Int.reduceToNat, Int.reduceLE, Int.reduceLT, Int.reduceNeg, and_self, zrg, zkc_0, zin_1, zin_2, zin_3, zin_4, zin_5, zin_6, zin_7, zin_8, zin_9, zaa_9, zkc_10, zin_11, zin_12, zkc_13, zin_14, zin_15, zkc_16, zin_17, zin_18, zkc_19, zin_20, zin_21, zin_22, zin_23, zin_24, zin_25, zin_26, zin_27, zin_28, zaa_28, zkc_29, zin_30, zin_31, zkc_32, zin_33, zin_34, zkc_35, zin_36, zin_37, zkc_38, zin_39, zin_40, zin_41, zin_42, zin_43, zin_44, zin_45, zin_46, zin_47, zaa_47, zkc_48, zin_49, zin_50, zkc_51, zin_52, zin_53, zkc_54, zin_55, zin_56, zkc_209, zkc_210, zin_211, zaa_211, zkc_212, zin_213, zkc_214, zkc_215, zin_216, zin_217, zkc_218, zin_219, zin_220, zin_221, zkc_222, zin_223, zaa_223, zin_224, zin_225, zkc_226, zin_227, zin_228, zin_229, zin_230, zin_231, zin_232, zkc_233, zin_234, zaa_234, zin_235, zin_236, zin_237, zin_238, zin_239, zin_240, zin_241, zin_242, zin_243, zin_244, zin_245, zin_246, zin_247, zin_248, zin_249, zin_250, zkc_251, zin_252, zin_253, zkc_374, zin_375, zin_376, zin_377, zin_378, zin_379, zin_380, zin_381, zin_382, zin_383, zin_384, zin_385, zin_386, zin_387, hk1, hk2, ↓reduceIte, ↓s_isMember (d + 5) _ N _ k g1 hKp.1 hk2, hzz]
        rw [show ((k : Int) + 1) = ((k + 1 : Nat) : Int) by omega]
        by_cases a : isM (rndN S n) k
        · have a0 : 0 ≤ rndN S n 1 k := by have := a.2.2; rw [Int.toNat_natCast] at this; exact this
          have hcell : N 375 (12 + 6 * k + 0) = rndN S n 1 k := RelR_row g1 hk9 (mem_lt hKp.1 hk9 a0) (by omega)
          rw [show zb (isM (rndN S n) k) = 1 from if_pos a, if_neg (by omega)]
          simp only [↓e144, ↓e144_0, ↓e144_1, ↓e144_2, ↓e144_3, ↓e144_5, ↓e144_8, ↓e144_9, ↓e144_12, ↓e144_13, ↓e144_14, ↓e144_15, ↓e144_18, ↓e144_21, ↓e144_22, ↓e144_23, ↓e144_24, ↓e144_27, ↓e144_30, ↓e144_31, ↓e144_32, ↓e144_35, ↓e144_38, ↓e144_39, ↓e144_40, ↓e144_41, ↓e144_42, ↓e144_45, ↓e144_46, ↓e144_49, ↓e144_52, ↓e144_55, ↓e144_56, ↓e144_57, ↓e144_58, ↓e144_60, ↓e144_62, ↓e144_65, ↓e144_66, ↓e144_67, ↓e144_68, ↓e144_71, ↓e144_74, ↓e144_75, ↓e144_76, ↓e144_77, ↓e144_80, ↓e144_81, ↓e144_84, ↓e144_85, ↓e144_86, ↓e144_89, ↓e144_90, ↓e144_93, ↓e144_94, ↓e144_95, ↓e144_96, ↓e144_99, ↓e144_102, ↓e144_103, znl_i, znl_r, znl_n, zcs_0, zcs_1, zcs_2, zcs_3, zcat_0, zcat_1, zcat_2, zcat_3, zbl_0, zbl_1, true_and, and_true, ↓zret_some, ↓zret_none, Nat.reduceAdd, Nat.reduceLeDiff, Nat.reduceMul, eq_self, Int.reduceToNat, Int.reduceLE, Int.reduceLT, Int.reduceNeg, and_self, zrg, zkc_0, zin_1, zin_2, zin_3, zin_4, zin_5, zin_6, zin_7, zin_8, zin_9, zaa_9, zkc_10, zin_11, zin_12, zkc_13, zin_14, zin_15, zkc_16, zin_17, zin_18, zkc_19, zin_20, zin_21, zin_22, zin_23, zin_24, zin_25, zin_26, zin_27, zin_28, zaa_28, zkc_29, zin_30, zin_31, zkc_32, zin_33, zin_34, zkc_35, zin_36, zin_37, zkc_38, zin_39, zin_40, zin_41, zin_42, zin_43, zin_44, zin_45, zin_46, zin_47, zaa_47, zkc_48, zin_49, zin_50, zkc_51, zin_52, zin_53, zkc_54, zin_55, zin_56, zkc_209, zkc_210, zin_211, zaa_211, zkc_212, zin_213, zkc_214, zkc_215, zin_216, zin_217, zkc_218, zin_219, zin_220, zin_221, zkc_222, zin_223, zaa_223, zin_224, zin_225, zkc_226, zin_227, zin_228, zin_229, zin_230, zin_231, zin_232, zkc_233, zin_234, zaa_234, zin_235, zin_236, zin_237, zin_238, zin_239, zin_240, zin_241, zin_242, zin_243, zin_244, zin_245, zin_246, zin_247, zin_248, zin_249, zin_250, zkc_251, zin_252, zin_253, zkc_374, zin_375, zin_376, zin_377, zin_378, zin_379, zin_380, zin_381, zin_382, zin_383, zin_384, zin_385, zin_386, zin_387, ↓s_of0 (d + 6) _ N k hk9, hcell, hk0, Int.toNat_natCast, g3 k hk9, z1, z2]
          rw [show ((k : Int) + 1) = ((k + 1 : Nat) : Int) by omega]
          by_cases e : rndN S n 1 k = S 1 k
          · rw [if_neg (fun z => z.2 e)] at h9
            rw [if_pos e]
            exact h9
          · rw [if_pos ⟨a0, e⟩] at h9
            rw [if_neg e]
            exact h9
        · rw [show zb (isM (rndN S n) k) = 0 from if_neg a, if_pos rfl]
          rw [if_neg (fun z => a ⟨by omega, by omega, by rw [Int.toNat_natCast]; exact z.1⟩)] at h9
          exact h9
    have h9 := loop 10 0 rfl
    simp only [↓e144, ↓e144_0, ↓e144_1, ↓e144_2, ↓e144_3, ↓e144_5, ↓e144_8, ↓e144_9, ↓e144_12, ↓e144_13, ↓e144_14, ↓e144_15, ↓e144_18, ↓e144_21, ↓e144_22, ↓e144_23, ↓e144_24, ↓e144_27, ↓e144_30, ↓e144_31, ↓e144_32, ↓e144_35, ↓e144_38, ↓e144_39, ↓e144_40, ↓e144_41, ↓e144_42, ↓e144_45, ↓e144_46, ↓e144_49, ↓e144_52, ↓e144_55, ↓e144_56, ↓e144_57, ↓e144_58, ↓e144_60, ↓e144_62, ↓e144_65, ↓e144_66, ↓e144_67, ↓e144_68, ↓e144_71, ↓e144_74, ↓e144_75, ↓e144_76, ↓e144_77, ↓e144_80, ↓e144_81, ↓e144_84, ↓e144_85, ↓e144_86, ↓e144_89, ↓e144_90, ↓e144_93, ↓e144_94, ↓e144_95, ↓e144_96, ↓e144_99, ↓e144_102, ↓e144_103, znl_i, znl_r, znl_n, zcs_0, zcs_1, zcs_2, zcs_3, zcat_0, zcat_1, zcat_2, zcat_3, zbl_0, zbl_1, true_and, and_true, ↓zret_some, ↓zret_none, Nat.reduceAdd, Nat.reduceLeDiff, Nat.reduceMul, eq_self, Int.reduceToNat, Int.reduceLE, Int.reduceLT, Int.reduceNeg, and_self]
    exact h9
  -- the second part
  have p2 : ∀ q k : Nat, k + q = n → ∀ N : zM, RelR N 0 (rndN S k) → Gm M N → (∀ j : Nat, j < 10 → N 384 j = S 1 j) → ∀ w3, RT (Sp (d + 7)) 144 Q 40 [some (.inr (.inr 374)), some (.inl (n : Int)), some (.inl (k : Int)), w3] [] N := by
    intro q
    induction q with
    | zero =>
      intro k hk N g1 g2 g3 w3
      obtain rfl : k = n := by omega
      have h9 := p3 N g1 g2 g3 (some (.inl (k : Int))) w3
      rw [e144_40]
      simp only [↓e144, ↓e144_0, ↓e144_1, ↓e144_2, ↓e144_3, ↓e144_5, ↓e144_8, ↓e144_9, ↓e144_12, ↓e144_13, ↓e144_14, ↓e144_15, ↓e144_18, ↓e144_21, ↓e144_22, ↓e144_23, ↓e144_24, ↓e144_27, ↓e144_30, ↓e144_31, ↓e144_32, ↓e144_35, ↓e144_38, ↓e144_39, ↓e144_41, ↓e144_42, ↓e144_45, ↓e144_46, ↓e144_49, ↓e144_52, ↓e144_56, ↓e144_57, ↓e144_58, ↓e144_59, ↓e144_60, ↓e144_62, ↓e144_65, ↓e144_66, ↓e144_67, ↓e144_68, ↓e144_71, ↓e144_74, ↓e144_75, ↓e144_76, ↓e144_77, ↓e144_80, ↓e144_81, ↓e144_84, ↓e144_85, ↓e144_86, ↓e144_89, ↓e144_90, ↓e144_93, ↓e144_94, ↓e144_95, ↓e144_96, ↓e144_99, ↓e144_102, ↓e144_103, znl_i, znl_r, znl_n, zcs_0, zcs_1, zcs_2, zcs_3, zcat_0, zcat_1, zcat_2, zcat_3, zbl_0, zbl_1, true_and, and_true, ↓zret_some, ↓zret_none, Nat.reduceAdd, Nat.reduceLeDiff, Nat.reduceMul, eq_self, Int.reduceToNat, Int.reduceLE, Int.reduceLT, Int.reduceNeg, and_self, zrg, hnr, ge_iff_le, Int.le_refl, ↓reduceIte]
      exact h9
    | succ q ih =>
      intro k hk N g1 g2 g3 w3
      have hk1 : ¬ (k : Int) ≥ (n : Int) := by omega
      have hk2 : -2147483648 ≤ (k : Int) ∧ (k : Int) < 2147483648 := ⟨by omega, by omega⟩
      obtain ⟨h1, h2⟩ := hok k
      rw [e144_40]
      simp only [↓e144, ↓e144_0, ↓e144_1, ↓e144_2, ↓e144_3, ↓e144_5, ↓e144_8, ↓e144_9, ↓e144_12, ↓e144_13, ↓e144_14, ↓e144_15, ↓e144_18, ↓e144_21, ↓e144_22, ↓e144_23, ↓e144_24, ↓e144_27, ↓e144_30, ↓e144_31, ↓e144_32, ↓e144_35, ↓e144_38, ↓e144_39, ↓e144_41, ↓e144_42, ↓e144_45, ↓e144_46, ↓e144_49, ↓e144_52, ↓e144_56, ↓e144_57, ↓e144_58, ↓e144_59, ↓e144_60, ↓e144_62, ↓e144_65, ↓e144_66, ↓e144_67, ↓e144_68, ↓e144_71, ↓e144_74, ↓e144_75, ↓e144_76, ↓e144_77, ↓e144_80, ↓e144_81, ↓e144_84, ↓e144_85, ↓e144_86, ↓e144_89, ↓e144_90, ↓e144_93, ↓e144_94, ↓e144_95, ↓e144_96, ↓e144_99, ↓e144_102, ↓e144_103, znl_i, znl_r, znl_n, zcs_0, zcs_1, zcs_2, zcs_3, zcat_0, zcat_1, zcat_2, zcat_3, zbl_0, zbl_1, true_and, and_true, ↓zret_some, ↓zret_none, Nat.reduceAdd, Nat.reduceLeDiff, Nat.reduceMul, eq_self, Int.reduceToNat, Int.reduceLE, Int.reduceLT, Int.reduceNeg, and_self, zrg, zkc_0, zin_1, zin_2, zin_3, zin_4, zin_5, zin_6, zin_7, zin_8, zin_9, zaa_9, zkc_10, zin_11, zin_12, zkc_13, zin_14, zin_15, zkc_16, zin_17, zin_18, zkc_19, zin_20, zin_21, zin_22, zin_23, zin_24, zin_25, zin_26, zin_27, zin_28, zaa_28, zkc_29, zin_30, zin_31, zkc_32, zin_33, zin_34, zkc_35, zin_36, zin_37, zkc_38, zin_39, zin_40, zin_41, zin_42, zin_43, zin_44, zin_45, zin_46, zin_47, zaa_47, zkc_48, zin_49, zin_50, zkc_51, zin_52, zin_53, zkc_54, zin_55, zin_56, zkc_209, zkc_210, zin_211, zaa_211, zkc_212, zin_213, zkc_214, zkc_215, zin_216, zin_217, zkc_218, zin_219, zin_220, zin_221, zkc_222, zin_223, zaa_223, zin_224, zin_225, zkc_226, zin_227, zin_228, zin_229, zin_230, zin_231, zin_232, zkc_233, zin_234, zaa_234, zin_235, zin_236, zin_237, zin_238, zin_239, zin_240, zin_241, zin_242, zin_243, zin_244, zin_245, zin_246, zin_247, zin_248, zin_249, zin_250, zkc_251, zin_252, zin_253, zkc_374, zin_375, zin_376, zin_377, zin_378, zin_379, zin_380, zin_381, zin_382, zin_383, zin_384, zin_385, zin_386, zin_387, hnr, hk1, hk2, ↓reduceIte]
      refine s_round d _ N (rndN S k) (B + 10 * k) (by rw [h1.2.1]; exact hl) (by omega) h2 (by omega) g1 h1.1 (fun N2 u1 u2 => ?_)
      rw [zret_none]
      have h9 := ih (k + 1) (by omega) N2 u1 (Gm_Ga g2 u2) (fun j hj => by rw [u2.1 384 (by omega)]; exact g3 j hj) w3
      simp only [↓e144, ↓e144_0, ↓e144_1, ↓e144_2, ↓e144_3, ↓e144_5, ↓e144_8, ↓e144_9, ↓e144_12, ↓e144_13, ↓e144_14, ↓e144_15, ↓e144_18, ↓e144_21, ↓e144_22, ↓e144_23, ↓e144_24, ↓e144_27, ↓e144_30, ↓e144_31, ↓e144_32, ↓e144_35, ↓e144_38, ↓e144_39, ↓e144_41, ↓e144_42, ↓e144_45, ↓e144_46, ↓e144_49, ↓e144_52, ↓e144_55, ↓e144_56, ↓e144_57, ↓e144_58, ↓e144_59, ↓e144_60, ↓e144_62, ↓e144_65, ↓e144_66, ↓e144_67, ↓e144_68, ↓e144_71, ↓e144_74, ↓e144_75, ↓e144_76, ↓e144_77, ↓e144_80, ↓e144_81, ↓e144_84, ↓e144_85, ↓e144_86, ↓e144_89, ↓e144_90, ↓e144_93, ↓e144_94, ↓e144_95, ↓e144_96, ↓e144_99, ↓e144_102, ↓e144_103, znl_i, znl_r, znl_n, zcs_0, zcs_1, zcs_2, zcs_3, zcat_0, zcat_1, zcat_2, zcat_3, zbl_0, zbl_1, true_and, and_true, ↓zret_some, ↓zret_none, Nat.reduceAdd, Nat.reduceLeDiff, Nat.reduceMul, eq_self, Int.reduceToNat, Int.reduceLE, Int.reduceLT, Int.reduceNeg, and_self]
      rw [show ((k : Int) + 1) = ((k + 1 : Nat) : Int) by omega]
      exact h9
  -- the first part
  have p1 : ∀ q k : Nat, k + q = 10 → ∀ N : zM, (∀ b, b ≠ 384 → N b = M b) → (∀ j : Nat, j < k → N 384 j = S 1 j) → ∀ w3, RT (Sp (d + 7)) 144 Q 2 [some (.inr (.inr 374)), some (.inl (n : Int)), some (.inl (k : Int)), w3] [] N := by
    intro q
    induction q with
    | zero =>
      intro k hk N g1 g2 w3
      obtain rfl : k = 10 := by omega
      have h9 := p2 n 0 (by omega) N (RelR_congr (g1 375 (by omega)) hR) ⟨fun b hb => g1 b (by omega), fun j _ => by rw [g1 375 (by omega)], fun j _ _ => by rw [g1 374 (by omega)]⟩ g2 w3
      rw [e144_2]
      simp only [↓e144, ↓e144_0, ↓e144_1, ↓e144_3, ↓e144_5, ↓e144_8, ↓e144_9, ↓e144_12, ↓e144_13, ↓e144_14, ↓e144_15, ↓e144_18, ↓e144_21, ↓e144_22, ↓e144_23, ↓e144_24, ↓e144_27, ↓e144_30, ↓e144_31, ↓e144_32, ↓e144_35, ↓e144_38, ↓e144_39, ↓e144_41, ↓e144_42, ↓e144_45, ↓e144_46, ↓e144_49, ↓e144_52, ↓e144_55, ↓e144_56, ↓e144_57, ↓e144_58, ↓e144_59, ↓e144_60, ↓e144_62, ↓e144_65, ↓e144_66, ↓e144_67, ↓e144_68, ↓e144_71, ↓e144_74, ↓e144_75, ↓e144_76, ↓e144_77, ↓e144_80, ↓e144_81, ↓e144_84, ↓e144_85, ↓e144_86, ↓e144_89, ↓e144_90, ↓e144_93, ↓e144_94, ↓e144_95, ↓e144_96, ↓e144_99, ↓e144_102, ↓e144_103, znl_i, znl_r, znl_n, zcs_0, zcs_1, zcs_2, zcs_3, zcat_0, zcat_1, zcat_2, zcat_3, zbl_0, zbl_1, true_and, and_true, ↓zret_some, ↓zret_none, Nat.reduceAdd, Nat.reduceLeDiff, Nat.reduceMul, eq_self, Int.reduceToNat, Int.reduceLE, Int.reduceLT, Int.reduceNeg, and_self, zrg, Int.cast_ofNat_Int, ge_iff_le, Int.le_refl, ↓reduceIte]
      exact h9
    | succ q ih =>
      intro k hk N g1 g2 w3
      have hk9 : k < 10 := by omega
      have hk0 : 0 ≤ (k : Int) ∧ (k : Int) < 10 := ⟨by omega, by omega⟩
      have hk1 : ¬ (k : Int) ≥ 10 := by omega
      have hk2 : -2147483648 ≤ (k : Int) ∧ (k : Int) < 2147483648 := ⟨by omega, by omega⟩
      have hzz := zb01 (isM S k)
      have hRN := RelR_congr (g1 375 (by omega)) hR
      have h9 := ih (k + 1) (by omega) (zup N 384 k (S 1 k)) (fun b hb => by rw [zup_ne _ _ _ hb, g1 b hb]) (fun j hj => by
        by_cases z : j = k
        · subst z; exact zup_at _ _ _ _
        · rw [zup_off _ _ (Or.inr z)]; exact g2 j (by omega)) w3
      have b1 := hW.1.2.1 k hk9
      rw [e144_2]
      simp only [↓e144, ↓e144_0, ↓e144_1, ↓e144_3, ↓e144_5, ↓e144_8, ↓e144_9, ↓e144_12, ↓e144_13, ↓e144_14, ↓e144_15, ↓e144_18, ↓e144_22, ↓e144_23, ↓e144_24, ↓e144_27, ↓e144_30, ↓e144_31, ↓e144_32, ↓e144_35, ↓e144_38, ↓e144_39, ↓e144_40, ↓e144_41, ↓e144_42, ↓e144_45, ↓e144_46, ↓e144_49, ↓e144_52, ↓e144_55, ↓e144_56, ↓e144_57, ↓e144_58, ↓e144_59, ↓e144_60, ↓e144_62, ↓e144_65, ↓e144_66, ↓e144_67, ↓e144_68, ↓e144_71, ↓e144_74, ↓e144_75, ↓e144_76, ↓e144_77, ↓e144_80, ↓e144_81, ↓e144_84, ↓e144_85, ↓e144_86, ↓e144_89, ↓e144_90, ↓e144_93, ↓e144_94, ↓e144_95, ↓e144_96, ↓e144_99, ↓e144_102, ↓e144_103, znl_i, znl_r, znl_n, zcs_0, zcs_1, zcs_2, zcs_3, zcat_0, zcat_1, zcat_2, zcat_3, zbl_0, zbl_1, true_and, and_true, ↓zret_some, ↓zret_none, Nat.reduceAdd, Nat.reduceLeDiff, Nat.reduceMul, eq_self, Int.reduceToNat, Int.reduceLE, Int.reduceLT, Int.reduceNeg, and_self, zrg, zkc_0, zin_1, zin_2, zin_3, zin_4, zin_5, zin_6, zin_7, zin_8, zin_9, zaa_9, zkc_10, zin_11, zin_12, zkc_13, zin_14, zin_15, zkc_16, zin_17, zin_18, zkc_19, zin_20, zin_21, zin_22, zin_23, zin_24, zin_25, zin_26, zin_27, zin_28, zaa_28, zkc_29, zin_30, zin_31, zkc_32, zin_33, zin_34, zkc_35, zin_36, zin_37, zkc_38, zin_39, zin_40, zin_41, zin_42, zin_43, zin_44, zin_45, zin_46, zin_47, zaa_47, zkc_48, zin_49, zin_50, zkc_51, zin_52, zin_53, zkc_54, zin_55, zin_56, zkc_209, zkc_210, zin_211, zaa_211, zkc_212, zin_213, zkc_214, zkc_215, zin_216, zin_217, zkc_218, zin_219, zin_220, zin_221, zkc_222, zin_223, zaa_223, zin_224, zin_225, zkc_226, zin_227, zin_228, zin_229, zin_230, zin_231, zin_232, zkc_233, zin_234, zaa_234, zin_235, zin_236, zin_237, zin_238, zin_239, zin_240, zin_241, zin_242, zin_243, zin_244, zin_245, zin_246, zin_247, zin_248, zin_249, zin_250, zkc_251, zin_252, zin_253, zkc_374, zin_375, zin_376, zin_377, zin_378, zin_379, zin_380, zin_381, zin_382, zin_383, zin_384, zin_385, zin_386, zin_387, hk0, hk1, hk2, ↓reduceIte, ↓s_isMember (d + 5) _ N _ k hRN hW.1 hk2, hzz, Int.toNat_natCast]
      rw [show ((k : Int) + 1) = ((k + 1 : Nat) : Int) by omega]
      by_cases a : isM S k
      · have a0 : 0 ≤ S 1 k := by have := a.2.2; rw [Int.toNat_natCast] at this; exact this
        have hcell : N 375 (12 + 6 * k + 0) = S 1 k := RelR_row hRN hk9 (mem_lt hW.1 hk9 a0) (by omega)
        rw [show zb (isM S k) = 1 from if_pos a, if_neg (by omega)]
        simp only [↓e144, ↓e144_0, ↓e144_1, ↓e144_3, ↓e144_5, ↓e144_8, ↓e144_9, ↓e144_12, ↓e144_13, ↓e144_14, ↓e144_15, ↓e144_18, ↓e144_21, ↓e144_22, ↓e144_23, ↓e144_24, ↓e144_27, ↓e144_30, ↓e144_31, ↓e144_32, ↓e144_35, ↓e144_38, ↓e144_39, ↓e144_40, ↓e144_41, ↓e144_42, ↓e144_45, ↓e144_46, ↓e144_49, ↓e144_52, ↓e144_55, ↓e144_56, ↓e144_57, ↓e144_58, ↓e144_59, ↓e144_60, ↓e144_62, ↓e144_65, ↓e144_66, ↓e144_67, ↓e144_68, ↓e144_71, ↓e144_74, ↓e144_75, ↓e144_76, ↓e144_77, ↓e144_80, ↓e144_81, ↓e144_84, ↓e144_85, ↓e144_86, ↓e144_89, ↓e144_90, ↓e144_93, ↓e144_94, ↓e144_95, ↓e144_96, ↓e144_99, ↓e144_102, ↓e144_103, znl_i, znl_r, znl_n, zcs_0, zcs_1, zcs_2, zcs_3, zcat_0, zcat_1, zcat_2, zcat_3, zbl_0, zbl_1, true_and, and_true, ↓zret_some, ↓zret_none, Nat.reduceAdd, Nat.reduceLeDiff, Nat.reduceMul, eq_self, Int.reduceToNat, Int.reduceLE, Int.reduceLT, Int.reduceNeg, and_self, zrg, zkc_0, zin_1, zin_2, zin_3, zin_4, zin_5, zin_6, zin_7, zin_8, zin_9, zaa_9, zkc_10, zin_11, zin_12, zkc_13, zin_14, zin_15, zkc_16, zin_17, zin_18, zkc_19, zin_20, zin_21, zin_22, zin_23, zin_24, zin_25, zin_26, zin_27, zin_28, zaa_28, zkc_29, zin_30, zin_31, zkc_32, zin_33, zin_34, zkc_35, zin_36, zin_37, zkc_38, zin_39, zin_40, zin_41, zin_42, zin_43, zin_44, zin_45, zin_46, zin_47, zaa_47, zkc_48, zin_49, zin_50, zkc_51, zin_52, zin_53, zkc_54, zin_55, zin_56, zkc_209, zkc_210, zin_211, zaa_211, zkc_212, zin_213, zkc_214, zkc_215, zin_216, zin_217, zkc_218, zin_219, zin_220, zin_221, zkc_222, zin_223, zaa_223, zin_224, zin_225, zkc_226, zin_227, zin_228, zin_229, zin_230, zin_231, zin_232, zkc_233, zin_234, zaa_234, zin_235, zin_236, zin_237, zin_238, zin_239, zin_240, zin_241, zin_242, zin_243, zin_244, zin_245, zin_246, zin_247, zin_248, zin_249, zin_250, zkc_251, zin_252, zin_253, zkc_374, zin_375, zin_376, zin_377, zin_378, zin_379, zin_380, zin_381, zin_382, zin_383, zin_384, zin_385, zin_386, zin_387, ↓s_of0 (d + 6) _ N k hk9, hcell, hk0, Int.toNat_natCast]
        rw [show ((k : Int) + 1) = ((k + 1 : Nat) : Int) by omega]
        exact h9
      · have e : S 1 k = -1 := by
          have : ¬ 0 ≤ S 1 k := fun z => a ⟨by omega, by omega, by rw [Int.toNat_natCast]; exact z⟩
          omega
        rw [e] at h9
        rw [show zb (isM S k) = 0 from if_neg a, if_pos rfl]
        exact h9
  have h9 := p1 10 0 rfl M (fun _ _ => rfl) (fun j hj => absurd hj (Nat.not_lt_zero j)) none
  simp only [↓e144, ↓e144_0, ↓e144_1, ↓e144_3, ↓e144_5, ↓e144_8, ↓e144_9, ↓e144_12, ↓e144_13, ↓e144_14, ↓e144_15, ↓e144_18, ↓e144_21, ↓e144_22, ↓e144_23, ↓e144_24, ↓e144_27, ↓e144_30, ↓e144_31, ↓e144_32, ↓e144_35, ↓e144_38, ↓e144_39, ↓e144_40, ↓e144_41, ↓e144_42, ↓e144_45, ↓e144_46, ↓e144_49, ↓e144_52, ↓e144_55, ↓e144_56, ↓e144_57, ↓e144_58, ↓e144_59, ↓e144_60, ↓e144_62, ↓e144_65, ↓e144_66, ↓e144_67, ↓e144_68, ↓e144_71, ↓e144_74, ↓e144_75, ↓e144_76, ↓e144_77, ↓e144_80, ↓e144_81, ↓e144_84, ↓e144_85, ↓e144_86, ↓e144_89, ↓e144_90, ↓e144_93, ↓e144_94, ↓e144_95, ↓e144_96, ↓e144_99, ↓e144_102, ↓e144_103, znl_i, znl_r, znl_n, zcs_0, zcs_1, zcs_2, zcs_3, zcat_0, zcat_1, zcat_2, zcat_3, zbl_0, zbl_1, true_and, and_true, ↓zret_some, ↓zret_none, Nat.reduceAdd, Nat.reduceLeDiff, Nat.reduceMul, eq_self, Int.reduceToNat, Int.reduceLE, Int.reduceLT, Int.reduceNeg, and_self]
  exact h9
theorem j_rounds (d : Nat) (B : Int) (X : zX) (M : zM) (x : Int) (hx : zrg x) (hB : B ≤ 900000000) (hC : IC X M) (hI : IR X M) (hX : WX B X) : Jt d B 75 145 [.inl x] M := by
  have hW := hX.1.1
  have hx' := hx
  simp only [zrg] at hx'
  have hB0 := Wb_B0 hX.1
  have hti := fun Q P => s_in (d + 8) Q P x 1 40 hx ⟨by omega, by omega⟩ ⟨by omega, by omega⟩
  obtain ⟨l1, l2, l3⟩ := ldr_rng hW
  have hlr : -2147483648 ≤ ldr (X 0) ∧ ldr (X 0) < 2147483648 := ⟨by omega, by omega⟩
  unfold Jt
  by_cases hin : 1 ≤ x ∧ x ≤ 40
  · simp only [show zb (1 ≤ x ∧ x ≤ 40) = 1 from if_pos hin] at hti
    have hlv := live_C hC.1 hW
    have hcl := cnt_le (X 0) 10
    have hcn := cnt_nn (X 0) 10
    have hcr : -2147483648 ≤ cntM (X 0) 10 ∧ cntM (X 0) 10 < 2147483648 := by omega
    by_cases hl : ldr (X 0) < 0
    · have hz := (cnt_ldr hW).mpr hl
      simp only [↓e75, ↓e75_0, ↓e75_1, ↓e75_2, ↓e75_5, ↓e75_6, ↓e75_8, ↓e75_11, ↓e75_13, ↓e75_14, ↓e75_15, ↓e75_18, ↓e75_21, ↓e75_24, ↓e75_26, ↓e75_27, ↓e75_28, ↓e75_31, ↓e75_32, ↓e75_35, ↓e75_38, ↓e75_39, ↓e75_42, ↓e75_43, ↓e75_46, ↓e75_49, ↓e75_50, ↓e75_51, ↓e75_52, ↓e75_53, ↓e75_56, ↓e75_57, ↓e75_60, ↓e75_63, ↓e75_66, ↓e75_69, ↓e75_70, ↓e75_73, ↓e75_74, ↓e75_77, ↓e75_80, znl_i, znl_r, znl_n, zcs_0, zcs_1, zcs_2, zcs_3, zcat_0, zcat_1, zcat_2, zcat_3, zbl_0, zbl_1, true_and, and_true, ↓zret_some, ↓zret_none, Nat.reduceAdd, Nat.reduceLeDiff, Nat.reduceMul, eq_self, Int.reduceToNat, Int.reduceLE, Int.reduceLT, Int.reduceNeg, and_self, zrg, zkc_0, zin_1, zin_2, zin_3, zin_4, zin_5, zin_6, zin_7, zin_8, zin_9, zaa_9, zkc_10, zin_11, zin_12, zkc_13, zin_14, zin_15, zkc_16, zin_17, zin_18, zkc_19, zin_20, zin_21, zin_22, zin_23, zin_24, zin_25, zin_26, zin_27, zin_28, zaa_28, zkc_29, zin_30, zin_31, zkc_32, zin_33, zin_34, zkc_35, zin_36, zin_37, zkc_38, zin_39, zin_40, zin_41, zin_42, zin_43, zin_44, zin_45, zin_46, zin_47, zaa_47, zkc_48, zin_49, zin_50, zkc_51, zin_52, zin_53, zkc_54, zin_55, zin_56, zkc_209, zkc_210, zin_211, zaa_211, zkc_212, zin_213, zkc_214, zkc_215, zin_216, zin_217, zkc_218, zin_219, zin_220, zin_221, zkc_222, zin_223, zaa_223, zin_224, zin_225, zkc_226, zin_227, zin_228, zin_229, zin_230, zin_231, zin_232, zkc_233, zin_234, zaa_234, zin_235, zin_236, zin_237, zin_238, zin_239, zin_240, zin_241, zin_242, zin_243, zin_244, zin_245, zin_246, zin_247, zin_248, zin_249, zin_250, zkc_251, zin_252, zin_253, zkc_374, zin_375, zin_376, zin_377, zin_378, zin_379, zin_380, zin_381, zin_382, zin_383, zin_384, zin_385, zin_386, zin_387, hx', show ¬ x < 1 by omega, show x ≤ 40 by omega, ↓reduceIte, ↓s_living (d + 8) _ M 0 zkc_0, Nat.zero_add, hlv, hz, ne_eq, not_true_eq_false]
      refine JC_i ?_
      simp only [↓e145, ↓e145_0, ↓e145_1, ↓e145_2, ↓e145_4, ↓e145_7, ↓e145_10, ↓e145_12, ↓e145_13, ↓e145_14, ↓e145_17, ↓e145_20, ↓e145_22, ↓e145_23, ↓e145_24, ↓e145_27, ↓e145_28, ↓e145_29, ↓e145_32, znl_i, znl_r, znl_n, zcs_0, zcs_1, zcs_2, zcs_3, zcat_0, zcat_1, zcat_2, zcat_3, zbl_0, zbl_1, true_and, and_true, ↓zret_some, ↓zret_none, Nat.reduceAdd, Nat.reduceLeDiff, Nat.reduceMul, eq_self, Int.reduceToNat, Int.reduceLE, Int.reduceLT, Int.reduceNeg, and_self, zrg, zkc_0, zin_1, zin_2, zin_3, zin_4, zin_5, zin_6, zin_7, zin_8, zin_9, zaa_9, zkc_10, zin_11, zin_12, zkc_13, zin_14, zin_15, zkc_16, zin_17, zin_18, zkc_19, zin_20, zin_21, zin_22, zin_23, zin_24, zin_25, zin_26, zin_27, zin_28, zaa_28, zkc_29, zin_30, zin_31, zkc_32, zin_33, zin_34, zkc_35, zin_36, zin_37, zkc_38, zin_39, zin_40, zin_41, zin_42, zin_43, zin_44, zin_45, zin_46, zin_47, zaa_47, zkc_48, zin_49, zin_50, zkc_51, zin_52, zin_53, zkc_54, zin_55, zin_56, zkc_209, zkc_210, zin_211, zaa_211, zkc_212, zin_213, zkc_214, zkc_215, zin_216, zin_217, zkc_218, zin_219, zin_220, zin_221, zkc_222, zin_223, zaa_223, zin_224, zin_225, zkc_226, zin_227, zin_228, zin_229, zin_230, zin_231, zin_232, zkc_233, zin_234, zaa_234, zin_235, zin_236, zin_237, zin_238, zin_239, zin_240, zin_241, zin_242, zin_243, zin_244, zin_245, zin_246, zin_247, zin_248, zin_249, zin_250, zkc_251, zin_252, zin_253, zkc_374, zin_375, zin_376, zin_377, zin_378, zin_379, zin_380, zin_381, zin_382, zin_383, zin_384, zin_385, zin_386, zin_387, ↓hti, show ¬ (1 : Int) = 0 by omega, ne_eq, not_false_eq_true, ↓reduceIte, ↓s_rLeader (d + 6) _ M (X 0) hI.1.1 hW, hlr, show ¬ ldr (X 0) ≥ 0 by omega]
      exact JE_i hC hI hX
    · have hz : ¬ cntM (X 0) 10 = 0 := fun z => hl ((cnt_ldr hW).mp z)
      obtain ⟨n, rfl⟩ : ∃ n : Nat, x = n := ⟨x.toNat, by omega⟩
      simp only [↓e75, ↓e75_0, ↓e75_1, ↓e75_2, ↓e75_5, ↓e75_6, ↓e75_8, ↓e75_11, ↓e75_13, ↓e75_14, ↓e75_15, ↓e75_18, ↓e75_21, ↓e75_24, ↓e75_26, ↓e75_27, ↓e75_28, ↓e75_31, ↓e75_32, ↓e75_35, ↓e75_38, ↓e75_39, ↓e75_42, ↓e75_43, ↓e75_46, ↓e75_49, ↓e75_50, ↓e75_51, ↓e75_52, ↓e75_53, ↓e75_56, ↓e75_57, ↓e75_60, ↓e75_63, ↓e75_66, ↓e75_69, ↓e75_70, ↓e75_73, ↓e75_74, ↓e75_77, ↓e75_80, znl_i, znl_r, znl_n, zcs_0, zcs_1, zcs_2, zcs_3, zcat_0, zcat_1, zcat_2, zcat_3, zbl_0, zbl_1, true_and, and_true, ↓zret_some, ↓zret_none, Nat.reduceAdd, Nat.reduceLeDiff, Nat.reduceMul, eq_self, Int.reduceToNat, Int.reduceLE, Int.reduceLT, Int.reduceNeg, and_self, zrg, zkc_0, zin_1, zin_2, zin_3, zin_4, zin_5, zin_6, zin_7, zin_8, zin_9, zaa_9, zkc_10, zin_11, zin_12, zkc_13, zin_14, zin_15, zkc_16, zin_17, zin_18, zkc_19, zin_20, zin_21, zin_22, zin_23, zin_24, zin_25, zin_26, zin_27, zin_28, zaa_28, zkc_29, zin_30, zin_31, zkc_32, zin_33, zin_34, zkc_35, zin_36, zin_37, zkc_38, zin_39, zin_40, zin_41, zin_42, zin_43, zin_44, zin_45, zin_46, zin_47, zaa_47, zkc_48, zin_49, zin_50, zkc_51, zin_52, zin_53, zkc_54, zin_55, zin_56, zkc_209, zkc_210, zin_211, zaa_211, zkc_212, zin_213, zkc_214, zkc_215, zin_216, zin_217, zkc_218, zin_219, zin_220, zin_221, zkc_222, zin_223, zaa_223, zin_224, zin_225, zkc_226, zin_227, zin_228, zin_229, zin_230, zin_231, zin_232, zkc_233, zin_234, zaa_234, zin_235, zin_236, zin_237, zin_238, zin_239, zin_240, zin_241, zin_242, zin_243, zin_244, zin_245, zin_246, zin_247, zin_248, zin_249, zin_250, zkc_251, zin_252, zin_253, zkc_374, zin_375, zin_376, zin_377, zin_378, zin_379, zin_380, zin_381, zin_382, zin_383, zin_384, zin_385, zin_386, zin_387, hx', show ¬ (n : Int) < 1 by omega, show (n : Int) ≤ 40 by omega, ↓reduceIte, ↓s_living (d + 8) _ M 0 zkc_0, Nat.zero_add, hlv, hz, hcr, ne_eq, not_false_eq_true]
      refine s_copyW (d + 7) _ M (X 0) 19 0 zkc_19 zkc_0 (by omega) hC.1 (fun N1 a1 a2 => ?_)
      rw [zret_none]
      have hC1 : IC X N1 := IC_spare hC (fun b hb => a2 b (by omega))
      simp only [↓e75, ↓e75_0, ↓e75_1, ↓e75_2, ↓e75_5, ↓e75_6, ↓e75_8, ↓e75_11, ↓e75_13, ↓e75_14, ↓e75_15, ↓e75_18, ↓e75_21, ↓e75_24, ↓e75_26, ↓e75_27, ↓e75_28, ↓e75_31, ↓e75_32, ↓e75_35, ↓e75_38, ↓e75_39, ↓e75_42, ↓e75_43, ↓e75_46, ↓e75_49, ↓e75_50, ↓e75_52, ↓e75_53, ↓e75_56, ↓e75_57, ↓e75_60, ↓e75_63, ↓e75_66, ↓e75_69, ↓e75_70, ↓e75_73, ↓e75_74, ↓e75_77, ↓e75_80, znl_i, znl_r, znl_n, zcs_0, zcs_1, zcs_2, zcs_3, zcat_0, zcat_1, zcat_2, zcat_3, zbl_0, zbl_1, true_and, and_true, ↓zret_some, ↓zret_none, Nat.reduceAdd, Nat.reduceLeDiff, Nat.reduceMul, eq_self, Int.reduceToNat, Int.reduceLE, Int.reduceLT, Int.reduceNeg, and_self, zrg, zkc_0, zin_1, zin_2, zin_3, zin_4, zin_5, zin_6, zin_7, zin_8, zin_9, zaa_9, zkc_10, zin_11, zin_12, zkc_13, zin_14, zin_15, zkc_16, zin_17, zin_18, zkc_19, zin_20, zin_21, zin_22, zin_23, zin_24, zin_25, zin_26, zin_27, zin_28, zaa_28, zkc_29, zin_30, zin_31, zkc_32, zin_33, zin_34, zkc_35, zin_36, zin_37, zkc_38, zin_39, zin_40, zin_41, zin_42, zin_43, zin_44, zin_45, zin_46, zin_47, zaa_47, zkc_48, zin_49, zin_50, zkc_51, zin_52, zin_53, zkc_54, zin_55, zin_56, zkc_209, zkc_210, zin_211, zaa_211, zkc_212, zin_213, zkc_214, zkc_215, zin_216, zin_217, zkc_218, zin_219, zin_220, zin_221, zkc_222, zin_223, zaa_223, zin_224, zin_225, zkc_226, zin_227, zin_228, zin_229, zin_230, zin_231, zin_232, zkc_233, zin_234, zaa_234, zin_235, zin_236, zin_237, zin_238, zin_239, zin_240, zin_241, zin_242, zin_243, zin_244, zin_245, zin_246, zin_247, zin_248, zin_249, zin_250, zkc_251, zin_252, zin_253, zkc_374, zin_375, zin_376, zin_377, zin_378, zin_379, zin_380, zin_381, zin_382, zin_383, zin_384, zin_385, zin_386, zin_387]
      refine s_keep (d + 6) _ N1 X (X 0) 0 (Or.inl rfl) hX.2.1 hC1 hC1.1 (fun N2 u1 u2 => ?_)
      rw [zret_none]
      obtain ⟨hRN, hV⟩ := pushC u1
      have hS2 : RelC N2 19 (X 0) := RelC_cong (fun b b1 b2 => u2 b (by omega) (by omega)) a1
      have hok := fun k => rndN_ok hW (by omega : 0 ≤ ldr (X 0)) hB0 hX.1.2.2 k
      have hWb := rndN_Wb hX.1 (by omega : 0 ≤ ldr (X 0)) hB0 n (C := B + 12000) (by omega)
      have loop : ∀ q k : Nat, k + q = n → ∀ N, RelC N 0 (rndN (X 0) k) → Fr N2 N → Wv N (X 0 0) → RT (Sp (d + 9)) 75 (JC d B 145 [.inl (n : Int)]) 51 [some (.inr (.inr 209)), some (.inl (n : Int)), some (.inl (k : Int))] [] N := by
        intro q
        induction q with
        | zero =>
          intro k hk N g1 g2 g3
          obtain rfl : k = n := by omega
          have hKp := (hok k).1
          have hS3 : RelC N 19 (X 0) := RelC_cong (fun b b1 b2 => g2 b (by omega) (by omega)) hS2
          rw [e75_51]
          simp only [↓e75, ↓e75_0, ↓e75_1, ↓e75_2, ↓e75_5, ↓e75_6, ↓e75_8, ↓e75_11, ↓e75_13, ↓e75_14, ↓e75_15, ↓e75_18, ↓e75_21, ↓e75_24, ↓e75_26, ↓e75_27, ↓e75_28, ↓e75_31, ↓e75_32, ↓e75_35, ↓e75_38, ↓e75_39, ↓e75_42, ↓e75_43, ↓e75_46, ↓e75_49, ↓e75_50, ↓e75_52, ↓e75_53, ↓e75_56, ↓e75_57, ↓e75_60, ↓e75_63, ↓e75_66, ↓e75_69, ↓e75_70, ↓e75_73, ↓e75_74, ↓e75_77, ↓e75_80, znl_i, znl_r, znl_n, zcs_0, zcs_1, zcs_2, zcs_3, zcat_0, zcat_1, zcat_2, zcat_3, zbl_0, zbl_1, true_and, and_true, ↓zret_some, ↓zret_none, Nat.reduceAdd, Nat.reduceLeDiff, Nat.reduceMul, eq_self, Int.reduceToNat, Int.reduceLE, Int.reduceLT, Int.reduceNeg, and_self, zrg, zkc_0, zin_1, zin_2, zin_3, zin_4, zin_5, zin_6, zin_7, zin_8, zin_9, zaa_9, zkc_10, zin_11, zin_12, zkc_13, zin_14, zin_15, zkc_16, zin_17, zin_18, zkc_19, zin_20, zin_21, zin_22, zin_23, zin_24, zin_25, zin_26, zin_27, zin_28, zaa_28, zkc_29, zin_30, zin_31, zkc_32, zin_33, zin_34, zkc_35, zin_36, zin_37, zkc_38, zin_39, zin_40, zin_41, zin_42, zin_43, zin_44, zin_45, zin_46, zin_47, zaa_47, zkc_48, zin_49, zin_50, zkc_51, zin_52, zin_53, zkc_54, zin_55, zin_56, zkc_209, zkc_210, zin_211, zaa_211, zkc_212, zin_213, zkc_214, zkc_215, zin_216, zin_217, zkc_218, zin_219, zin_220, zin_221, zkc_222, zin_223, zaa_223, zin_224, zin_225, zkc_226, zin_227, zin_228, zin_229, zin_230, zin_231, zin_232, zkc_233, zin_234, zaa_234, zin_235, zin_236, zin_237, zin_238, zin_239, zin_240, zin_241, zin_242, zin_243, zin_244, zin_245, zin_246, zin_247, zin_248, zin_249, zin_250, zkc_251, zin_252, zin_253, zkc_374, zin_375, zin_376, zin_377, zin_378, zin_379, zin_380, zin_381, zin_382, zin_383, zin_384, zin_385, zin_386, zin_387, hx', ge_iff_le, Int.le_refl, ↓reduceIte, ↓s_moved (d + 8) _ N (X 0) (rndN (X 0) k) g1 hS3 hW hKp.1 hKp.2.2.1]
          have hC2 := IC_set u1 g1 (by rw [hKp.2.2.2.1]; exact g3) (fun b b1 b2 => g2 b (by omega) (by omega))
          have hP := fun b (hb : 374 ≤ b) => (g2 b (by omega) (by omega)).trans ((u2 b (by omega) (by omega)).trans (a2 b (by omega)))
          have hIP := IR_cong hP hI
          refine JC_i ?_
          simp only [↓e145, ↓e145_0, ↓e145_1, ↓e145_2, ↓e145_4, ↓e145_7, ↓e145_10, ↓e145_12, ↓e145_13, ↓e145_14, ↓e145_17, ↓e145_20, ↓e145_22, ↓e145_23, ↓e145_24, ↓e145_27, ↓e145_28, ↓e145_29, ↓e145_32, znl_i, znl_r, znl_n, zcs_0, zcs_1, zcs_2, zcs_3, zcat_0, zcat_1, zcat_2, zcat_3, zbl_0, zbl_1, true_and, and_true, ↓zret_some, ↓zret_none, Nat.reduceAdd, Nat.reduceLeDiff, Nat.reduceMul, eq_self, Int.reduceToNat, Int.reduceLE, Int.reduceLT, Int.reduceNeg, and_self, zrg, zkc_0, zin_1, zin_2, zin_3, zin_4, zin_5, zin_6, zin_7, zin_8, zin_9, zaa_9, zkc_10, zin_11, zin_12, zkc_13, zin_14, zin_15, zkc_16, zin_17, zin_18, zkc_19, zin_20, zin_21, zin_22, zin_23, zin_24, zin_25, zin_26, zin_27, zin_28, zaa_28, zkc_29, zin_30, zin_31, zkc_32, zin_33, zin_34, zkc_35, zin_36, zin_37, zkc_38, zin_39, zin_40, zin_41, zin_42, zin_43, zin_44, zin_45, zin_46, zin_47, zaa_47, zkc_48, zin_49, zin_50, zkc_51, zin_52, zin_53, zkc_54, zin_55, zin_56, zkc_209, zkc_210, zin_211, zaa_211, zkc_212, zin_213, zkc_214, zkc_215, zin_216, zin_217, zkc_218, zin_219, zin_220, zin_221, zkc_222, zin_223, zaa_223, zin_224, zin_225, zkc_226, zin_227, zin_228, zin_229, zin_230, zin_231, zin_232, zkc_233, zin_234, zaa_234, zin_235, zin_236, zin_237, zin_238, zin_239, zin_240, zin_241, zin_242, zin_243, zin_244, zin_245, zin_246, zin_247, zin_248, zin_249, zin_250, zkc_251, zin_252, zin_253, zkc_374, zin_375, zin_376, zin_377, zin_378, zin_379, zin_380, zin_381, zin_382, zin_383, zin_384, zin_385, zin_386, zin_387, ↓hti, show ¬ (1 : Int) = 0 by omega, ne_eq, not_false_eq_true, ↓reduceIte, ↓s_rLeader (d + 6) _ N (X 0) hIP.1.1 hW, hlr, show ldr (X 0) ≥ 0 by omega]
          refine s_keeps (d + 7) _ N X B hX hIP (fun P2 v1 v2 v3 v4 => ?_)
          rw [zret_none]
          have hR2 := pushR v1
          simp only [↓e145, ↓e145_0, ↓e145_1, ↓e145_2, ↓e145_4, ↓e145_7, ↓e145_10, ↓e145_12, ↓e145_13, ↓e145_14, ↓e145_17, ↓e145_20, ↓e145_22, ↓e145_23, ↓e145_24, ↓e145_27, ↓e145_28, ↓e145_29, ↓e145_32, znl_i, znl_r, znl_n, zcs_0, zcs_1, zcs_2, zcs_3, zcat_0, zcat_1, zcat_2, zcat_3, zbl_0, zbl_1, true_and, and_true, ↓zret_some, ↓zret_none, Nat.reduceAdd, Nat.reduceLeDiff, Nat.reduceMul, eq_self, Int.reduceToNat, Int.reduceLE, Int.reduceLT, Int.reduceNeg, and_self, zrg, zkc_0, zin_1, zin_2, zin_3, zin_4, zin_5, zin_6, zin_7, zin_8, zin_9, zaa_9, zkc_10, zin_11, zin_12, zkc_13, zin_14, zin_15, zkc_16, zin_17, zin_18, zkc_19, zin_20, zin_21, zin_22, zin_23, zin_24, zin_25, zin_26, zin_27, zin_28, zaa_28, zkc_29, zin_30, zin_31, zkc_32, zin_33, zin_34, zkc_35, zin_36, zin_37, zkc_38, zin_39, zin_40, zin_41, zin_42, zin_43, zin_44, zin_45, zin_46, zin_47, zaa_47, zkc_48, zin_49, zin_50, zkc_51, zin_52, zin_53, zkc_54, zin_55, zin_56, zkc_209, zkc_210, zin_211, zaa_211, zkc_212, zin_213, zkc_214, zkc_215, zin_216, zin_217, zkc_218, zin_219, zin_220, zin_221, zkc_222, zin_223, zaa_223, zin_224, zin_225, zkc_226, zin_227, zin_228, zin_229, zin_230, zin_231, zin_232, zkc_233, zin_234, zaa_234, zin_235, zin_236, zin_237, zin_238, zin_239, zin_240, zin_241, zin_242, zin_243, zin_244, zin_245, zin_246, zin_247, zin_248, zin_249, zin_250, zkc_251, zin_252, zin_253, zkc_374, zin_375, zin_376, zin_377, zin_378, zin_379, zin_380, zin_381, zin_382, zin_383, zin_384, zin_385, zin_386, zin_387]
          refine s_makes (d + 1) _ P2 (X 0) B k (by omega) (by omega) hB hR2.1 hX.1 (fun P3 t1 t2 => ?_)
          rw [zret_some]
          simp only [↓e145, ↓e145_0, ↓e145_1, ↓e145_2, ↓e145_4, ↓e145_7, ↓e145_10, ↓e145_12, ↓e145_13, ↓e145_14, ↓e145_17, ↓e145_20, ↓e145_22, ↓e145_23, ↓e145_24, ↓e145_27, ↓e145_28, ↓e145_29, ↓e145_32, znl_i, znl_r, znl_n, zcs_0, zcs_1, zcs_2, zcs_3, zcat_0, zcat_1, zcat_2, zcat_3, zbl_0, zbl_1, true_and, and_true, ↓zret_some, ↓zret_none, Nat.reduceAdd, Nat.reduceLeDiff, Nat.reduceMul, eq_self, Int.reduceToNat, Int.reduceLE, Int.reduceLT, Int.reduceNeg, and_self, zrg, zkc_0, zin_1, zin_2, zin_3, zin_4, zin_5, zin_6, zin_7, zin_8, zin_9, zaa_9, zkc_10, zin_11, zin_12, zkc_13, zin_14, zin_15, zkc_16, zin_17, zin_18, zkc_19, zin_20, zin_21, zin_22, zin_23, zin_24, zin_25, zin_26, zin_27, zin_28, zaa_28, zkc_29, zin_30, zin_31, zkc_32, zin_33, zin_34, zkc_35, zin_36, zin_37, zkc_38, zin_39, zin_40, zin_41, zin_42, zin_43, zin_44, zin_45, zin_46, zin_47, zaa_47, zkc_48, zin_49, zin_50, zkc_51, zin_52, zin_53, zkc_54, zin_55, zin_56, zkc_209, zkc_210, zin_211, zaa_211, zkc_212, zin_213, zkc_214, zkc_215, zin_216, zin_217, zkc_218, zin_219, zin_220, zin_221, zkc_222, zin_223, zaa_223, zin_224, zin_225, zkc_226, zin_227, zin_228, zin_229, zin_230, zin_231, zin_232, zkc_233, zin_234, zaa_234, zin_235, zin_236, zin_237, zin_238, zin_239, zin_240, zin_241, zin_242, zin_243, zin_244, zin_245, zin_246, zin_247, zin_248, zin_249, zin_250, zkc_251, zin_252, zin_253, zkc_374, zin_375, zin_376, zin_377, zin_378, zin_379, zin_380, zin_381, zin_382, zin_383, zin_384, zin_385, zin_386, zin_387]
          have hX2 := WX_push hX hX.1
          have hR3 : RelR' P3 0 (rndN (X 0) k) := ⟨t1, by rw [hKp.2.2.2.2.2.1, t2.2.1 _ (by omega)]; exact hR2.2⟩
          exact JE_j (X := setX (push X (X 0)) (rndN (X 0) k)) (IC_cong (fun b hb => by rw [t2.1 b (by omega), v2 b (by omega) (by omega)]) hC2) (IR_set hX2 v1 hR3 (fun j j1 j2 => t2.2.1 j (by omega)) (fun j hj => t2.2.2 j (by omega) (by omega)) (t2.1 385 (by omega))) (WX_set (WX_mono (by omega) hX2) hWb)
        | succ q ih =>
          intro k hk N g1 g2 g3
          have hk1 : ¬ (k : Int) ≥ (n : Int) := by omega
          have hk2 : -2147483648 ≤ (k : Int) ∧ (k : Int) < 2147483648 := ⟨by omega, by omega⟩
          obtain ⟨h1, h2⟩ := hok k
          have e0 : rndN (X 0) k 0 = X 0 0 := h1.2.2.2.1
          rw [e75_51]
          simp only [↓e75, ↓e75_0, ↓e75_1, ↓e75_2, ↓e75_5, ↓e75_6, ↓e75_8, ↓e75_11, ↓e75_13, ↓e75_14, ↓e75_15, ↓e75_18, ↓e75_21, ↓e75_24, ↓e75_26, ↓e75_27, ↓e75_28, ↓e75_31, ↓e75_32, ↓e75_35, ↓e75_38, ↓e75_39, ↓e75_42, ↓e75_43, ↓e75_46, ↓e75_49, ↓e75_50, ↓e75_52, ↓e75_53, ↓e75_56, ↓e75_57, ↓e75_60, ↓e75_63, ↓e75_66, ↓e75_69, ↓e75_70, ↓e75_73, ↓e75_74, ↓e75_77, ↓e75_80, znl_i, znl_r, znl_n, zcs_0, zcs_1, zcs_2, zcs_3, zcat_0, zcat_1, zcat_2, zcat_3, zbl_0, zbl_1, true_and, and_true, ↓zret_some, ↓zret_none, Nat.reduceAdd, Nat.reduceLeDiff, Nat.reduceMul, eq_self, Int.reduceToNat, Int.reduceLE, Int.reduceLT, Int.reduceNeg, and_self, zrg, zkc_0, zin_1, zin_2, zin_3, zin_4, zin_5, zin_6, zin_7, zin_8, zin_9, zaa_9, zkc_10, zin_11, zin_12, zkc_13, zin_14, zin_15, zkc_16, zin_17, zin_18, zkc_19, zin_20, zin_21, zin_22, zin_23, zin_24, zin_25, zin_26, zin_27, zin_28, zaa_28, zkc_29, zin_30, zin_31, zkc_32, zin_33, zin_34, zkc_35, zin_36, zin_37, zkc_38, zin_39, zin_40, zin_41, zin_42, zin_43, zin_44, zin_45, zin_46, zin_47, zaa_47, zkc_48, zin_49, zin_50, zkc_51, zin_52, zin_53, zkc_54, zin_55, zin_56, zkc_209, zkc_210, zin_211, zaa_211, zkc_212, zin_213, zkc_214, zkc_215, zin_216, zin_217, zkc_218, zin_219, zin_220, zin_221, zkc_222, zin_223, zaa_223, zin_224, zin_225, zkc_226, zin_227, zin_228, zin_229, zin_230, zin_231, zin_232, zkc_233, zin_234, zaa_234, zin_235, zin_236, zin_237, zin_238, zin_239, zin_240, zin_241, zin_242, zin_243, zin_244, zin_245, zin_246, zin_247, zin_248, zin_249, zin_250, zkc_251, zin_252, zin_253, zkc_374, zin_375, zin_376, zin_377, zin_378, zin_379, zin_380, zin_381, zin_382, zin_383, zin_384, zin_385, zin_386, zin_387, hx', hk1, hk2, ↓reduceIte]
          refine s_makeRound (d + 3) _ N (rndN (X 0) k) (B + 10 * k) (by rw [h1.2.1]; omega) (by omega) h2 (by omega) g1 h1.1 (by rw [e0]; exact g3) (fun N3 t1 t2 t3 => ?_)
          rw [zret_none]
          have h9 := ih (k + 1) (by omega) N3 t1 (fun b b1 b2 => (t2 b b1 b2).trans (g2 b b1 b2)) (by rw [e0] at t3; exact t3)
          simp only [↓e75, ↓e75_0, ↓e75_1, ↓e75_2, ↓e75_5, ↓e75_6, ↓e75_8, ↓e75_11, ↓e75_13, ↓e75_14, ↓e75_15, ↓e75_18, ↓e75_21, ↓e75_24, ↓e75_26, ↓e75_27, ↓e75_28, ↓e75_31, ↓e75_32, ↓e75_35, ↓e75_38, ↓e75_39, ↓e75_42, ↓e75_43, ↓e75_46, ↓e75_49, ↓e75_50, ↓e75_52, ↓e75_53, ↓e75_56, ↓e75_57, ↓e75_60, ↓e75_63, ↓e75_66, ↓e75_69, ↓e75_70, ↓e75_73, ↓e75_74, ↓e75_77, ↓e75_80, znl_i, znl_r, znl_n, zcs_0, zcs_1, zcs_2, zcs_3, zcat_0, zcat_1, zcat_2, zcat_3, zbl_0, zbl_1, true_and, and_true, ↓zret_some, ↓zret_none, Nat.reduceAdd, Nat.reduceLeDiff, Nat.reduceMul, eq_self, Int.reduceToNat, Int.reduceLE, Int.reduceLT, Int.reduceNeg, and_self]
          rw [show ((k : Int) + 1) = ((k + 1 : Nat) : Int) by omega]
          exact h9
      have h9 := loop n 0 (by omega) N2 hRN (fun _ _ _ => rfl) hV
      simp only [↓e75, ↓e75_0, ↓e75_1, ↓e75_2, ↓e75_5, ↓e75_6, ↓e75_8, ↓e75_11, ↓e75_13, ↓e75_14, ↓e75_15, ↓e75_18, ↓e75_21, ↓e75_24, ↓e75_26, ↓e75_27, ↓e75_28, ↓e75_31, ↓e75_32, ↓e75_35, ↓e75_38, ↓e75_39, ↓e75_42, ↓e75_43, ↓e75_46, ↓e75_49, ↓e75_50, ↓e75_52, ↓e75_53, ↓e75_56, ↓e75_57, ↓e75_60, ↓e75_63, ↓e75_66, ↓e75_69, ↓e75_70, ↓e75_73, ↓e75_74, ↓e75_77, ↓e75_80, znl_i, znl_r, znl_n, zcs_0, zcs_1, zcs_2, zcs_3, zcat_0, zcat_1, zcat_2, zcat_3, zbl_0, zbl_1, true_and, and_true, ↓zret_some, ↓zret_none, Nat.reduceAdd, Nat.reduceLeDiff, Nat.reduceMul, eq_self, Int.reduceToNat, Int.reduceLE, Int.reduceLT, Int.reduceNeg, and_self]
      exact h9
  · simp only [show zb (1 ≤ x ∧ x ≤ 40) = 0 from if_neg hin] at hti
    have fin : JC d B 145 [.inl x] (some (.inl (-2))) M := by
      refine JC_i ?_
      simp only [↓e145, ↓e145_0, ↓e145_1, ↓e145_2, ↓e145_4, ↓e145_7, ↓e145_10, ↓e145_12, ↓e145_13, ↓e145_14, ↓e145_17, ↓e145_20, ↓e145_22, ↓e145_23, ↓e145_24, ↓e145_27, ↓e145_28, ↓e145_29, ↓e145_32, znl_i, znl_r, znl_n, zcs_0, zcs_1, zcs_2, zcs_3, zcat_0, zcat_1, zcat_2, zcat_3, zbl_0, zbl_1, true_and, and_true, ↓zret_some, ↓zret_none, Nat.reduceAdd, Nat.reduceLeDiff, Nat.reduceMul, eq_self, Int.reduceToNat, Int.reduceLE, Int.reduceLT, Int.reduceNeg, and_self, zrg, zkc_0, zin_1, zin_2, zin_3, zin_4, zin_5, zin_6, zin_7, zin_8, zin_9, zaa_9, zkc_10, zin_11, zin_12, zkc_13, zin_14, zin_15, zkc_16, zin_17, zin_18, zkc_19, zin_20, zin_21, zin_22, zin_23, zin_24, zin_25, zin_26, zin_27, zin_28, zaa_28, zkc_29, zin_30, zin_31, zkc_32, zin_33, zin_34, zkc_35, zin_36, zin_37, zkc_38, zin_39, zin_40, zin_41, zin_42, zin_43, zin_44, zin_45, zin_46, zin_47, zaa_47, zkc_48, zin_49, zin_50, zkc_51, zin_52, zin_53, zkc_54, zin_55, zin_56, zkc_209, zkc_210, zin_211, zaa_211, zkc_212, zin_213, zkc_214, zkc_215, zin_216, zin_217, zkc_218, zin_219, zin_220, zin_221, zkc_222, zin_223, zaa_223, zin_224, zin_225, zkc_226, zin_227, zin_228, zin_229, zin_230, zin_231, zin_232, zkc_233, zin_234, zaa_234, zin_235, zin_236, zin_237, zin_238, zin_239, zin_240, zin_241, zin_242, zin_243, zin_244, zin_245, zin_246, zin_247, zin_248, zin_249, zin_250, zkc_251, zin_252, zin_253, zkc_374, zin_375, zin_376, zin_377, zin_378, zin_379, zin_380, zin_381, zin_382, zin_383, zin_384, zin_385, zin_386, zin_387, ↓hti, ne_eq, not_true_eq_false, ↓reduceIte]
      exact JE_i hC hI hX
    by_cases h1 : x < 1
    · simp only [↓e75, ↓e75_0, ↓e75_1, ↓e75_2, ↓e75_5, ↓e75_6, ↓e75_8, ↓e75_11, ↓e75_13, ↓e75_14, ↓e75_15, ↓e75_18, ↓e75_21, ↓e75_24, ↓e75_26, ↓e75_27, ↓e75_28, ↓e75_31, ↓e75_32, ↓e75_35, ↓e75_38, ↓e75_39, ↓e75_42, ↓e75_43, ↓e75_46, ↓e75_49, ↓e75_50, ↓e75_51, ↓e75_52, ↓e75_53, ↓e75_56, ↓e75_57, ↓e75_60, ↓e75_63, ↓e75_66, ↓e75_69, ↓e75_70, ↓e75_73, ↓e75_74, ↓e75_77, ↓e75_80, znl_i, znl_r, znl_n, zcs_0, zcs_1, zcs_2, zcs_3, zcat_0, zcat_1, zcat_2, zcat_3, zbl_0, zbl_1, true_and, and_true, ↓zret_some, ↓zret_none, Nat.reduceAdd, Nat.reduceLeDiff, Nat.reduceMul, eq_self, Int.reduceToNat, Int.reduceLE, Int.reduceLT, Int.reduceNeg, and_self, zrg, zkc_0, zin_1, zin_2, zin_3, zin_4, zin_5, zin_6, zin_7, zin_8, zin_9, zaa_9, zkc_10, zin_11, zin_12, zkc_13, zin_14, zin_15, zkc_16, zin_17, zin_18, zkc_19, zin_20, zin_21, zin_22, zin_23, zin_24, zin_25, zin_26, zin_27, zin_28, zaa_28, zkc_29, zin_30, zin_31, zkc_32, zin_33, zin_34, zkc_35, zin_36, zin_37, zkc_38, zin_39, zin_40, zin_41, zin_42, zin_43, zin_44, zin_45, zin_46, zin_47, zaa_47, zkc_48, zin_49, zin_50, zkc_51, zin_52, zin_53, zkc_54, zin_55, zin_56, zkc_209, zkc_210, zin_211, zaa_211, zkc_212, zin_213, zkc_214, zkc_215, zin_216, zin_217, zkc_218, zin_219, zin_220, zin_221, zkc_222, zin_223, zaa_223, zin_224, zin_225, zkc_226, zin_227, zin_228, zin_229, zin_230, zin_231, zin_232, zkc_233, zin_234, zaa_234, zin_235, zin_236, zin_237, zin_238, zin_239, zin_240, zin_241, zin_242, zin_243, zin_244, zin_245, zin_246, zin_247, zin_248, zin_249, zin_250, zkc_251, zin_252, zin_253, zkc_374, zin_375, zin_376, zin_377, zin_378, zin_379, zin_380, zin_381, zin_382, zin_383, zin_384, zin_385, zin_386, zin_387, hx', h1, ↓reduceIte]
      exact fin
    · simp only [↓e75, ↓e75_0, ↓e75_1, ↓e75_2, ↓e75_5, ↓e75_6, ↓e75_8, ↓e75_11, ↓e75_13, ↓e75_14, ↓e75_15, ↓e75_18, ↓e75_21, ↓e75_24, ↓e75_26, ↓e75_27, ↓e75_28, ↓e75_31, ↓e75_32, ↓e75_35, ↓e75_38, ↓e75_39, ↓e75_42, ↓e75_43, ↓e75_46, ↓e75_49, ↓e75_50, ↓e75_51, ↓e75_52, ↓e75_53, ↓e75_56, ↓e75_57, ↓e75_60, ↓e75_63, ↓e75_66, ↓e75_69, ↓e75_70, ↓e75_73, ↓e75_74, ↓e75_77, ↓e75_80, znl_i, znl_r, znl_n, zcs_0, zcs_1, zcs_2, zcs_3, zcat_0, zcat_1, zcat_2, zcat_3, zbl_0, zbl_1, true_and, and_true, ↓zret_some, ↓zret_none, Nat.reduceAdd, Nat.reduceLeDiff, Nat.reduceMul, eq_self, Int.reduceToNat, Int.reduceLE, Int.reduceLT, Int.reduceNeg, and_self, zrg, zkc_0, zin_1, zin_2, zin_3, zin_4, zin_5, zin_6, zin_7, zin_8, zin_9, zaa_9, zkc_10, zin_11, zin_12, zkc_13, zin_14, zin_15, zkc_16, zin_17, zin_18, zkc_19, zin_20, zin_21, zin_22, zin_23, zin_24, zin_25, zin_26, zin_27, zin_28, zaa_28, zkc_29, zin_30, zin_31, zkc_32, zin_33, zin_34, zkc_35, zin_36, zin_37, zkc_38, zin_39, zin_40, zin_41, zin_42, zin_43, zin_44, zin_45, zin_46, zin_47, zaa_47, zkc_48, zin_49, zin_50, zkc_51, zin_52, zin_53, zkc_54, zin_55, zin_56, zkc_209, zkc_210, zin_211, zaa_211, zkc_212, zin_213, zkc_214, zkc_215, zin_216, zin_217, zkc_218, zin_219, zin_220, zin_221, zkc_222, zin_223, zaa_223, zin_224, zin_225, zkc_226, zin_227, zin_228, zin_229, zin_230, zin_231, zin_232, zkc_233, zin_234, zaa_234, zin_235, zin_236, zin_237, zin_238, zin_239, zin_240, zin_241, zin_242, zin_243, zin_244, zin_245, zin_246, zin_247, zin_248, zin_249, zin_250, zkc_251, zin_252, zin_253, zkc_374, zin_375, zin_376, zin_377, zin_378, zin_379, zin_380, zin_381, zin_382, zin_383, zin_384, zin_385, zin_386, zin_387, hx', h1, show ¬ x ≤ 40 by omega, ↓reduceIte]
      exact fin
