/-! ### keeping worlds: the class -/
theorem s_keep (d : Nat) (Q : zQ) (M : zM) (X : zX) (T : zM) (a : Nat) (ha : a = 0 ∨ a = 19) (hn : 0 ≤ X 10 0 0 ∧ X 10 0 0 ≤ 8) (hC : IC X M) (hT : RelC M a T)
    (hQ : ∀ N, IC (push X T) N → (∀ b, (b < 57 ∨ 209 ≤ b) → b ≠ 210 → N b = M b) → Q none N) : Sp (d + 3) 17 [.inr (.inr 210), .inr (.inr a)] M Q := by
  obtain ⟨h1, h2, ⟨nx, p1, p2, p3, p4⟩, q1, q2, q3, q4, q5, q6⟩ := hC
  have hx0 : 0 ≤ (nx : Int) ∧ (nx : Int) < 8 := ⟨by omega, by omega⟩
  have hxr : -2147483648 ≤ (nx : Int) ∧ (nx : Int) < 2147483648 := ⟨by omega, by omega⟩
  have hza : zkc (57 + 19 * nx) = 10 := zkcW_of (by omega) (by omega)
  have hzo : zkc a = 10 := zkcW_of (by omega) (by omega)
  simp only [↓e17, ↓e17_0, ↓e17_1, ↓e17_4, ↓e17_5, ↓e17_8, ↓e17_9, ↓e17_10, ↓e17_13, ↓e17_14, ↓e17_15, ↓e17_18, ↓e17_19, ↓e17_20, ↓e17_22, ↓e17_23, ↓e17_26, ↓e17_27, ↓e17_28, ↓e17_31, ↓e17_32, ↓e17_33, ↓e17_35, ↓e17_38, ↓e17_41, znl_i, znl_r, znl_n, zcs_0, zcs_1, zcs_2, zcs_3, zcat_0, zcat_1, zcat_2, zcat_3, zbl_0, zbl_1, true_and, and_true, ↓zret_some, ↓zret_none, Nat.reduceAdd, Nat.reduceLeDiff, Nat.reduceMul, eq_self, Int.reduceToNat, Int.reduceLE, Int.reduceLT, Int.reduceNeg, and_self, zkc_0, zin_1, zin_2, zin_3, zin_4, zin_5, zin_6, zin_7, zin_8, zin_9, zaa_9, zkc_10, zin_11, zin_12, zkc_13, zin_14, zin_15, zkc_16, zin_17, zin_18, zkc_19, zin_20, zin_21, zin_22, zin_23, zin_24, zin_25, zin_26, zin_27, zin_28, zaa_28, zkc_29, zin_30, zin_31, zkc_32, zin_33, zin_34, zkc_35, zin_36, zin_37, zkc_38, zin_39, zin_40, zin_41, zin_42, zin_43, zin_44, zin_45, zin_46, zin_47, zaa_47, zkc_48, zin_49, zin_50, zkc_51, zin_52, zin_53, zkc_54, zin_55, zin_56, zkc_209, zkc_210, zin_211, zaa_211, zkc_212, zin_213, zkc_214, zkc_215, zin_216, zin_217, zkc_218, zin_219, zin_220, zin_221, zkc_222, zin_223, zaa_223, zin_224, zin_225, zkc_226, zin_227, zin_228, zin_229, zin_230, zin_231, zin_232, zkc_233, zin_234, zaa_234, zin_235, zin_236, zin_237, zin_238, zin_239, zin_240, zin_241, zin_242, zin_243, zin_244, zin_245, zin_246, zin_247, zin_248, zin_249, zin_250, zkc_251, zin_252, zin_253, zkc_374, zin_375, zin_376, zin_377, zin_378, zin_379, zin_380, zin_381, zin_382, zin_383, zin_384, zin_385, zin_386, zin_387, p2, hx0, Int.toNat_natCast, hza]
  refine s_copyW d _ M T (57 + 19 * nx) a hza hzo (by omega) hT (fun N u1 u2 => ?_)
  rw [zret_none]
  have e2 : N 210 2 = nx := by rw [u2 210 (by omega), p2]
  have e3 : ∀ v, zup N 210 2 v 210 0 = X 10 0 0 := fun v => by rw [zup_off _ _ (by omega), u2 210 (by omega), p3]
  have e4 : -2147483648 ≤ X 10 0 0 + 1 ∧ X 10 0 0 + 1 < 2147483648 := ⟨by omega, by omega⟩
  have e5 : 0 ≤ (nx : Int) + 1 := by omega
  have e6 : -2147483648 ≤ (nx : Int) + 1 ∧ (nx : Int) + 1 < 2147483648 := ⟨by omega, by omega⟩
  simp only [↓e17, ↓e17_0, ↓e17_1, ↓e17_4, ↓e17_5, ↓e17_8, ↓e17_9, ↓e17_10, ↓e17_13, ↓e17_14, ↓e17_15, ↓e17_18, ↓e17_19, ↓e17_20, ↓e17_22, ↓e17_23, ↓e17_26, ↓e17_27, ↓e17_28, ↓e17_31, ↓e17_32, ↓e17_33, ↓e17_35, ↓e17_38, ↓e17_41, znl_i, znl_r, znl_n, zcs_0, zcs_1, zcs_2, zcs_3, zcat_0, zcat_1, zcat_2, zcat_3, zbl_0, zbl_1, true_and, and_true, ↓zret_some, ↓zret_none, Nat.reduceAdd, Nat.reduceLeDiff, Nat.reduceMul, eq_self, Int.reduceToNat, Int.reduceLE, Int.reduceLT, Int.reduceNeg, and_self, zrg, zkc_0, zin_1, zin_2, zin_3, zin_4, zin_5, zin_6, zin_7, zin_8, zin_9, zaa_9, zkc_10, zin_11, zin_12, zkc_13, zin_14, zin_15, zkc_16, zin_17, zin_18, zkc_19, zin_20, zin_21, zin_22, zin_23, zin_24, zin_25, zin_26, zin_27, zin_28, zaa_28, zkc_29, zin_30, zin_31, zkc_32, zin_33, zin_34, zkc_35, zin_36, zin_37, zkc_38, zin_39, zin_40, zin_41, zin_42, zin_43, zin_44, zin_45, zin_46, zin_47, zaa_47, zkc_48, zin_49, zin_50, zkc_51, zin_52, zin_53, zkc_54, zin_55, zin_56, zkc_209, zkc_210, zin_211, zaa_211, zkc_212, zin_213, zkc_214, zkc_215, zin_216, zin_217, zkc_218, zin_219, zin_220, zin_221, zkc_222, zin_223, zaa_223, zin_224, zin_225, zkc_226, zin_227, zin_228, zin_229, zin_230, zin_231, zin_232, zkc_233, zin_234, zaa_234, zin_235, zin_236, zin_237, zin_238, zin_239, zin_240, zin_241, zin_242, zin_243, zin_244, zin_245, zin_246, zin_247, zin_248, zin_249, zin_250, zkc_251, zin_252, zin_253, zkc_374, zin_375, zin_376, zin_377, zin_378, zin_379, zin_380, zin_381, zin_382, zin_383, zin_384, zin_385, zin_386, zin_387, e2, e3, e4, e5, e6]
  refine hQ _ ?_ (fun b hb hb2 => by rw [zup_ne _ _ _ hb2, zup_ne _ _ _ hb2, u2 b (by omega)])
  have hz : ∀ b v w, b ≠ 210 → zup (zup N 210 2 v) 210 0 w b = N b := fun b v w hb => by rw [zup_ne _ _ _ hb, zup_ne _ _ _ hb]
  have e8 : (if 8 < X 10 0 0 + 1 then 8 else X 10 0 0 + 1) = push X T 10 0 0 := by
    rw [push_n T hn]
    split <;> split <;> omega
  rw [e8]
  have po : ∀ b j : Nat, b ≠ 0 ∨ j ≠ 0 → push X T 10 b j = X 10 b j := fun b j h => push_o T hn h
  refine ⟨?_, fun x hx => ?_, ⟨(nx + 1) % 8, by omega, ?_, ?_, fun k k1 k2 => ?_⟩, ?_, fun z => ?_, ?_, fun j hj => ?_, ?_, ?_⟩
  · rw [push_0]
    exact RelC_cong (fun b _ hb => by rw [hz b _ _ (by omega), u2 b (by omega)]) h1
  · rw [push_0, hz 224 _ _ (by omega), hz (254 + x) _ _ (by omega), u2 224 (by omega), u2 (254 + x) (by omega)]
    exact h2 x hx
  · rw [zup_off _ _ (by omega), zup_at]
    omega
  · exact zup_at _ _ _ _
  · have hk := push_k T hn k1 k2
    rw [push_n T hn] at k2 hk ⊢
    rw [hk]
    by_cases a8 : X 10 0 0 = 8
    · simp only [if_pos a8] at k2 ⊢
      by_cases z : (k : Int) = 8
      · rw [if_pos z]
        have : ((nx + 1) % 8 + 7 + k - Int.toNat 8) % 8 = nx := by
          have : Int.toNat 8 = 8 := rfl
          omega
        rw [this]
        exact RelC_cong (fun b _ _ => hz b _ _ (by omega)) u1
      · rw [if_neg z]
        have h9 := p4 (k + 1) (by omega) (by omega)
        rw [a8] at h9
        have : ((nx + 1) % 8 + 7 + k - Int.toNat 8) % 8 = (nx + 7 + (k + 1) - Int.toNat 8) % 8 := by
          have : Int.toNat 8 = 8 := rfl
          omega
        rw [this]
        have e : (nx + 7 + (k + 1) - Int.toNat 8) % 8 ≠ nx ∧ (nx + 7 + (k + 1) - Int.toNat 8) % 8 < 8 := by
          have : Int.toNat 8 = 8 := rfl
          omega
        generalize (nx + 7 + (k + 1) - Int.toNat 8) % 8 = i at *
        exact RelC_cong (fun b b1 b2 => by rw [hz b _ _ (by omega), u2 b (by omega)]) h9
    · simp only [if_neg a8] at k2 ⊢
      by_cases z : (k : Int) = X 10 0 0 + 1
      · rw [if_pos z]
        have : ((nx + 1) % 8 + 7 + k - Int.toNat (X 10 0 0 + 1)) % 8 = nx := by omega
        rw [this]
        exact RelC_cong (fun b _ _ => hz b _ _ (by omega)) u1
      · rw [if_neg z]
        have h9 := p4 k k1 (by omega)
        have : ((nx + 1) % 8 + 7 + k - Int.toNat (X 10 0 0 + 1)) % 8 = (nx + 7 + k - Int.toNat (X 10 0 0)) % 8 := by omega
        rw [this]
        have e : (nx + 7 + k - Int.toNat (X 10 0 0)) % 8 ≠ nx ∧ (nx + 7 + k - Int.toNat (X 10 0 0)) % 8 < 8 := by omega
        generalize (nx + 7 + k - Int.toNat (X 10 0 0)) % 8 = i at *
        exact RelC_cong (fun b b1 b2 => by rw [hz b _ _ (by omega), u2 b (by omega)]) h9
  · rw [po 0 1 (by omega), hz 209 _ _ (by omega), u2 209 (by omega)]; exact q1
  · rw [po 0 1 (by omega)] at z
    rw [push_9 T hn]
    exact RelC_cong (fun b b1 b2 => by rw [hz b _ _ (by omega), u2 b (by omega)]) (q2 z)
  · rw [po 0 2 (by omega), hz 212 _ _ (by omega), u2 212 (by omega)]; exact q3
  · rw [po 0 2 (by omega)] at hj
    rw [po 1 j (by omega), hz 213 _ _ (by omega), u2 213 (by omega)]; exact q4 j hj
  · rw [po 0 3 (by omega), hz 209 _ _ (by omega), u2 209 (by omega)]; exact q5
  · rw [po 0 3 (by omega), po 0 4 (by omega), hz 209 _ _ (by omega), u2 209 (by omega)]; exact q6
/-- what is known of ways is forgotten -/
theorem s_wforget (d : Nat) (Q : zQ) (M : zM) (w : Nat → Int) (hQ : ∀ N, Wv N w → (∀ b, b ≠ 224 → N b = M b) → Q none N) : Sp (d + 1) 51 [.inr (.inr 222)] M Q := by
  have loop : ∀ n k : Nat, k + n = 120 → ∀ N, (∀ b, b ≠ 224 → N b = M b) → (∀ j, j < k → N 224 j = 0) → RT (Sp d) 51 Q 2 [some (.inr (.inr 222)), some (.inl (k : Int))] [] N := by
    intro n
    induction n with
    | zero =>
      intro k hk N h1 h2
      obtain rfl : k = 120 := by omega
      have h9 := hQ N (fun x hx => ⟨Or.inl (h2 x hx), fun z => by have := h2 x hx; omega⟩) h1
      rw [e51_2]
      simp only [↓e51, ↓e51_0, ↓e51_1, ↓e51_3, ↓e51_5, ↓e51_8, ↓e51_9, ↓e51_12, ↓e51_13, ↓e51_14, ↓e51_15, ↓e51_18, ↓e51_21, znl_i, znl_r, znl_n, zcs_0, zcs_1, zcs_2, zcs_3, zcat_0, zcat_1, zcat_2, zcat_3, zbl_0, zbl_1, true_and, and_true, ↓zret_some, ↓zret_none, Nat.reduceAdd, Nat.reduceLeDiff, Nat.reduceMul, eq_self, Int.reduceToNat, Int.reduceLE, Int.reduceLT, Int.reduceNeg, and_self, zrg, Int.cast_ofNat_Int, ge_iff_le, Int.le_refl, ↓reduceIte]
      exact h9
    | succ n ih =>
      intro k hk N h1 h2
      have hk0 : 0 ≤ (k : Int) ∧ (k : Int) < 120 := ⟨by omega, by omega⟩
      have hk1 : ¬ (k : Int) ≥ 120 := by omega
      have hk2 : -2147483648 ≤ (k : Int) ∧ (k : Int) < 2147483648 := ⟨by omega, by omega⟩
      have h9 := ih (k + 1) (by omega) (zup N 224 k 0) (fun b hb => by rw [zup_ne _ _ _ hb]; exact h1 b hb) (fun j hj => by
        by_cases z : j = k
        · subst z; exact zup_at _ _ _ _
        · rw [zup_off _ _ (Or.inr z)]; exact h2 j (by omega))
      rw [e51_2]
      simp only [↓e51, ↓e51_0, ↓e51_1, ↓e51_3, ↓e51_5, ↓e51_8, ↓e51_9, ↓e51_12, ↓e51_13, ↓e51_14, ↓e51_15, ↓e51_18, ↓e51_21, znl_i, znl_r, znl_n, zcs_0, zcs_1, zcs_2, zcs_3, zcat_0, zcat_1, zcat_2, zcat_3, zbl_0, zbl_1, true_and, and_true, ↓zret_some, ↓zret_none, Nat.reduceAdd, Nat.reduceLeDiff, Nat.reduceMul, eq_self, Int.reduceToNat, Int.reduceLE, Int.reduceLT, Int.reduceNeg, and_self, zrg, zkc_0, zin_1, zin_2, zin_3, zin_4, zin_5, zin_6, zin_7, zin_8, zin_9, zaa_9, zkc_10, zin_11, zin_12, zkc_13, zin_14, zin_15, zkc_16, zin_17, zin_18, zkc_19, zin_20, zin_21, zin_22, zin_23, zin_24, zin_25, zin_26, zin_27, zin_28, zaa_28, zkc_29, zin_30, zin_31, zkc_32, zin_33, zin_34, zkc_35, zin_36, zin_37, zkc_38, zin_39, zin_40, zin_41, zin_42, zin_43, zin_44, zin_45, zin_46, zin_47, zaa_47, zkc_48, zin_49, zin_50, zkc_51, zin_52, zin_53, zkc_54, zin_55, zin_56, zkc_209, zkc_210, zin_211, zaa_211, zkc_212, zin_213, zkc_214, zkc_215, zin_216, zin_217, zkc_218, zin_219, zin_220, zin_221, zkc_222, zin_223, zaa_223, zin_224, zin_225, zkc_226, zin_227, zin_228, zin_229, zin_230, zin_231, zin_232, zkc_233, zin_234, zaa_234, zin_235, zin_236, zin_237, zin_238, zin_239, zin_240, zin_241, zin_242, zin_243, zin_244, zin_245, zin_246, zin_247, zin_248, zin_249, zin_250, zkc_251, zin_252, zin_253, zkc_374, zin_375, zin_376, zin_377, zin_378, zin_379, zin_380, zin_381, zin_382, zin_383, zin_384, zin_385, zin_386, zin_387, hk0, hk1, hk2, ↓reduceIte, Int.toNat_natCast]
      rw [show ((k : Int) + 1) = ((k + 1 : Nat) : Int) by omega]
      exact h9
  have h9 := loop 120 0 rfl M (fun _ _ => rfl) (fun j hj => absurd hj (Nat.not_lt_zero j))
  simp only [↓e51, ↓e51_0, ↓e51_1, ↓e51_3, ↓e51_5, ↓e51_8, ↓e51_9, ↓e51_12, ↓e51_13, ↓e51_14, ↓e51_15, ↓e51_18, ↓e51_21, znl_i, znl_r, znl_n, zcs_0, zcs_1, zcs_2, zcs_3, zcat_0, zcat_1, zcat_2, zcat_3, zbl_0, zbl_1, true_and, and_true, ↓zret_some, ↓zret_none, Nat.reduceAdd, Nat.reduceLeDiff, Nat.reduceMul, eq_self, Int.reduceToNat, Int.reduceLE, Int.reduceLT, Int.reduceNeg, and_self]
  exact h9
theorem s_restore (d : Nat) (Q : zQ) (M S : zM) (a : Nat) (ha : a < 209) (ha2 : a % 19 = 0) (ha3 : a ≠ 0) (hR : RelC M a S) (hQ : ∀ N, RelC N 0 S → Wv N (S 0) → (∀ b, 19 ≤ b → b ≠ 224 → N b = M b) → Q none N) : Sp (d + 3) 97 [.inr (.inr 209), .inr (.inr a)] M Q := by
  have hzo : zkc a = 10 := zkcW_of ha ha2
  simp only [↓e97, ↓e97_0, ↓e97_1, ↓e97_4, ↓e97_5, ↓e97_8, ↓e97_9, ↓e97_12, ↓e97_15, znl_i, znl_r, znl_n, zcs_0, zcs_1, zcs_2, zcs_3, zcat_0, zcat_1, zcat_2, zcat_3, zbl_0, zbl_1, true_and, and_true, ↓zret_some, ↓zret_none, Nat.reduceAdd, Nat.reduceLeDiff, Nat.reduceMul, eq_self, Int.reduceToNat, Int.reduceLE, Int.reduceLT, Int.reduceNeg, and_self, zkc_0, zin_1, zin_2, zin_3, zin_4, zin_5, zin_6, zin_7, zin_8, zin_9, zaa_9, zkc_10, zin_11, zin_12, zkc_13, zin_14, zin_15, zkc_16, zin_17, zin_18, zkc_19, zin_20, zin_21, zin_22, zin_23, zin_24, zin_25, zin_26, zin_27, zin_28, zaa_28, zkc_29, zin_30, zin_31, zkc_32, zin_33, zin_34, zkc_35, zin_36, zin_37, zkc_38, zin_39, zin_40, zin_41, zin_42, zin_43, zin_44, zin_45, zin_46, zin_47, zaa_47, zkc_48, zin_49, zin_50, zkc_51, zin_52, zin_53, zkc_54, zin_55, zin_56, zkc_209, zkc_210, zin_211, zaa_211, zkc_212, zin_213, zkc_214, zkc_215, zin_216, zin_217, zkc_218, zin_219, zin_220, zin_221, zkc_222, zin_223, zaa_223, zin_224, zin_225, zkc_226, zin_227, zin_228, zin_229, zin_230, zin_231, zin_232, zkc_233, zin_234, zaa_234, zin_235, zin_236, zin_237, zin_238, zin_239, zin_240, zin_241, zin_242, zin_243, zin_244, zin_245, zin_246, zin_247, zin_248, zin_249, zin_250, zkc_251, zin_252, zin_253, zkc_374, zin_375, zin_376, zin_377, zin_378, zin_379, zin_380, zin_381, zin_382, zin_383, zin_384, zin_385, zin_386, zin_387]
  refine s_copyW d _ M S 0 a zkc_0 hzo (by omega) hR (fun N u1 u2 => ?_)
  rw [zret_none]
  simp only [↓e97, ↓e97_0, ↓e97_1, ↓e97_4, ↓e97_5, ↓e97_8, ↓e97_9, ↓e97_12, ↓e97_15, znl_i, znl_r, znl_n, zcs_0, zcs_1, zcs_2, zcs_3, zcat_0, zcat_1, zcat_2, zcat_3, zbl_0, zbl_1, true_and, and_true, ↓zret_some, ↓zret_none, Nat.reduceAdd, Nat.reduceLeDiff, Nat.reduceMul, eq_self, Int.reduceToNat, Int.reduceLE, Int.reduceLT, Int.reduceNeg, and_self, zkc_0, zin_1, zin_2, zin_3, zin_4, zin_5, zin_6, zin_7, zin_8, zin_9, zaa_9, zkc_10, zin_11, zin_12, zkc_13, zin_14, zin_15, zkc_16, zin_17, zin_18, zkc_19, zin_20, zin_21, zin_22, zin_23, zin_24, zin_25, zin_26, zin_27, zin_28, zaa_28, zkc_29, zin_30, zin_31, zkc_32, zin_33, zin_34, zkc_35, zin_36, zin_37, zkc_38, zin_39, zin_40, zin_41, zin_42, zin_43, zin_44, zin_45, zin_46, zin_47, zaa_47, zkc_48, zin_49, zin_50, zkc_51, zin_52, zin_53, zkc_54, zin_55, zin_56, zkc_209, zkc_210, zin_211, zaa_211, zkc_212, zin_213, zkc_214, zkc_215, zin_216, zin_217, zkc_218, zin_219, zin_220, zin_221, zkc_222, zin_223, zaa_223, zin_224, zin_225, zkc_226, zin_227, zin_228, zin_229, zin_230, zin_231, zin_232, zkc_233, zin_234, zaa_234, zin_235, zin_236, zin_237, zin_238, zin_239, zin_240, zin_241, zin_242, zin_243, zin_244, zin_245, zin_246, zin_247, zin_248, zin_249, zin_250, zkc_251, zin_252, zin_253, zkc_374, zin_375, zin_376, zin_377, zin_378, zin_379, zin_380, zin_381, zin_382, zin_383, zin_384, zin_385, zin_386, zin_387]
  refine s_wforget (d + 1) _ N (S 0) (fun N2 v1 v2 => ?_)
  rw [zret_none]
  simp only [↓e97, ↓e97_0, ↓e97_1, ↓e97_4, ↓e97_5, ↓e97_8, ↓e97_9, ↓e97_12, ↓e97_15, znl_i, znl_r, znl_n, zcs_0, zcs_1, zcs_2, zcs_3, zcat_0, zcat_1, zcat_2, zcat_3, zbl_0, zbl_1, true_and, and_true, ↓zret_some, ↓zret_none, Nat.reduceAdd, Nat.reduceLeDiff, Nat.reduceMul, eq_self, Int.reduceToNat, Int.reduceLE, Int.reduceLT, Int.reduceNeg, and_self, zkc_0, zin_1, zin_2, zin_3, zin_4, zin_5, zin_6, zin_7, zin_8, zin_9, zaa_9, zkc_10, zin_11, zin_12, zkc_13, zin_14, zin_15, zkc_16, zin_17, zin_18, zkc_19, zin_20, zin_21, zin_22, zin_23, zin_24, zin_25, zin_26, zin_27, zin_28, zaa_28, zkc_29, zin_30, zin_31, zkc_32, zin_33, zin_34, zkc_35, zin_36, zin_37, zkc_38, zin_39, zin_40, zin_41, zin_42, zin_43, zin_44, zin_45, zin_46, zin_47, zaa_47, zkc_48, zin_49, zin_50, zkc_51, zin_52, zin_53, zkc_54, zin_55, zin_56, zkc_209, zkc_210, zin_211, zaa_211, zkc_212, zin_213, zkc_214, zkc_215, zin_216, zin_217, zkc_218, zin_219, zin_220, zin_221, zkc_222, zin_223, zaa_223, zin_224, zin_225, zkc_226, zin_227, zin_228, zin_229, zin_230, zin_231, zin_232, zkc_233, zin_234, zaa_234, zin_235, zin_236, zin_237, zin_238, zin_239, zin_240, zin_241, zin_242, zin_243, zin_244, zin_245, zin_246, zin_247, zin_248, zin_249, zin_250, zkc_251, zin_252, zin_253, zkc_374, zin_375, zin_376, zin_377, zin_378, zin_379, zin_380, zin_381, zin_382, zin_383, zin_384, zin_385, zin_386, zin_387]
  exact hQ N2 (RelC_cong (fun b _ hb => v2 b (by omega)) u1) v1 (fun b hb hb2 => by rw [v2 b hb2, u2 b (by omega)])
/-! ### keeping worlds: the reference -/
def cpR (M : zM) (f t k : Nat) : zM := zrow M 375 (fun j => if 258 * t ≤ j ∧ j < 258 * t + k then M 375 (258 * f + (j - 258 * t)) else M 375 j)
theorem cpR_at (M : zM) (f t k j : Nat) : cpR M f t k 375 j = if 258 * t ≤ j ∧ j < 258 * t + k then M 375 (258 * f + (j - 258 * t)) else M 375 j := by unfold cpR; rw [zrow_self]
theorem cpR_s (M : zM) (f t k : Nat) (hft : f ≠ t) (hk : k < 258) : zup (cpR M f t k) 375 (258 * t + k) (cpR M f t k 375 (258 * f + k)) = cpR M f t (k + 1) := by
  funext b j
  by_cases hb : b = 375
  · subst hb
    by_cases hj : j = 258 * t + k
    · subst hj
      rw [zup_at, cpR_at, cpR_at, if_neg (by omega), if_pos (by omega)]
      congr 1
      omega
    · rw [zup_off _ _ (Or.inr hj), cpR_at, cpR_at]
      by_cases z : 258 * t ≤ j ∧ j < 258 * t + k
      · rw [if_pos z, if_pos (by omega)]
      · rw [if_neg z, if_neg (by omega)]
  · rw [zup_ne _ _ _ hb]
    unfold cpR
    rw [zrow_ne _ _ hb, zrow_ne _ _ hb]
theorem s_copies (d : Nat) (Q : zQ) (M : zM) (f t : Nat) (hf : f < 11) (ht : t < 11) (hft : f ≠ t) : Sp (d + 1) 112 [.inr (.inr 374), .inl (f : Int), .inl (t : Int)] M Q = Q none (cpR M f t 258) := by
  have loop : ∀ n k : Nat, k + n = 258 → RT (Sp d) 112 Q 2 [some (.inr (.inr 374)), some (.inl (f : Int)), some (.inl (t : Int)), some (.inl (k : Int))] [] (cpR M f t k) = Q none (cpR M f t 258) := by
    intro n
    induction n with
    | zero =>
      intro k hk
      obtain rfl : k = 258 := by omega
      rw [e112_2]
      simp only [↓e112, ↓e112_0, ↓e112_1, ↓e112_3, ↓e112_6, ↓e112_9, ↓e112_10, ↓e112_13, ↓e112_16, ↓e112_17, ↓e112_18, ↓e112_19, ↓e112_20, ↓e112_21, ↓e112_24, ↓e112_27, ↓e112_28, ↓e112_29, ↓e112_30, ↓e112_31, ↓e112_32, ↓e112_33, ↓e112_36, ↓e112_39, znl_i, znl_r, znl_n, zcs_0, zcs_1, zcs_2, zcs_3, zcat_0, zcat_1, zcat_2, zcat_3, zbl_0, zbl_1, true_and, and_true, ↓zret_some, ↓zret_none, Nat.reduceAdd, Nat.reduceLeDiff, Nat.reduceMul, eq_self, Int.reduceToNat, Int.reduceLE, Int.reduceLT, Int.reduceNeg, and_self, zrg, Int.cast_ofNat_Int, ge_iff_le, Int.le_refl, ↓reduceIte]
    | succ n ih =>
      intro k hk
      have hk1 : ¬ (k : Int) ≥ 258 := by omega
      have hk2 : -2147483648 ≤ (k : Int) ∧ (k : Int) < 2147483648 := ⟨by omega, by omega⟩
      have e1 : (258 * (f : Int) + (k : Int)).toNat = 258 * f + k := by omega
      have e2 : (258 * (t : Int) + (k : Int)).toNat = 258 * t + k := by omega
      have e3 : 0 ≤ 258 * (f : Int) + (k : Int) ∧ 258 * (f : Int) + (k : Int) < 2838 := ⟨by omega, by omega⟩
      have e4 : 0 ≤ 258 * (t : Int) + (k : Int) ∧ 258 * (t : Int) + (k : Int) < 2838 := ⟨by omega, by omega⟩
      have h9 := ih (k + 1) (by omega)
      rw [e112_2]
      simp only [↓e112, ↓e112_0, ↓e112_1, ↓e112_3, ↓e112_6, ↓e112_9, ↓e112_10, ↓e112_13, ↓e112_16, ↓e112_17, ↓e112_18, ↓e112_19, ↓e112_20, ↓e112_21, ↓e112_24, ↓e112_27, ↓e112_28, ↓e112_29, ↓e112_30, ↓e112_31, ↓e112_32, ↓e112_33, ↓e112_36, ↓e112_39, znl_i, znl_r, znl_n, zcs_0, zcs_1, zcs_2, zcs_3, zcat_0, zcat_1, zcat_2, zcat_3, zbl_0, zbl_1, true_and, and_true, ↓zret_some, ↓zret_none, Nat.reduceAdd, Nat.reduceLeDiff, Nat.reduceMul, eq_self, Int.reduceToNat, Int.reduceLE, Int.reduceLT, Int.reduceNeg, and_self, zrg, zkc_0, zin_1, zin_2, zin_3, zin_4, zin_5, zin_6, zin_7, zin_8, zin_9, zaa_9, zkc_10, zin_11, zin_12, zkc_13, zin_14, zin_15, zkc_16, zin_17, zin_18, zkc_19, zin_20, zin_21, zin_22, zin_23, zin_24, zin_25, zin_26, zin_27, zin_28, zaa_28, zkc_29, zin_30, zin_31, zkc_32, zin_33, zin_34, zkc_35, zin_36, zin_37, zkc_38, zin_39, zin_40, zin_41, zin_42, zin_43, zin_44, zin_45, zin_46, zin_47, zaa_47, zkc_48, zin_49, zin_50, zkc_51, zin_52, zin_53, zkc_54, zin_55, zin_56, zkc_209, zkc_210, zin_211, zaa_211, zkc_212, zin_213, zkc_214, zkc_215, zin_216, zin_217, zkc_218, zin_219, zin_220, zin_221, zkc_222, zin_223, zaa_223, zin_224, zin_225, zkc_226, zin_227, zin_228, zin_229, zin_230, zin_231, zin_232, zkc_233, zin_234, zaa_234, zin_235, zin_236, zin_237, zin_238, zin_239, zin_240, zin_241, zin_242, zin_243, zin_244, zin_245, zin_246, zin_247, zin_248, zin_249, zin_250, zkc_251, zin_252, zin_253, zkc_374, zin_375, zin_376, zin_377, zin_378, zin_379, zin_380, zin_381, zin_382, zin_383, zin_384, zin_385, zin_386, zin_387, e1, e2, e3, e4, hk1, hk2, ↓reduceIte, cpR_s M f t k hft (by omega)]
      rw [show ((k : Int) + 1) = ((k + 1 : Nat) : Int) by omega]
      exact h9
  have h0 : cpR M f t 0 = M := by
    funext b j
    by_cases hb : b = 375
    · subst hb; rw [cpR_at, if_neg (by omega)]
    · unfold cpR; rw [zrow_ne _ _ hb]
  have h9 := loop 258 0 rfl
  rw [h0] at h9
  simp only [↓e112, ↓e112_0, ↓e112_1, ↓e112_3, ↓e112_6, ↓e112_9, ↓e112_10, ↓e112_13, ↓e112_16, ↓e112_17, ↓e112_18, ↓e112_19, ↓e112_20, ↓e112_21, ↓e112_24, ↓e112_27, ↓e112_28, ↓e112_29, ↓e112_30, ↓e112_31, ↓e112_32, ↓e112_33, ↓e112_36, ↓e112_39, znl_i, znl_r, znl_n, zcs_0, zcs_1, zcs_2, zcs_3, zcat_0, zcat_1, zcat_2, zcat_3, zbl_0, zbl_1, true_and, and_true, ↓zret_some, ↓zret_none, Nat.reduceAdd, Nat.reduceLeDiff, Nat.reduceMul, eq_self, Int.reduceToNat, Int.reduceLE, Int.reduceLT, Int.reduceNeg, and_self]
  exact h9
theorem cpR_ne (M : zM) (f t k : Nat) {b : Nat} (h : b ≠ 375) : cpR M f t k b = M b := by unfold cpR; rw [zrow_ne _ _ h]
theorem cpR_to (M : zM) (f t j : Nat) (hj : j < 258) : cpR M f t 258 375 (258 * t + j) = M 375 (258 * f + j) := by
  rw [cpR_at, if_pos (by omega)]
  congr 1
  omega
theorem cpR_off (M : zM) (f t : Nat) {j : Nat} (hj : j < 258 * t ∨ 258 * t + 258 ≤ j) : cpR M f t 258 375 j = M 375 j := by rw [cpR_at, if_neg (by omega)]
theorem s_keeps (d : Nat) (Q : zQ) (M : zM) (X : zX) (B : Int) (hX : WX B X) (hI : IR X M)
    (hQ : ∀ N, IR (push X (X 0)) N → (∀ b, b ≠ 374 → b ≠ 375 → N b = M b) → (∀ j, j ≠ 1 → N 374 j = M 374 j) → (∀ j, j < 258 ∨ 2322 ≤ j → N 375 j = M 375 j) → Q none N) : Sp (d + 2) 113 [.inr (.inr 374)] M Q := by
  obtain ⟨w1, w2, w3, w4, w5, w6⟩ := hX
  obtain ⟨h1, i2, i3, i4, i5, i6, i7, i8, i9⟩ := hI
  have hn : -2147483648 ≤ X 10 0 0 ∧ X 10 0 0 < 2147483648 := ⟨by omega, by omega⟩
  -- the end: the present world goes into row n
  have fin : ∀ (N : zM) (n : Nat) (w : Option zV), 1 ≤ n → n ≤ 8 → (n : Int) = push X (X 0) 10 0 0 → (∀ b, b ≠ 374 → b ≠ 375 → N b = M b) → (∀ j, j ≠ 1 → N 374 j = M 374 j) → N 374 1 = ((n : Nat) : Int) - 1 → (∀ j, j < 258 ∨ 2322 ≤ j → N 375 j = M 375 j) →
      (∀ k : Nat, 1 ≤ k → k < n → RelR' N (258 * k) (push X (X 0) k)) → RT (Sp (d + 1)) 113 Q 41 [some (.inr (.inr 374)), w] [] N := by
    intro N n w n1 n8 hpn f1 f2 f3 f4 f5
    have e1 : zup N 374 1 (n : Int) 374 1 = (n : Int) := zup_at _ _ _ _
    have e2 : ((n : Nat) : Int) - 1 + 1 = n := by omega
    have hcp := fun Q' => s_copies d Q' (zup N 374 1 (n : Int)) 0 n (by omega) (by omega) (by omega)
    have hcp : ∀ Q', Sp (d + 1) 112 [.inr (.inr 374), .inl 0, .inl (n : Int)] (zup N 374 1 (n : Int)) Q' = Q' none (cpR (zup N 374 1 (n : Int)) 0 n 258) := hcp
    simp only [↓e113, ↓e113_0, ↓e113_1, ↓e113_4, ↓e113_6, ↓e113_9, ↓e113_10, ↓e113_11, ↓e113_12, ↓e113_14, ↓e113_17, ↓e113_18, ↓e113_19, ↓e113_20, ↓e113_21, ↓e113_22, ↓e113_25, ↓e113_28, ↓e113_31, ↓e113_32, ↓e113_32i, ↓e113_33, ↓e113_36, ↓e113_37, ↓e113_38, ↓e113_41, ↓e113_42, ↓e113_42i, ↓e113_43, ↓e113_46, ↓e113_47, ↓e113_48, ↓e113_51, ↓e113_52, ↓e113_53, ↓e113_54, ↓e113_57, ↓e113_60, znl_i, znl_r, znl_n, zcs_0, zcs_1, zcs_2, zcs_3, zcat_0, zcat_1, zcat_2, zcat_3, zbl_0, zbl_1, true_and, and_true, ↓zret_some, ↓zret_none, Nat.reduceAdd, Nat.reduceLeDiff, Nat.reduceMul, eq_self, Int.reduceToNat, Int.reduceLE, Int.reduceLT, Int.reduceNeg, and_self, zkc_0, zin_1, zin_2, zin_3, zin_4, zin_5, zin_6, zin_7, zin_8, zin_9, zaa_9, zkc_10, zin_11, zin_12, zkc_13, zin_14, zin_15, zkc_16, zin_17, zin_18, zkc_19, zin_20, zin_21, zin_22, zin_23, zin_24, zin_25, zin_26, zin_27, zin_28, zaa_28, zkc_29, zin_30, zin_31, zkc_32, zin_33, zin_34, zkc_35, zin_36, zin_37, zkc_38, zin_39, zin_40, zin_41, zin_42, zin_43, zin_44, zin_45, zin_46, zin_47, zaa_47, zkc_48, zin_49, zin_50, zkc_51, zin_52, zin_53, zkc_54, zin_55, zin_56, zkc_209, zkc_210, zin_211, zaa_211, zkc_212, zin_213, zkc_214, zkc_215, zin_216, zin_217, zkc_218, zin_219, zin_220, zin_221, zkc_222, zin_223, zaa_223, zin_224, zin_225, zkc_226, zin_227, zin_228, zin_229, zin_230, zin_231, zin_232, zkc_233, zin_234, zaa_234, zin_235, zin_236, zin_237, zin_238, zin_239, zin_240, zin_241, zin_242, zin_243, zin_244, zin_245, zin_246, zin_247, zin_248, zin_249, zin_250, zkc_251, zin_252, zin_253, zkc_374, zin_375, zin_376, zin_377, zin_378, zin_379, zin_380, zin_381, zin_382, zin_383, zin_384, zin_385, zin_386, zin_387, f3, e1, e2, ↓hcp]
    have g1 : ∀ b, b ≠ 374 → b ≠ 375 → cpR (zup N 374 1 (n : Int)) 0 n 258 b = M b := fun b b1 b2 => by rw [cpR_ne _ _ _ _ b2, zup_ne _ _ _ b1, f1 b b1 b2]
    have g2 : ∀ j, j ≠ 1 → cpR (zup N 374 1 (n : Int)) 0 n 258 374 j = M 374 j := fun j hj => by rw [cpR_ne _ _ _ _ (by omega), zup_off _ _ (Or.inr hj), f2 j hj]
    have g3 : cpR (zup N 374 1 (n : Int)) 0 n 258 374 1 = (n : Int) := by rw [cpR_ne _ _ _ _ (by omega), zup_at]
    have g4 : ∀ j, j < 258 ∨ 2322 ≤ j → cpR (zup N 374 1 (n : Int)) 0 n 258 375 j = M 375 j := fun j hj => by rw [cpR_off _ _ _ (by omega), zup_ne _ _ _ (by omega), f4 j hj]
    refine hQ _ ?_ g1 g2 g4
    unfold IR
    rw [push_0, push_9 _ w2, push_o _ w2 (show (0 : Nat) ≠ 0 ∨ 1 ≠ 0 by omega), push_o _ w2 (show (0 : Nat) ≠ 0 ∨ 2 ≠ 0 by omega), push_o _ w2 (show (0 : Nat) ≠ 0 ∨ 3 ≠ 0 by omega), push_o _ w2 (show (0 : Nat) ≠ 0 ∨ 4 ≠ 0 by omega), g2 2 (by omega), g2 15 (by omega), g2 21 (by omega), g2 22 (by omega), g1 385 (by omega) (by omega), g3]
    refine ⟨RelR'_shift (o := 0) w1.1 (fun j hj => g4 _ (by omega)) h1, hpn, fun k k1 k2 => ?_, i4, fun z => RelR'_shift (w5 z).1 (fun j hj => g4 _ (by omega)) (i5 z), i6, fun j hj => ?_, i8, i9⟩
    · rw [← hpn] at k2
      by_cases z : k = n
      · subst z
        rw [push_k _ w2 k1 (by omega), if_pos hpn]
        refine RelR'_shift (o := 0) w1.1 (fun j hj => ?_) h1
        rw [cpR_to _ _ _ _ hj, zup_ne _ _ _ (by omega), f4 _ (by omega)]
      · have h9 := f5 k k1 (by omega)
        have hWk : WfS (push X (X 0) k) := ((WX_push ⟨w1, w2, w3, w4, w5, w6⟩ w1).2.2.1 k k1 (by omega)).1
        refine RelR'_shift hWk (fun j hj => ?_) h9
        rw [cpR_off _ _ _ (by omega), zup_ne _ _ _ (by omega)]
    · rw [push_o _ w2 (Or.inl (by omega))]
      exact i7 j hj
  by_cases a8 : X 10 0 0 = 8
  · have loop : ∀ n k : Nat, k + n = 8 → 1 ≤ k → ∀ N : zM, (∀ b, b ≠ 375 → N b = M b) → (∀ j, j < 258 ∨ 258 * k ≤ j → N 375 j = M 375 j) → (∀ i j : Nat, 1 ≤ i → i < k → j < 258 → N 375 (258 * i + j) = M 375 (258 * (i + 1) + j)) → RT (Sp (d + 1)) 113 Q 11 [some (.inr (.inr 374)), some (.inl (k : Int))] [] N := by
      intro n
      induction n with
      | zero =>
        intro k hk k1 N f1 f2 f3
        obtain rfl : k = 8 := by omega
        have e8 : N 374 1 = 8 := by rw [f1 374 (by omega), i2, a8]
        have h9 := fin (zup N 374 1 7) 8 (some (.inl 8)) (by omega) (by omega) (by rw [push_n _ w2, if_pos a8]; rfl) (fun b b1 b2 => by rw [zup_ne _ _ _ b1, f1 b b2]) (fun j hj => by rw [zup_off _ _ (Or.inr hj), f1 374 (by omega)]) (by rw [zup_at]; rfl) (fun j hj => by rw [zup_ne _ _ _ (by omega), f2 j (by omega)]) (fun k k1 k2 => by
          have hk := push_k (X 0) w2 k1 (by rw [push_n _ w2, if_pos a8]; omega)
          rw [push_n _ w2, if_pos a8, if_neg (by omega), if_pos a8] at hk
          rw [hk]
          refine RelR'_shift (w3 (k + 1) (by omega) (by omega)).1 (fun j hj => ?_) (i3 (k + 1) (by omega) (by omega))
          rw [zup_ne _ _ _ (by omega), f3 k j k1 k2 hj])
        rw [e113_11]
        simp only [↓e113, ↓e113_0, ↓e113_1, ↓e113_4, ↓e113_6, ↓e113_9, ↓e113_10, ↓e113_12, ↓e113_14, ↓e113_17, ↓e113_18, ↓e113_19, ↓e113_20, ↓e113_21, ↓e113_22, ↓e113_25, ↓e113_28, ↓e113_31, ↓e113_32, ↓e113_32i, ↓e113_33, ↓e113_36, ↓e113_37, ↓e113_38, ↓e113_42, ↓e113_42i, ↓e113_43, ↓e113_46, ↓e113_47, ↓e113_48, ↓e113_51, ↓e113_52, ↓e113_53, ↓e113_54, ↓e113_57, ↓e113_60, znl_i, znl_r, znl_n, zcs_0, zcs_1, zcs_2, zcs_3, zcat_0, zcat_1, zcat_2, zcat_3, zbl_0, zbl_1, true_and, and_true, ↓zret_some, ↓zret_none, Nat.reduceAdd, Nat.reduceLeDiff, Nat.reduceMul, eq_self, Int.reduceToNat, Int.reduceLE, Int.reduceLT, Int.reduceNeg, and_self, zrg, zkc_0, zin_1, zin_2, zin_3, zin_4, zin_5, zin_6, zin_7, zin_8, zin_9, zaa_9, zkc_10, zin_11, zin_12, zkc_13, zin_14, zin_15, zkc_16, zin_17, zin_18, zkc_19, zin_20, zin_21, zin_22, zin_23, zin_24, zin_25, zin_26, zin_27, zin_28, zaa_28, zkc_29, zin_30, zin_31, zkc_32, zin_33, zin_34, zkc_35, zin_36, zin_37, zkc_38, zin_39, zin_40, zin_41, zin_42, zin_43, zin_44, zin_45, zin_46, zin_47, zaa_47, zkc_48, zin_49, zin_50, zkc_51, zin_52, zin_53, zkc_54, zin_55, zin_56, zkc_209, zkc_210, zin_211, zaa_211, zkc_212, zin_213, zkc_214, zkc_215, zin_216, zin_217, zkc_218, zin_219, zin_220, zin_221, zkc_222, zin_223, zaa_223, zin_224, zin_225, zkc_226, zin_227, zin_228, zin_229, zin_230, zin_231, zin_232, zkc_233, zin_234, zaa_234, zin_235, zin_236, zin_237, zin_238, zin_239, zin_240, zin_241, zin_242, zin_243, zin_244, zin_245, zin_246, zin_247, zin_248, zin_249, zin_250, zkc_251, zin_252, zin_253, zkc_374, zin_375, zin_376, zin_377, zin_378, zin_379, zin_380, zin_381, zin_382, zin_383, zin_384, zin_385, zin_386, zin_387, Int.cast_ofNat_Int, ge_iff_le, Int.le_refl, ↓reduceIte, e8, Int.reduceSub]
        exact h9
      | succ n ih =>
        intro k hk k1 N f1 f2 f3
        have hk1 : ¬ (k : Int) ≥ 8 := by omega
        have hk2 : -2147483648 ≤ (k : Int) ∧ (k : Int) < 2147483648 := ⟨by omega, by omega⟩
        have e1 : ((k : Int) + 1) = ((k + 1 : Nat) : Int) := by omega
        have hcp := fun Q' => s_copies d Q' N (k + 1) k (by omega) (by omega) (by omega)
        have h9 := ih (k + 1) (by omega) (by omega) (cpR N (k + 1) k 258) (fun b hb => by rw [cpR_ne _ _ _ _ hb, f1 b hb]) (fun j hj => by rw [cpR_off _ _ _ (by omega), f2 j (by omega)]) (fun i j i1 i2 hj => by
          by_cases z : i = k
          · subst z
            rw [cpR_to _ _ _ _ hj, f2 _ (by omega)]
          · rw [cpR_off _ _ _ (by omega), f3 i j i1 (by omega) hj])
        rw [e113_11]
        simp only [↓e113, ↓e113_0, ↓e113_1, ↓e113_4, ↓e113_6, ↓e113_9, ↓e113_10, ↓e113_12, ↓e113_14, ↓e113_17, ↓e113_18, ↓e113_19, ↓e113_20, ↓e113_21, ↓e113_22, ↓e113_25, ↓e113_28, ↓e113_31, ↓e113_32, ↓e113_32i, ↓e113_33, ↓e113_36, ↓e113_37, ↓e113_38, ↓e113_41, ↓e113_42, ↓e113_42i, ↓e113_43, ↓e113_46, ↓e113_47, ↓e113_48, ↓e113_51, ↓e113_52, ↓e113_53, ↓e113_54, ↓e113_57, ↓e113_60, znl_i, znl_r, znl_n, zcs_0, zcs_1, zcs_2, zcs_3, zcat_0, zcat_1, zcat_2, zcat_3, zbl_0, zbl_1, true_and, and_true, ↓zret_some, ↓zret_none, Nat.reduceAdd, Nat.reduceLeDiff, Nat.reduceMul, eq_self, Int.reduceToNat, Int.reduceLE, Int.reduceLT, Int.reduceNeg, and_self, zrg, zkc_0, zin_1, zin_2, zin_3, zin_4, zin_5, zin_6, zin_7, zin_8, zin_9, zaa_9, zkc_10, zin_11, zin_12, zkc_13, zin_14, zin_15, zkc_16, zin_17, zin_18, zkc_19, zin_20, zin_21, zin_22, zin_23, zin_24, zin_25, zin_26, zin_27, zin_28, zaa_28, zkc_29, zin_30, zin_31, zkc_32, zin_33, zin_34, zkc_35, zin_36, zin_37, zkc_38, zin_39, zin_40, zin_41, zin_42, zin_43, zin_44, zin_45, zin_46, zin_47, zaa_47, zkc_48, zin_49, zin_50, zkc_51, zin_52, zin_53, zkc_54, zin_55, zin_56, zkc_209, zkc_210, zin_211, zaa_211, zkc_212, zin_213, zkc_214, zkc_215, zin_216, zin_217, zkc_218, zin_219, zin_220, zin_221, zkc_222, zin_223, zaa_223, zin_224, zin_225, zkc_226, zin_227, zin_228, zin_229, zin_230, zin_231, zin_232, zkc_233, zin_234, zaa_234, zin_235, zin_236, zin_237, zin_238, zin_239, zin_240, zin_241, zin_242, zin_243, zin_244, zin_245, zin_246, zin_247, zin_248, zin_249, zin_250, zkc_251, zin_252, zin_253, zkc_374, zin_375, zin_376, zin_377, zin_378, zin_379, zin_380, zin_381, zin_382, zin_383, zin_384, zin_385, zin_386, zin_387, hk1, hk2, ↓reduceIte, e1, ↓hcp]
        exact h9
    have h9 := loop 7 1 rfl (by omega) M (fun _ _ => rfl) (fun _ _ => rfl) (fun i j i1 i2 => by omega)
    simp only [↓e113, ↓e113_0, ↓e113_1, ↓e113_4, ↓e113_6, ↓e113_9, ↓e113_10, ↓e113_12, ↓e113_14, ↓e113_17, ↓e113_18, ↓e113_19, ↓e113_20, ↓e113_21, ↓e113_22, ↓e113_25, ↓e113_28, ↓e113_31, ↓e113_32, ↓e113_32i, ↓e113_33, ↓e113_36, ↓e113_37, ↓e113_38, ↓e113_42, ↓e113_42i, ↓e113_43, ↓e113_46, ↓e113_47, ↓e113_48, ↓e113_51, ↓e113_52, ↓e113_53, ↓e113_54, ↓e113_57, ↓e113_60, znl_i, znl_r, znl_n, zcs_0, zcs_1, zcs_2, zcs_3, zcat_0, zcat_1, zcat_2, zcat_3, zbl_0, zbl_1, true_and, and_true, ↓zret_some, ↓zret_none, Nat.reduceAdd, Nat.reduceLeDiff, Nat.reduceMul, eq_self, Int.reduceToNat, Int.reduceLE, Int.reduceLT, Int.reduceNeg, and_self, zrg, zkc_0, zin_1, zin_2, zin_3, zin_4, zin_5, zin_6, zin_7, zin_8, zin_9, zaa_9, zkc_10, zin_11, zin_12, zkc_13, zin_14, zin_15, zkc_16, zin_17, zin_18, zkc_19, zin_20, zin_21, zin_22, zin_23, zin_24, zin_25, zin_26, zin_27, zin_28, zaa_28, zkc_29, zin_30, zin_31, zkc_32, zin_33, zin_34, zkc_35, zin_36, zin_37, zkc_38, zin_39, zin_40, zin_41, zin_42, zin_43, zin_44, zin_45, zin_46, zin_47, zaa_47, zkc_48, zin_49, zin_50, zkc_51, zin_52, zin_53, zkc_54, zin_55, zin_56, zkc_209, zkc_210, zin_211, zaa_211, zkc_212, zin_213, zkc_214, zkc_215, zin_216, zin_217, zkc_218, zin_219, zin_220, zin_221, zkc_222, zin_223, zaa_223, zin_224, zin_225, zkc_226, zin_227, zin_228, zin_229, zin_230, zin_231, zin_232, zkc_233, zin_234, zaa_234, zin_235, zin_236, zin_237, zin_238, zin_239, zin_240, zin_241, zin_242, zin_243, zin_244, zin_245, zin_246, zin_247, zin_248, zin_249, zin_250, zkc_251, zin_252, zin_253, zkc_374, zin_375, zin_376, zin_377, zin_378, zin_379, zin_380, zin_381, zin_382, zin_383, zin_384, zin_385, zin_386, zin_387, i2, hn, a8, ne_eq, not_true_eq_false, ↓reduceIte]
    exact h9
  · have h9 := fin M ((X 10 0 0).toNat + 1) none (by omega) (by omega) (by rw [push_n _ w2, if_neg a8]; omega) (fun _ _ _ => rfl) (fun _ _ => rfl) (by rw [i2]; omega) (fun _ _ => rfl) (fun k k1 k2 => by
      have hk := push_k (X 0) w2 k1 (by rw [push_n _ w2, if_neg a8]; omega)
      rw [push_n _ w2, if_neg a8, if_neg (by omega), if_neg a8] at hk
      rw [hk]
      exact i3 k k1 (by omega))
    simp only [↓e113, ↓e113_0, ↓e113_1, ↓e113_4, ↓e113_6, ↓e113_9, ↓e113_10, ↓e113_12, ↓e113_14, ↓e113_17, ↓e113_18, ↓e113_19, ↓e113_20, ↓e113_21, ↓e113_22, ↓e113_25, ↓e113_28, ↓e113_31, ↓e113_32, ↓e113_32i, ↓e113_33, ↓e113_36, ↓e113_37, ↓e113_38, ↓e113_42, ↓e113_42i, ↓e113_43, ↓e113_46, ↓e113_47, ↓e113_48, ↓e113_51, ↓e113_52, ↓e113_53, ↓e113_54, ↓e113_57, ↓e113_60, znl_i, znl_r, znl_n, zcs_0, zcs_1, zcs_2, zcs_3, zcat_0, zcat_1, zcat_2, zcat_3, zbl_0, zbl_1, true_and, and_true, ↓zret_some, ↓zret_none, Nat.reduceAdd, Nat.reduceLeDiff, Nat.reduceMul, eq_self, Int.reduceToNat, Int.reduceLE, Int.reduceLT, Int.reduceNeg, and_self, zrg, zkc_0, zin_1, zin_2, zin_3, zin_4, zin_5, zin_6, zin_7, zin_8, zin_9, zaa_9, zkc_10, zin_11, zin_12, zkc_13, zin_14, zin_15, zkc_16, zin_17, zin_18, zkc_19, zin_20, zin_21, zin_22, zin_23, zin_24, zin_25, zin_26, zin_27, zin_28, zaa_28, zkc_29, zin_30, zin_31, zkc_32, zin_33, zin_34, zkc_35, zin_36, zin_37, zkc_38, zin_39, zin_40, zin_41, zin_42, zin_43, zin_44, zin_45, zin_46, zin_47, zaa_47, zkc_48, zin_49, zin_50, zkc_51, zin_52, zin_53, zkc_54, zin_55, zin_56, zkc_209, zkc_210, zin_211, zaa_211, zkc_212, zin_213, zkc_214, zkc_215, zin_216, zin_217, zkc_218, zin_219, zin_220, zin_221, zkc_222, zin_223, zaa_223, zin_224, zin_225, zkc_226, zin_227, zin_228, zin_229, zin_230, zin_231, zin_232, zkc_233, zin_234, zaa_234, zin_235, zin_236, zin_237, zin_238, zin_239, zin_240, zin_241, zin_242, zin_243, zin_244, zin_245, zin_246, zin_247, zin_248, zin_249, zin_250, zkc_251, zin_252, zin_253, zkc_374, zin_375, zin_376, zin_377, zin_378, zin_379, zin_380, zin_381, zin_382, zin_383, zin_384, zin_385, zin_386, zin_387, i2, hn, ne_eq, a8, not_false_eq_true, ↓reduceIte]
    exact h9
