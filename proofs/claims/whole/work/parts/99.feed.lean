/-! ### feed agrees -/
def fdX (X : zX) (n : Nat) (v : Nat → Int) : zX := fun k => if k = 10 then zrow (zup (X 10) 0 2 (X 10 0 2 + n)) 1 (fun j => if X 10 0 2 ≤ j ∧ (j : Int) < X 10 0 2 + n then v (j - (X 10 0 2).toNat) else X 10 1 j) else X k
theorem fd_k (X : zX) (n : Nat) (v : Nat → Int) {k : Nat} (h : k ≠ 10) : fdX X n v k = X k := if_neg h
theorem fd_0 (X : zX) (n : Nat) (v : Nat → Int) (j : Nat) : fdX X n v 10 0 j = if j = 2 then X 10 0 2 + n else X 10 0 j := by
  unfold fdX
  rw [if_pos rfl, zrow_ne _ _ (by omega)]
  by_cases z : j = 2
  · subst z; rw [zup_at, if_pos rfl]
  · rw [zup_off _ _ (Or.inr z), if_neg z]
theorem fd_1 (X : zX) (n : Nat) (v : Nat → Int) (j : Nat) : fdX X n v 10 1 j = if X 10 0 2 ≤ j ∧ (j : Int) < X 10 0 2 + n then v (j - (X 10 0 2).toNat) else X 10 1 j := by
  unfold fdX
  rw [if_pos rfl, zrow_self]
/-- IC and IR, of all but the tape -/
theorem IC_tape {B : Int} {X Y : zX} {M N : zM} (hX : WX B X) (hC : IC X M) (hk : ∀ k, k ≠ 10 → Y k = X k) (h0 : ∀ j, j ≠ 2 → Y 10 0 j = X 10 0 j) (h : ∀ b, b < 214 → b ≠ 212 → b ≠ 213 → N b = M b) (h2 : N 212 0 = Y 10 0 2) (h3 : ∀ j : Nat, (j : Int) < Y 10 0 2 → N 213 j = Y 10 1 j) (hV : Wv N (X 0 0)) : IC Y N := by
  obtain ⟨h1, -, ⟨nx, p1, p2, p3, p4⟩, q1, q2, q3, q4, q5, q6⟩ := hC
  refine ⟨?_, ?_, ⟨nx, p1, ?_, ?_, fun k k1 k2 => ?_⟩, ?_, fun z => ?_, h2, h3, ?_, ?_⟩
  · rw [hk 0 (by omega)]; exact RelC_congr (fun b hb => h b (by omega) (by omega) (by omega)) h1
  · rw [hk 0 (by omega)]; exact hV
  · rw [h 210 (by omega) (by omega) (by omega)]; exact p2
  · rw [h0 0 (by omega), h 210 (by omega) (by omega) (by omega)]; exact p3
  · rw [h0 0 (by omega)] at k2 ⊢
    have h8 := hX.2.1
    have k10 : k ≤ 8 := by omega
    rw [hk k (by omega)]
    have e : (nx + 7 + k - (X 10 0 0).toNat) % 8 < 8 := by omega
    have p5 := p4 k k1 k2
    generalize (nx + 7 + k - (X 10 0 0).toNat) % 8 = i at *
    exact RelC_cong (fun b b1 b2 => h b (by omega) (by omega) (by omega)) p5
  · rw [h0 1 (by omega), h 209 (by omega) (by omega) (by omega)]; exact q1
  · rw [h0 1 (by omega)] at z
    rw [hk 9 (by omega)]
    exact RelC_cong (fun b b1 b2 => h b (by omega) (by omega) (by omega)) (q2 z)
  · rw [h0 3 (by omega), h 209 (by omega) (by omega) (by omega)]; exact q5
  · rw [h0 3 (by omega), h0 4 (by omega), h 209 (by omega) (by omega) (by omega)]; exact q6
theorem IR_tape {B : Int} {X Y : zX} {M N : zM} (hX : WX B X) (hI : IR X M) (hk : ∀ k, k ≠ 10 → Y k = X k) (h0 : ∀ j, j ≠ 2 → Y 10 0 j = X 10 0 j) (h5 : ∀ j, j < 2580 → N 375 j = M 375 j) (h4 : ∀ j, j = 1 ∨ j = 2 ∨ j = 21 ∨ j = 22 → N 374 j = M 374 j) (h2 : N 374 15 = Y 10 0 2) (h3 : ∀ j : Nat, (j : Int) < Y 10 0 2 → N 385 j = Y 10 1 j) : IR Y N := by
  obtain ⟨w1, w2, w3, w4, w5, w6, w7, w8⟩ := hX
  obtain ⟨h1, i2, i3, i4, i5, i6, i7, i8, i9⟩ := hI
  refine ⟨?_, ?_, fun k k1 k2 => ?_, ?_, fun z => ?_, h2, h3, ?_, fun z => ?_⟩
  · rw [hk 0 (by omega)]; exact RelR'_shift (o := 0) w1.1 (fun j hj => h5 _ (by omega)) h1
  · rw [h0 0 (by omega), h4 1 (by omega)]; exact i2
  · rw [h0 0 (by omega)] at k2
    rw [hk k (by omega)]
    exact RelR'_shift (w3 k k1 k2).1 (fun j hj => h5 _ (by omega)) (i3 k k1 k2)
  · rw [h0 1 (by omega), h4 2 (by omega)]; exact i4
  · rw [h0 1 (by omega)] at z
    rw [hk 9 (by omega)]
    exact RelR'_shift (w5 z).1 (fun j hj => h5 _ (by omega)) (i5 z)
  · rw [h0 3 (by omega), h4 21 (by omega)]; exact i8
  · rw [h0 3 (by omega)] at z
    rw [h0 4 (by omega), h4 22 (by omega)]; exact i9 z
theorem WX_tape {B : Int} {X Y : zX} (hX : WX B X) (hk : ∀ k, k ≠ 10 → Y k = X k) (h0 : ∀ j, j ≠ 2 → Y 10 0 j = X 10 0 j) (h2 : 0 ≤ Y 10 0 2 ∧ Y 10 0 2 ≤ 60) (h3 : ∀ j : Nat, (j : Int) < Y 10 0 2 → 0 ≤ Y 10 1 j ∧ Y 10 1 j ≤ 127) : WX B Y := by
  obtain ⟨w1, w2, w3, w4, w5, w6, w7, w8⟩ := hX
  unfold WX
  rw [hk 0 (by omega), hk 9 (by omega), h0 0 (by omega), h0 1 (by omega), h0 3 (by omega)]
  exact ⟨w1, w2, fun k k1 k2 => by rw [hk k (by omega)]; exact w3 k k1 k2, w4, w5, h2, h3, w8⟩
/-- the tape with k bytes more -/
def Tp (M N : zM) (t : Nat) (v : Nat → Int) (k : Nat) : Prop := N 212 0 = ((t + k : Nat) : Int) ∧ (∀ j, j < k → N 213 (t + j) = v j) ∧ (∀ j, j < t → N 213 j = M 213 j) ∧ ∀ b, b ≠ 212 → b ≠ 213 → N b = M b
theorem s_append (d : Nat) (Q : zQ) (M N : zM) (t k : Nat) (v : Nat → Int) (h : t + k < 60) (hT : Tp M N t v k) (hQ : ∀ P, Tp M P t v (k + 1) → Q none P) : Sp (d + 1) 36 [.inr (.inr 212), .inl (v k)] N Q := by
  obtain ⟨h1, h2, h3, h4⟩ := hT
  have e0 : 0 ≤ ((t + k : Nat) : Int) ∧ ((t + k : Nat) : Int) < 60 := ⟨by omega, by omega⟩
  have e1 : -2147483648 ≤ ((t + k : Nat) : Int) ∧ ((t + k : Nat) : Int) < 2147483648 := ⟨by omega, by omega⟩
  have e2 : zup N 213 (t + k) (v k) 212 0 = ((t + k : Nat) : Int) := by rw [zup_off _ _ (by omega), h1]
  have h9 := hQ (zup (zup N 213 (t + k) (v k)) 212 0 (((t + k : Nat) : Int) + 1)) ⟨by rw [zup_at]; omega, fun j hj => by
    rw [zup_off _ _ (by omega)]
    by_cases z : j = k
    · subst z; exact zup_at _ _ _ _
    · rw [zup_off _ _ (by omega)]; exact h2 j (by omega), fun j hj => by rw [zup_off _ _ (by omega), zup_off _ _ (by omega)]; exact h3 j hj, fun b b1 b2 => by rw [zup_ne _ _ _ b1, zup_ne _ _ _ b2]; exact h4 b b1 b2⟩
  simp only [↓e36, ↓e36_0, ↓e36_1, ↓e36_4, ↓e36_6, ↓e36_9, ↓e36_10, ↓e36_13, ↓e36_14, ↓e36_17, ↓e36_18, ↓e36_19, ↓e36_20, ↓e36_20i, ↓e36_21, ↓e36_24, ↓e36_25, ↓e36_26, ↓e36_29, znl_i, znl_r, znl_n, zcs_0, zcs_1, zcs_2, zcs_3, zcat_0, zcat_1, zcat_2, zcat_3, zbl_0, zbl_1, true_and, and_true, ↓zret_some, ↓zret_none, Nat.reduceAdd, Nat.reduceLeDiff, Nat.reduceMul, eq_self, Int.reduceToNat, Int.reduceLE, Int.reduceLT, Int.reduceNeg, and_self, zrg, zkc_0, zin_1, zin_2, zin_3, zin_4, zin_5, zin_6, zin_7, zin_8, zin_9, zaa_9, zkc_10, zin_11, zin_12, zkc_13, zin_14, zin_15, zkc_16, zin_17, zin_18, zkc_19, zin_20, zin_21, zin_22, zin_23, zin_24, zin_25, zin_26, zin_27, zin_28, zaa_28, zkc_29, zin_30, zin_31, zkc_32, zin_33, zin_34, zkc_35, zin_36, zin_37, zkc_38, zin_39, zin_40, zin_41, zin_42, zin_43, zin_44, zin_45, zin_46, zin_47, zaa_47, zkc_48, zin_49, zin_50, zkc_51, zin_52, zin_53, zkc_54, zin_55, zin_56, zkc_209, zkc_210, zin_211, zaa_211, zkc_212, zin_213, zkc_214, zkc_215, zin_216, zin_217, zkc_218, zin_219, zin_220, zin_221, zkc_222, zin_223, zaa_223, zin_224, zin_225, zkc_226, zin_227, zin_228, zin_229, zin_230, zin_231, zin_232, zkc_233, zin_234, zaa_234, zin_235, zin_236, zin_237, zin_238, zin_239, zin_240, zin_241, zin_242, zin_243, zin_244, zin_245, zin_246, zin_247, zin_248, zin_249, zin_250, zkc_251, zin_252, zin_253, zkc_374, zin_375, zin_376, zin_377, zin_378, zin_379, zin_380, zin_381, zin_382, zin_383, zin_384, zin_385, zin_386, zin_387, h1, e0, e1, show ¬ ((t + k : Nat) : Int) ≥ 60 by omega, ↓reduceIte, Int.toNat_natCast, e2]
  exact h9
def fv (a b c e f : Int) : Nat → Int := fun k => if k = 0 then a else if k = 1 then b else if k = 2 then c else if k = 3 then e else f
theorem j_feed (d : Nat) (B : Int) (X : zX) (M : zM) (x a b c e f : Int) (hx : zrg x) (ha : zrg a) (hb : zrg b) (hc : zrg c) (he : zrg e) (hf : zrg f) (hC : IC X M) (hI : IR X M) (hX : WX B X) : Jt d B 72 154 [.inl x, .inl a, .inl b, .inl c, .inl e, .inl f] M := by
  have hx' := hx
  simp only [zrg] at hx'
  have cB := fun y (hy : zrg y) Q P => s_isByte (d + 8) Q P y hy
  have ci := fun Q P => s_in (d + 8) Q P x 1 5 hx ⟨by omega, by omega⟩ ⟨by omega, by omega⟩
  have rB := fun y (hy : zrg y) Q P => s_in (d + 8) Q P y 0 127 hy ⟨by omega, by omega⟩ ⟨by omega, by omega⟩
  have ca := cB a ha
  have cb := cB b hb
  have cc := cB c hc
  have ce := cB e he
  have cf := cB f hf
  have ra := rB a ha
  have rb := rB b hb
  have rc := rB c hc
  have re := rB e he
  have rf := rB f hf
  have za := zb01 (0 ≤ a ∧ a ≤ 127)
  have zbb := zb01 (0 ≤ b ∧ b ≤ 127)
  have zc := zb01 (0 ≤ c ∧ c ≤ 127)
  have ze := zb01 (0 ≤ e ∧ e ≤ 127)
  have zf := zb01 (0 ≤ f ∧ f ≤ 127)
  have zx := zb01 (1 ≤ x ∧ x ≤ 5)
  obtain ⟨w1, w2, w3, w4, w5, w6, w7, w8⟩ := id hX
  have q3 := hC.2.2.2.2.2.1
  have q4 := hC.2.2.2.2.2.2.1
  obtain ⟨h1, i2, i3, i4, i5, i6, i7, i8, i9⟩ := id hI
  unfold Jt
  have iff0 : ∀ (p : Prop) [Decidable p], zb p = 0 ↔ ¬ p := fun p _ => by unfold zb; split <;> simp_all
  by_cases hall : (1 ≤ x ∧ x ≤ 5) ∧ (0 ≤ a ∧ a ≤ 127) ∧ (0 ≤ b ∧ b ≤ 127) ∧ (0 ≤ c ∧ c ≤ 127) ∧ (0 ≤ e ∧ e ≤ 127) ∧ (0 ≤ f ∧ f ≤ 127)
  · obtain ⟨hx5, ha5, hb5, hc5, he5, hf5⟩ := hall
    simp only [show zb (0 ≤ a ∧ a ≤ 127) = 1 from if_pos ha5] at ca ra
    simp only [show zb (0 ≤ b ∧ b ≤ 127) = 1 from if_pos hb5] at cb rb
    simp only [show zb (0 ≤ c ∧ c ≤ 127) = 1 from if_pos hc5] at cc rc
    simp only [show zb (0 ≤ e ∧ e ≤ 127) = 1 from if_pos he5] at ce re
    simp only [show zb (0 ≤ f ∧ f ≤ 127) = 1 from if_pos hf5] at cf rf
    simp only [show zb (1 ≤ x ∧ x ≤ 5) = 1 from if_pos hx5] at ci
    obtain ⟨n, rfl⟩ : ∃ n : Nat, x = n := ⟨x.toNat, by omega⟩
    obtain ⟨t, ht⟩ : ∃ t : Nat, X 10 0 2 = t := ⟨(X 10 0 2).toNat, by omega⟩
    have hM : M 212 0 = (t : Int) := q3.trans ht
    have hN : M 374 15 = (t : Int) := i6.trans ht
    have htn : -2147483648 ≤ (t : Int) + (n : Int) ∧ (t : Int) + (n : Int) < 2147483648 := ⟨by omega, by omega⟩
    by_cases hfull : (t : Int) + (n : Int) ≤ 60
    · have T0 : Tp M M t (fv a b c e f) 0 := ⟨hM, fun j hj => absurd hj (Nat.not_lt_zero j), fun _ _ => rfl, fun _ _ _ => rfl⟩
      -- the reference
      have refr : ∀ P, Tp M P t (fv a b c e f) n → JC d B 154 [.inl (n : Int), .inl a, .inl b, .inl c, .inl e, .inl f] (some (.inl ((t + n : Nat) : Int))) P := by
        intro P hT
        have hC2 : IC (fdX X n (fv a b c e f)) P := by
          refine IC_tape hX hC (fun k hk => fd_k _ _ _ hk) (fun j hj => by rw [fd_0, if_neg hj]) (fun b' b1 b2 b3 => hT.2.2.2 b' b2 b3) (by rw [fd_0, if_pos rfl, hT.1, ht]; omega) (fun j hj => ?_) ?_
          · rw [fd_0, if_pos rfl, ht] at hj
            rw [fd_1, ht, Int.toNat_natCast]
            by_cases z : t ≤ j
            · rw [if_pos ⟨by omega, hj⟩]
              have := hT.2.1 (j - t) (by omega)
              rw [show t + (j - t) = j by omega] at this
              exact this
            · rw [if_neg (fun y => z (by omega)), hT.2.2.1 j (by omega)]
              exact q4 j (by omega)
          · intro x hx
            rw [hT.2.2.2 224 (by omega) (by omega), hT.2.2.2 (254 + x) (by omega) (by omega)]
            exact hC.2.1 x hx
        have hIP := IR_cong (fun b' hb' => hT.2.2.2 b' (by omega) (by omega)) hI
        refine JC_i ?_
        have hP15 : P 374 15 = (t : Int) := by rw [hT.2.2.2 374 (by omega) (by omega)]; exact hN
        have loop : ∀ q k : Nat, k + q = n → ∀ N : zM, (∀ b', b' ≠ 374 → b' ≠ 385 → N b' = P b') → (∀ j, j ≠ 15 → N 374 j = P 374 j) → N 374 15 = ((t + k : Nat) : Int) → (∀ j, j < k → N 385 (t + j) = fv a b c e f j) → (∀ j, j < t → N 385 j = P 385 j) → RT (Sp (d + 9)) 154 (JE B ((t + n : Nat) : Int)) 82 [some (.inr (.inr 374)), some (.inl (n : Int)), some (.inl a), some (.inl b), some (.inl c), some (.inl e), some (.inl f), some (.inl (k : Int))] [] N := by
          intro q
          induction q with
          | zero =>
            intro k hk N g1 g2 g3 g4 g5
            obtain rfl : k = n := by omega
            have h9 : JE B ((t + k : Nat) : Int) (some (.inl ((t + k : Nat) : Int))) N := by
              refine JE_i (X := fdX X k (fv a b c e f)) (IC_cong (fun b' hb' => g1 b' (by omega) (by omega)) hC2) (IR_tape hX hIP (fun k hk => fd_k _ _ _ hk) (fun j hj => by rw [fd_0, if_neg hj]) (fun j hj => by rw [g1 375 (by omega) (by omega)]) (fun j hj => g2 j (by omega)) (by rw [fd_0, if_pos rfl, g3, ht]; omega) (fun j hj => ?_)) (WX_tape hX (fun k hk => fd_k _ _ _ hk) (fun j hj => by rw [fd_0, if_neg hj]) (by rw [fd_0, if_pos rfl, ht]; omega) (fun j hj => ?_))
              · rw [fd_0, if_pos rfl, ht] at hj
                rw [fd_1, ht, Int.toNat_natCast]
                by_cases z : t ≤ j
                · rw [if_pos ⟨by omega, hj⟩]
                  have := g4 (j - t) (by omega)
                  rw [show t + (j - t) = j by omega] at this
                  exact this
                · rw [if_neg (fun y => z (by omega)), g5 j (by omega)]
                  exact hIP.2.2.2.2.2.2.1 j (by omega)
              · rw [fd_0, if_pos rfl, ht] at hj
                rw [fd_1, ht]
                split
                · unfold fv
                  (repeat' split) <;> assumption
                · exact w7 j (by omega)
            rw [e154_82]
            simp only [↓e154, ↓e154_0, ↓e154_1, ↓e154_2, ↓e154_3, ↓e154_6, ↓e154_9, ↓e154_10, ↓e154_11, ↓e154_13, ↓e154_16, ↓e154_19, ↓e154_20, ↓e154_21, ↓e154_23, ↓e154_26, ↓e154_29, ↓e154_31, ↓e154_32, ↓e154_34, ↓e154_37, ↓e154_40, ↓e154_42, ↓e154_43, ↓e154_45, ↓e154_48, ↓e154_51, ↓e154_53, ↓e154_54, ↓e154_56, ↓e154_59, ↓e154_62, ↓e154_64, ↓e154_65, ↓e154_66, ↓e154_69, ↓e154_70, ↓e154_71, ↓e154_73, ↓e154_76, ↓e154_78, ↓e154_79, ↓e154_80, ↓e154_84, ↓e154_85, ↓e154_88, ↓e154_89, ↓e154_92, ↓e154_93, ↓e154_96, ↓e154_98, ↓e154_101, ↓e154_102, ↓e154_105, ↓e154_107, ↓e154_108, ↓e154_111, ↓e154_112, ↓e154_115, ↓e154_117, ↓e154_118, ↓e154_121, ↓e154_123, ↓e154_126, ↓e154_128, ↓e154_129, ↓e154_132, ↓e154_134, ↓e154_137, ↓e154_139, ↓e154_140, ↓e154_141, ↓e154_141i, ↓e154_142, ↓e154_145, ↓e154_146, ↓e154_147, ↓e154_150, ↓e154_153, ↓e154_156, ↓e154_157, ↓e154_160, znl_i, znl_r, znl_n, zcs_0, zcs_1, zcs_2, zcs_3, zcat_0, zcat_1, zcat_2, zcat_3, zbl_0, zbl_1, true_and, and_true, ↓zret_some, ↓zret_none, Nat.reduceAdd, Nat.reduceLeDiff, Nat.reduceMul, eq_self, Int.reduceToNat, Int.reduceLE, Int.reduceLT, Int.reduceNeg, and_self, zrg, zkc_0, zin_1, zin_2, zin_3, zin_4, zin_5, zin_6, zin_7, zin_8, zin_9, zaa_9, zkc_10, zin_11, zin_12, zkc_13, zin_14, zin_15, zkc_16, zin_17, zin_18, zkc_19, zin_20, zin_21, zin_22, zin_23, zin_24, zin_25, zin_26, zin_27, zin_28, zaa_28, zkc_29, zin_30, zin_31, zkc_32, zin_33, zin_34, zkc_35, zin_36, zin_37, zkc_38, zin_39, zin_40, zin_41, zin_42, zin_43, zin_44, zin_45, zin_46, zin_47, zaa_47, zkc_48, zin_49, zin_50, zkc_51, zin_52, zin_53, zkc_54, zin_55, zin_56, zkc_209, zkc_210, zin_211, zaa_211, zkc_212, zin_213, zkc_214, zkc_215, zin_216, zin_217, zkc_218, zin_219, zin_220, zin_221, zkc_222, zin_223, zaa_223, zin_224, zin_225, zkc_226, zin_227, zin_228, zin_229, zin_230, zin_231, zin_232, zkc_233, zin_234, zaa_234, zin_235, zin_236, zin_237, zin_238, zin_239, zin_240, zin_241, zin_242, zin_243, zin_244, zin_245, zin_246, zin_247, zin_248, zin_249, zin_250, zkc_251, zin_252, zin_253, zkc_374, zin_375, zin_376, zin_377, zin_378, zin_379, zin_380, zin_381, zin_382, zin_383, zin_384, zin_385, zin_386, zin_387, hx', ge_iff_le, Int.le_refl, ↓reduceIte, g3]
            exact h9
          | succ q ih =>
            intro k hk N g1 g2 g3 g4 g5
            have hk1 : ¬ (k : Int) ≥ (n : Int) := by omega
            have hk2 : -2147483648 ≤ (k : Int) ∧ (k : Int) < 2147483648 := ⟨by omega, by omega⟩
            have e0 : 0 ≤ ((t + k : Nat) : Int) ∧ ((t + k : Nat) : Int) < 60 := ⟨by omega, by omega⟩
            have h9 := ih (k + 1) (by omega) (zup (zup N 385 (t + k) (fv a b c e f k)) 374 15 (((t + k : Nat) : Int) + 1)) (fun b' b1 b2 => by rw [zup_ne _ _ _ b1, zup_ne _ _ _ b2, g1 b' b1 b2]) (fun j hj => by rw [zup_off _ _ (Or.inr hj), zup_off _ _ (by omega), g2 j hj]) (by rw [zup_at]; omega) (fun j hj => by
              rw [zup_off _ _ (by omega)]
              by_cases z : j = k
              · subst z; exact zup_at _ _ _ _
              · rw [zup_off _ _ (by omega)]; exact g4 j (by omega)) (fun j hj => by rw [zup_off _ _ (by omega), zup_off _ _ (by omega)]; exact g5 j hj)
            have e3 : ∀ w, zup N 385 (t + k) w 374 15 = ((t + k : Nat) : Int) := fun w => by rw [zup_off _ _ (by omega), g3]
            rw [e154_82]
            simp only [↓e154, ↓e154_0, ↓e154_1, ↓e154_2, ↓e154_3, ↓e154_6, ↓e154_9, ↓e154_10, ↓e154_11, ↓e154_13, ↓e154_16, ↓e154_19, ↓e154_20, ↓e154_21, ↓e154_23, ↓e154_26, ↓e154_29, ↓e154_31, ↓e154_32, ↓e154_34, ↓e154_37, ↓e154_40, ↓e154_42, ↓e154_43, ↓e154_45, ↓e154_48, ↓e154_51, ↓e154_53, ↓e154_54, ↓e154_56, ↓e154_59, ↓e154_62, ↓e154_64, ↓e154_65, ↓e154_66, ↓e154_69, ↓e154_70, ↓e154_71, ↓e154_73, ↓e154_76, ↓e154_78, ↓e154_79, ↓e154_80, ↓e154_84, ↓e154_85, ↓e154_88, ↓e154_89, ↓e154_92, ↓e154_93, ↓e154_96, ↓e154_98, ↓e154_101, ↓e154_102, ↓e154_105, ↓e154_107, ↓e154_108, ↓e154_111, ↓e154_112, ↓e154_115, ↓e154_117, ↓e154_118, ↓e154_121, ↓e154_123, ↓e154_126, ↓e154_128, ↓e154_129, ↓e154_132, ↓e154_134, ↓e154_137, ↓e154_139, ↓e154_140, ↓e154_141, ↓e154_141i, ↓e154_142, ↓e154_145, ↓e154_146, ↓e154_147, ↓e154_150, ↓e154_153, ↓e154_156, ↓e154_157, ↓e154_160, znl_i, znl_r, znl_n, zcs_0, zcs_1, zcs_2, zcs_3, zcat_0, zcat_1, zcat_2, zcat_3, zbl_0, zbl_1, true_and, and_true, ↓zret_some, ↓zret_none, Nat.reduceAdd, Nat.reduceLeDiff, Nat.reduceMul, eq_self, Int.reduceToNat, Int.reduceLE, Int.reduceLT, Int.reduceNeg, and_self, zrg, zkc_0, zin_1, zin_2, zin_3, zin_4, zin_5, zin_6, zin_7, zin_8, zin_9, zaa_9, zkc_10, zin_11, zin_12, zkc_13, zin_14, zin_15, zkc_16, zin_17, zin_18, zkc_19, zin_20, zin_21, zin_22, zin_23, zin_24, zin_25, zin_26, zin_27, zin_28, zaa_28, zkc_29, zin_30, zin_31, zkc_32, zin_33, zin_34, zkc_35, zin_36, zin_37, zkc_38, zin_39, zin_40, zin_41, zin_42, zin_43, zin_44, zin_45, zin_46, zin_47, zaa_47, zkc_48, zin_49, zin_50, zkc_51, zin_52, zin_53, zkc_54, zin_55, zin_56, zkc_209, zkc_210, zin_211, zaa_211, zkc_212, zin_213, zkc_214, zkc_215, zin_216, zin_217, zkc_218, zin_219, zin_220, zin_221, zkc_222, zin_223, zaa_223, zin_224, zin_225, zkc_226, zin_227, zin_228, zin_229, zin_230, zin_231, zin_232, zkc_233, zin_234, zaa_234, zin_235, zin_236, zin_237, zin_238, zin_239, zin_240, zin_241, zin_242, zin_243, zin_244, zin_245, zin_246, zin_247, zin_248, zin_249, zin_250, zkc_251, zin_252, zin_253, zkc_374, zin_375, zin_376, zin_377, zin_378, zin_379, zin_380, zin_381, zin_382, zin_383, zin_384, zin_385, zin_386, zin_387, hx', hk1, hk2, ↓reduceIte, g3, e0, Int.toNat_natCast, e3, ne_eq, ite_not]
            rw [show ((k : Int) + 1) = ((k + 1 : Nat) : Int) by omega]
            unfold fv at h9
            by_cases k0 : k = 0
            · rw [if_pos (by omega)]
              rw [if_pos k0] at h9
              exact h9
            rw [if_neg (by omega)]
            rw [if_neg k0] at h9
            by_cases k1 : k = 1
            · rw [if_pos (by omega)]
              rw [if_pos k1] at h9
              exact h9
            rw [if_neg (by omega)]
            rw [if_neg k1] at h9
            by_cases k2 : k = 2
            · rw [if_pos (by omega)]
              rw [if_pos k2] at h9
              exact h9
            rw [if_neg (by omega)]
            rw [if_neg k2] at h9
            by_cases k3 : k = 3
            · rw [if_pos (by omega)]
              rw [if_pos k3] at h9
              exact h9
            rw [if_neg (by omega)]
            rw [if_neg k3] at h9
            exact h9
        have h9 := loop n 0 (by omega) P (fun _ _ _ => rfl) (fun _ _ => rfl) hP15 (fun j hj => absurd hj (Nat.not_lt_zero j)) (fun _ _ => rfl)
        simp only [↓e154, ↓e154_0, ↓e154_1, ↓e154_2, ↓e154_3, ↓e154_6, ↓e154_9, ↓e154_10, ↓e154_11, ↓e154_13, ↓e154_16, ↓e154_19, ↓e154_20, ↓e154_21, ↓e154_23, ↓e154_26, ↓e154_29, ↓e154_31, ↓e154_32, ↓e154_34, ↓e154_37, ↓e154_40, ↓e154_42, ↓e154_43, ↓e154_45, ↓e154_48, ↓e154_51, ↓e154_53, ↓e154_54, ↓e154_56, ↓e154_59, ↓e154_62, ↓e154_64, ↓e154_65, ↓e154_66, ↓e154_69, ↓e154_70, ↓e154_71, ↓e154_73, ↓e154_76, ↓e154_78, ↓e154_79, ↓e154_80, ↓e154_84, ↓e154_85, ↓e154_88, ↓e154_89, ↓e154_92, ↓e154_93, ↓e154_96, ↓e154_98, ↓e154_101, ↓e154_102, ↓e154_105, ↓e154_107, ↓e154_108, ↓e154_111, ↓e154_112, ↓e154_115, ↓e154_117, ↓e154_118, ↓e154_121, ↓e154_123, ↓e154_126, ↓e154_128, ↓e154_129, ↓e154_132, ↓e154_134, ↓e154_137, ↓e154_139, ↓e154_140, ↓e154_141, ↓e154_141i, ↓e154_142, ↓e154_145, ↓e154_146, ↓e154_147, ↓e154_150, ↓e154_153, ↓e154_156, ↓e154_157, ↓e154_160, znl_i, znl_r, znl_n, zcs_0, zcs_1, zcs_2, zcs_3, zcat_0, zcat_1, zcat_2, zcat_3, zbl_0, zbl_1, true_and, and_true, ↓zret_some, ↓zret_none, Nat.reduceAdd, Nat.reduceLeDiff, Nat.reduceMul, eq_self, Int.reduceToNat, Int.reduceLE, Int.reduceLT, Int.reduceNeg, and_self, zrg, zkc_0, zin_1, zin_2, zin_3, zin_4, zin_5, zin_6, zin_7, zin_8, zin_9, zaa_9, zkc_10, zin_11, zin_12, zkc_13, zin_14, zin_15, zkc_16, zin_17, zin_18, zkc_19, zin_20, zin_21, zin_22, zin_23, zin_24, zin_25, zin_26, zin_27, zin_28, zaa_28, zkc_29, zin_30, zin_31, zkc_32, zin_33, zin_34, zkc_35, zin_36, zin_37, zkc_38, zin_39, zin_40, zin_41, zin_42, zin_43, zin_44, zin_45, zin_46, zin_47, zaa_47, zkc_48, zin_49, zin_50, zkc_51, zin_52, zin_53, zkc_54, zin_55, zin_56, zkc_209, zkc_210, zin_211, zaa_211, zkc_212, zin_213, zkc_214, zkc_215, zin_216, zin_217, zkc_218, zin_219, zin_220, zin_221, zkc_222, zin_223, zaa_223, zin_224, zin_225, zkc_226, zin_227, zin_228, zin_229, zin_230, zin_231, zin_232, zkc_233, zin_234, zaa_234, zin_235, zin_236, zin_237, zin_238, zin_239, zin_240, zin_241, zin_242, zin_243, zin_244, zin_245, zin_246, zin_247, zin_248, zin_249, zin_250, zkc_251, zin_252, zin_253, zkc_374, zin_375, zin_376, zin_377, zin_378, zin_379, zin_380, zin_381, zin_382, zin_383, zin_384, zin_385, zin_386, zin_387, ↓ci, ↓ra, ↓rb, ↓rc, ↓re, ↓rf, show ¬ (1 : Int) = 0 by omega, ne_eq, not_false_eq_true, ↓reduceIte, hP15, htn, hfull]
        exact h9
      -- the class
      have last : ∀ P, Tp M P t (fv a b c e f) n → RT (Sp (d + 9)) 72 (JC d B 154 [.inl (n : Int), .inl a, .inl b, .inl c, .inl e, .inl f]) 131 [some (.inr (.inr 209)), some (.inl (n : Int)), some (.inl a), some (.inl b), some (.inl c), some (.inl e), some (.inl f)] [] P := by
        intro P hT
        simp only [↓e72, ↓e72_0, ↓e72_1, ↓e72_2, ↓e72_5, ↓e72_6, ↓e72_7, ↓e72_10, ↓e72_11, ↓e72_14, ↓e72_17, ↓e72_18, ↓e72_21, ↓e72_24, ↓e72_26, ↓e72_29, ↓e72_32, ↓e72_34, ↓e72_37, ↓e72_40, ↓e72_42, ↓e72_45, ↓e72_48, ↓e72_50, ↓e72_51, ↓e72_52, ↓e72_55, ↓e72_58, ↓e72_59, ↓e72_60, ↓e72_62, ↓e72_65, ↓e72_67, ↓e72_68, ↓e72_69, ↓e72_72, ↓e72_73, ↓e72_76, ↓e72_77, ↓e72_78, ↓e72_81, ↓e72_82, ↓e72_85, ↓e72_86, ↓e72_89, ↓e72_90, ↓e72_91, ↓e72_94, ↓e72_95, ↓e72_98, ↓e72_100, ↓e72_103, ↓e72_104, ↓e72_105, ↓e72_108, ↓e72_109, ↓e72_112, ↓e72_114, ↓e72_117, ↓e72_118, ↓e72_119, ↓e72_122, ↓e72_123, ↓e72_126, ↓e72_128, ↓e72_131, ↓e72_132, ↓e72_135, ↓e72_138, znl_i, znl_r, znl_n, zcs_0, zcs_1, zcs_2, zcs_3, zcat_0, zcat_1, zcat_2, zcat_3, zbl_0, zbl_1, true_and, and_true, ↓zret_some, ↓zret_none, Nat.reduceAdd, Nat.reduceLeDiff, Nat.reduceMul, eq_self, Int.reduceToNat, Int.reduceLE, Int.reduceLT, Int.reduceNeg, and_self, zrg, zkc_0, zin_1, zin_2, zin_3, zin_4, zin_5, zin_6, zin_7, zin_8, zin_9, zaa_9, zkc_10, zin_11, zin_12, zkc_13, zin_14, zin_15, zkc_16, zin_17, zin_18, zkc_19, zin_20, zin_21, zin_22, zin_23, zin_24, zin_25, zin_26, zin_27, zin_28, zaa_28, zkc_29, zin_30, zin_31, zkc_32, zin_33, zin_34, zkc_35, zin_36, zin_37, zkc_38, zin_39, zin_40, zin_41, zin_42, zin_43, zin_44, zin_45, zin_46, zin_47, zaa_47, zkc_48, zin_49, zin_50, zkc_51, zin_52, zin_53, zkc_54, zin_55, zin_56, zkc_209, zkc_210, zin_211, zaa_211, zkc_212, zin_213, zkc_214, zkc_215, zin_216, zin_217, zkc_218, zin_219, zin_220, zin_221, zkc_222, zin_223, zaa_223, zin_224, zin_225, zkc_226, zin_227, zin_228, zin_229, zin_230, zin_231, zin_232, zkc_233, zin_234, zaa_234, zin_235, zin_236, zin_237, zin_238, zin_239, zin_240, zin_241, zin_242, zin_243, zin_244, zin_245, zin_246, zin_247, zin_248, zin_249, zin_250, zkc_251, zin_252, zin_253, zkc_374, zin_375, zin_376, zin_377, zin_378, zin_379, zin_380, zin_381, zin_382, zin_383, zin_384, zin_385, zin_386, zin_387, hT.1]
        exact refr P hT
      have l4 : ∀ P k, k ≤ 4 → (k = n ∨ (k = 4 ∧ 4 < n)) → Tp M P t (fv a b c e f) k → RT (Sp (d + 9)) 72 (JC d B 154 [.inl (n : Int), .inl a, .inl b, .inl c, .inl e, .inl f]) 117 [some (.inr (.inr 209)), some (.inl (n : Int)), some (.inl a), some (.inl b), some (.inl c), some (.inl e), some (.inl f)] [] P := by
        intro P k k1 k2 hT
        simp only [↓e72, ↓e72_0, ↓e72_1, ↓e72_2, ↓e72_5, ↓e72_6, ↓e72_7, ↓e72_10, ↓e72_11, ↓e72_14, ↓e72_17, ↓e72_18, ↓e72_21, ↓e72_24, ↓e72_26, ↓e72_29, ↓e72_32, ↓e72_34, ↓e72_37, ↓e72_40, ↓e72_42, ↓e72_45, ↓e72_48, ↓e72_50, ↓e72_51, ↓e72_52, ↓e72_55, ↓e72_58, ↓e72_59, ↓e72_60, ↓e72_62, ↓e72_65, ↓e72_67, ↓e72_68, ↓e72_69, ↓e72_72, ↓e72_73, ↓e72_76, ↓e72_77, ↓e72_78, ↓e72_81, ↓e72_82, ↓e72_85, ↓e72_86, ↓e72_89, ↓e72_90, ↓e72_91, ↓e72_94, ↓e72_95, ↓e72_98, ↓e72_100, ↓e72_103, ↓e72_104, ↓e72_105, ↓e72_108, ↓e72_109, ↓e72_112, ↓e72_114, ↓e72_117, ↓e72_118, ↓e72_119, ↓e72_122, ↓e72_123, ↓e72_126, ↓e72_128, ↓e72_132, ↓e72_135, ↓e72_138, znl_i, znl_r, znl_n, zcs_0, zcs_1, zcs_2, zcs_3, zcat_0, zcat_1, zcat_2, zcat_3, zbl_0, zbl_1, true_and, and_true, ↓zret_some, ↓zret_none, Nat.reduceAdd, Nat.reduceLeDiff, Nat.reduceMul, eq_self, Int.reduceToNat, Int.reduceLE, Int.reduceLT, Int.reduceNeg, and_self, zrg, zkc_0, zin_1, zin_2, zin_3, zin_4, zin_5, zin_6, zin_7, zin_8, zin_9, zaa_9, zkc_10, zin_11, zin_12, zkc_13, zin_14, zin_15, zkc_16, zin_17, zin_18, zkc_19, zin_20, zin_21, zin_22, zin_23, zin_24, zin_25, zin_26, zin_27, zin_28, zaa_28, zkc_29, zin_30, zin_31, zkc_32, zin_33, zin_34, zkc_35, zin_36, zin_37, zkc_38, zin_39, zin_40, zin_41, zin_42, zin_43, zin_44, zin_45, zin_46, zin_47, zaa_47, zkc_48, zin_49, zin_50, zkc_51, zin_52, zin_53, zkc_54, zin_55, zin_56, zkc_209, zkc_210, zin_211, zaa_211, zkc_212, zin_213, zkc_214, zkc_215, zin_216, zin_217, zkc_218, zin_219, zin_220, zin_221, zkc_222, zin_223, zaa_223, zin_224, zin_225, zkc_226, zin_227, zin_228, zin_229, zin_230, zin_231, zin_232, zkc_233, zin_234, zaa_234, zin_235, zin_236, zin_237, zin_238, zin_239, zin_240, zin_241, zin_242, zin_243, zin_244, zin_245, zin_246, zin_247, zin_248, zin_249, zin_250, zkc_251, zin_252, zin_253, zkc_374, zin_375, zin_376, zin_377, zin_378, zin_379, zin_380, zin_381, zin_382, zin_383, zin_384, zin_385, zin_386, zin_387, hx']
        rcases k2 with rfl | ⟨rfl, k3⟩
        · rw [if_pos (by omega)]
          exact last P hT
        · rw [if_neg (by omega)]
          refine s_append (d + 8) _ M P t 4 (fv a b c e f) (by omega) hT (fun P2 hT2 => ?_)
          rw [zret_none]
          obtain rfl : n = 5 := by omega
          exact last P2 hT2
      have l3 : ∀ P k, k ≤ 3 → (k = n ∨ (k = 3 ∧ 3 < n)) → Tp M P t (fv a b c e f) k → RT (Sp (d + 9)) 72 (JC d B 154 [.inl (n : Int), .inl a, .inl b, .inl c, .inl e, .inl f]) 103 [some (.inr (.inr 209)), some (.inl (n : Int)), some (.inl a), some (.inl b), some (.inl c), some (.inl e), some (.inl f)] [] P := by
        intro P k k1 k2 hT
        simp only [↓e72, ↓e72_0, ↓e72_1, ↓e72_2, ↓e72_5, ↓e72_6, ↓e72_7, ↓e72_10, ↓e72_11, ↓e72_14, ↓e72_17, ↓e72_18, ↓e72_21, ↓e72_24, ↓e72_26, ↓e72_29, ↓e72_32, ↓e72_34, ↓e72_37, ↓e72_40, ↓e72_42, ↓e72_45, ↓e72_48, ↓e72_50, ↓e72_51, ↓e72_52, ↓e72_55, ↓e72_58, ↓e72_59, ↓e72_60, ↓e72_62, ↓e72_65, ↓e72_67, ↓e72_68, ↓e72_69, ↓e72_72, ↓e72_73, ↓e72_76, ↓e72_77, ↓e72_78, ↓e72_81, ↓e72_82, ↓e72_85, ↓e72_86, ↓e72_89, ↓e72_90, ↓e72_91, ↓e72_94, ↓e72_95, ↓e72_98, ↓e72_100, ↓e72_103, ↓e72_104, ↓e72_105, ↓e72_108, ↓e72_109, ↓e72_112, ↓e72_114, ↓e72_118, ↓e72_119, ↓e72_122, ↓e72_123, ↓e72_126, ↓e72_128, ↓e72_131, ↓e72_132, ↓e72_135, ↓e72_138, znl_i, znl_r, znl_n, zcs_0, zcs_1, zcs_2, zcs_3, zcat_0, zcat_1, zcat_2, zcat_3, zbl_0, zbl_1, true_and, and_true, ↓zret_some, ↓zret_none, Nat.reduceAdd, Nat.reduceLeDiff, Nat.reduceMul, eq_self, Int.reduceToNat, Int.reduceLE, Int.reduceLT, Int.reduceNeg, and_self, zrg, zkc_0, zin_1, zin_2, zin_3, zin_4, zin_5, zin_6, zin_7, zin_8, zin_9, zaa_9, zkc_10, zin_11, zin_12, zkc_13, zin_14, zin_15, zkc_16, zin_17, zin_18, zkc_19, zin_20, zin_21, zin_22, zin_23, zin_24, zin_25, zin_26, zin_27, zin_28, zaa_28, zkc_29, zin_30, zin_31, zkc_32, zin_33, zin_34, zkc_35, zin_36, zin_37, zkc_38, zin_39, zin_40, zin_41, zin_42, zin_43, zin_44, zin_45, zin_46, zin_47, zaa_47, zkc_48, zin_49, zin_50, zkc_51, zin_52, zin_53, zkc_54, zin_55, zin_56, zkc_209, zkc_210, zin_211, zaa_211, zkc_212, zin_213, zkc_214, zkc_215, zin_216, zin_217, zkc_218, zin_219, zin_220, zin_221, zkc_222, zin_223, zaa_223, zin_224, zin_225, zkc_226, zin_227, zin_228, zin_229, zin_230, zin_231, zin_232, zkc_233, zin_234, zaa_234, zin_235, zin_236, zin_237, zin_238, zin_239, zin_240, zin_241, zin_242, zin_243, zin_244, zin_245, zin_246, zin_247, zin_248, zin_249, zin_250, zkc_251, zin_252, zin_253, zkc_374, zin_375, zin_376, zin_377, zin_378, zin_379, zin_380, zin_381, zin_382, zin_383, zin_384, zin_385, zin_386, zin_387, hx']
        rcases k2 with rfl | ⟨rfl, k3⟩
        · rw [if_pos (by omega)]
          exact l4 P k (by omega) (Or.inl rfl) hT
        · rw [if_neg (by omega)]
          refine s_append (d + 8) _ M P t 3 (fv a b c e f) (by omega) hT (fun P2 hT2 => ?_)
          rw [zret_none]
          exact l4 P2 4 (by omega) (by omega) hT2
      have l2 : ∀ P k, k ≤ 2 → (k = n ∨ (k = 2 ∧ 2 < n)) → Tp M P t (fv a b c e f) k → RT (Sp (d + 9)) 72 (JC d B 154 [.inl (n : Int), .inl a, .inl b, .inl c, .inl e, .inl f]) 89 [some (.inr (.inr 209)), some (.inl (n : Int)), some (.inl a), some (.inl b), some (.inl c), some (.inl e), some (.inl f)] [] P := by
        intro P k k1 k2 hT
        simp only [↓e72, ↓e72_0, ↓e72_1, ↓e72_2, ↓e72_5, ↓e72_6, ↓e72_7, ↓e72_10, ↓e72_11, ↓e72_14, ↓e72_17, ↓e72_18, ↓e72_21, ↓e72_24, ↓e72_26, ↓e72_29, ↓e72_32, ↓e72_34, ↓e72_37, ↓e72_40, ↓e72_42, ↓e72_45, ↓e72_48, ↓e72_50, ↓e72_51, ↓e72_52, ↓e72_55, ↓e72_58, ↓e72_59, ↓e72_60, ↓e72_62, ↓e72_65, ↓e72_67, ↓e72_68, ↓e72_69, ↓e72_72, ↓e72_73, ↓e72_76, ↓e72_77, ↓e72_78, ↓e72_81, ↓e72_82, ↓e72_85, ↓e72_86, ↓e72_89, ↓e72_90, ↓e72_91, ↓e72_94, ↓e72_95, ↓e72_98, ↓e72_100, ↓e72_104, ↓e72_105, ↓e72_108, ↓e72_109, ↓e72_112, ↓e72_114, ↓e72_117, ↓e72_118, ↓e72_119, ↓e72_122, ↓e72_123, ↓e72_126, ↓e72_128, ↓e72_131, ↓e72_132, ↓e72_135, ↓e72_138, znl_i, znl_r, znl_n, zcs_0, zcs_1, zcs_2, zcs_3, zcat_0, zcat_1, zcat_2, zcat_3, zbl_0, zbl_1, true_and, and_true, ↓zret_some, ↓zret_none, Nat.reduceAdd, Nat.reduceLeDiff, Nat.reduceMul, eq_self, Int.reduceToNat, Int.reduceLE, Int.reduceLT, Int.reduceNeg, and_self, zrg, zkc_0, zin_1, zin_2, zin_3, zin_4, zin_5, zin_6, zin_7, zin_8, zin_9, zaa_9, zkc_10, zin_11, zin_12, zkc_13, zin_14, zin_15, zkc_16, zin_17, zin_18, zkc_19, zin_20, zin_21, zin_22, zin_23, zin_24, zin_25, zin_26, zin_27, zin_28, zaa_28, zkc_29, zin_30, zin_31, zkc_32, zin_33, zin_34, zkc_35, zin_36, zin_37, zkc_38, zin_39, zin_40, zin_41, zin_42, zin_43, zin_44, zin_45, zin_46, zin_47, zaa_47, zkc_48, zin_49, zin_50, zkc_51, zin_52, zin_53, zkc_54, zin_55, zin_56, zkc_209, zkc_210, zin_211, zaa_211, zkc_212, zin_213, zkc_214, zkc_215, zin_216, zin_217, zkc_218, zin_219, zin_220, zin_221, zkc_222, zin_223, zaa_223, zin_224, zin_225, zkc_226, zin_227, zin_228, zin_229, zin_230, zin_231, zin_232, zkc_233, zin_234, zaa_234, zin_235, zin_236, zin_237, zin_238, zin_239, zin_240, zin_241, zin_242, zin_243, zin_244, zin_245, zin_246, zin_247, zin_248, zin_249, zin_250, zkc_251, zin_252, zin_253, zkc_374, zin_375, zin_376, zin_377, zin_378, zin_379, zin_380, zin_381, zin_382, zin_383, zin_384, zin_385, zin_386, zin_387, hx']
        rcases k2 with rfl | ⟨rfl, k3⟩
        · rw [if_pos (by omega)]
          exact l3 P k (by omega) (Or.inl rfl) hT
        · rw [if_neg (by omega)]
          refine s_append (d + 8) _ M P t 2 (fv a b c e f) (by omega) hT (fun P2 hT2 => ?_)
          rw [zret_none]
          exact l3 P2 3 (by omega) (by omega) hT2
      simp only [↓e72, ↓e72_0, ↓e72_1, ↓e72_2, ↓e72_5, ↓e72_6, ↓e72_7, ↓e72_10, ↓e72_11, ↓e72_14, ↓e72_17, ↓e72_18, ↓e72_21, ↓e72_24, ↓e72_26, ↓e72_29, ↓e72_32, ↓e72_34, ↓e72_37, ↓e72_40, ↓e72_42, ↓e72_45, ↓e72_48, ↓e72_50, ↓e72_51, ↓e72_52, ↓e72_55, ↓e72_58, ↓e72_59, ↓e72_60, ↓e72_62, ↓e72_65, ↓e72_67, ↓e72_68, ↓e72_69, ↓e72_72, ↓e72_73, ↓e72_77, ↓e72_78, ↓e72_81, ↓e72_82, ↓e72_85, ↓e72_86, ↓e72_89, ↓e72_90, ↓e72_91, ↓e72_94, ↓e72_95, ↓e72_98, ↓e72_100, ↓e72_103, ↓e72_104, ↓e72_105, ↓e72_108, ↓e72_109, ↓e72_112, ↓e72_114, ↓e72_117, ↓e72_118, ↓e72_119, ↓e72_122, ↓e72_123, ↓e72_126, ↓e72_128, ↓e72_131, ↓e72_132, ↓e72_135, ↓e72_138, znl_i, znl_r, znl_n, zcs_0, zcs_1, zcs_2, zcs_3, zcat_0, zcat_1, zcat_2, zcat_3, zbl_0, zbl_1, true_and, and_true, ↓zret_some, ↓zret_none, Nat.reduceAdd, Nat.reduceLeDiff, Nat.reduceMul, eq_self, Int.reduceToNat, Int.reduceLE, Int.reduceLT, Int.reduceNeg, and_self, zrg, zkc_0, zin_1, zin_2, zin_3, zin_4, zin_5, zin_6, zin_7, zin_8, zin_9, zaa_9, zkc_10, zin_11, zin_12, zkc_13, zin_14, zin_15, zkc_16, zin_17, zin_18, zkc_19, zin_20, zin_21, zin_22, zin_23, zin_24, zin_25, zin_26, zin_27, zin_28, zaa_28, zkc_29, zin_30, zin_31, zkc_32, zin_33, zin_34, zkc_35, zin_36, zin_37, zkc_38, zin_39, zin_40, zin_41, zin_42, zin_43, zin_44, zin_45, zin_46, zin_47, zaa_47, zkc_48, zin_49, zin_50, zkc_51, zin_52, zin_53, zkc_54, zin_55, zin_56, zkc_209, zkc_210, zin_211, zaa_211, zkc_212, zin_213, zkc_214, zkc_215, zin_216, zin_217, zkc_218, zin_219, zin_220, zin_221, zkc_222, zin_223, zaa_223, zin_224, zin_225, zkc_226, zin_227, zin_228, zin_229, zin_230, zin_231, zin_232, zkc_233, zin_234, zaa_234, zin_235, zin_236, zin_237, zin_238, zin_239, zin_240, zin_241, zin_242, zin_243, zin_244, zin_245, zin_246, zin_247, zin_248, zin_249, zin_250, zkc_251, zin_252, zin_253, zkc_374, zin_375, zin_376, zin_377, zin_378, zin_379, zin_380, zin_381, zin_382, zin_383, zin_384, zin_385, zin_386, zin_387, hx', show ¬ (n : Int) < 1 by omega, show ¬ (n : Int) > 5 by omega, ↓ca, ↓cb, ↓cc, ↓ce, ↓cf, show ¬ (1 : Int) = 0 by omega, ne_eq, not_false_eq_true, ↓reduceIte, hM, htn, hfull]
      refine s_append (d + 8) _ M M t 0 (fv a b c e f) (by omega) T0 (fun P2 hT2 => ?_)
      rw [zret_none]
      simp only [↓e72, ↓e72_0, ↓e72_1, ↓e72_2, ↓e72_5, ↓e72_6, ↓e72_7, ↓e72_10, ↓e72_11, ↓e72_14, ↓e72_17, ↓e72_18, ↓e72_21, ↓e72_24, ↓e72_26, ↓e72_29, ↓e72_32, ↓e72_34, ↓e72_37, ↓e72_40, ↓e72_42, ↓e72_45, ↓e72_48, ↓e72_50, ↓e72_51, ↓e72_52, ↓e72_55, ↓e72_58, ↓e72_59, ↓e72_60, ↓e72_62, ↓e72_65, ↓e72_67, ↓e72_68, ↓e72_69, ↓e72_72, ↓e72_73, ↓e72_76, ↓e72_77, ↓e72_78, ↓e72_81, ↓e72_82, ↓e72_85, ↓e72_86, ↓e72_90, ↓e72_91, ↓e72_94, ↓e72_95, ↓e72_98, ↓e72_100, ↓e72_103, ↓e72_104, ↓e72_105, ↓e72_108, ↓e72_109, ↓e72_112, ↓e72_114, ↓e72_117, ↓e72_118, ↓e72_119, ↓e72_122, ↓e72_123, ↓e72_126, ↓e72_128, ↓e72_131, ↓e72_132, ↓e72_135, ↓e72_138, znl_i, znl_r, znl_n, zcs_0, zcs_1, zcs_2, zcs_3, zcat_0, zcat_1, zcat_2, zcat_3, zbl_0, zbl_1, true_and, and_true, ↓zret_some, ↓zret_none, Nat.reduceAdd, Nat.reduceLeDiff, Nat.reduceMul, eq_self, Int.reduceToNat, Int.reduceLE, Int.reduceLT, Int.reduceNeg, and_self, zrg, zkc_0, zin_1, zin_2, zin_3, zin_4, zin_5, zin_6, zin_7, zin_8, zin_9, zaa_9, zkc_10, zin_11, zin_12, zkc_13, zin_14, zin_15, zkc_16, zin_17, zin_18, zkc_19, zin_20, zin_21, zin_22, zin_23, zin_24, zin_25, zin_26, zin_27, zin_28, zaa_28, zkc_29, zin_30, zin_31, zkc_32, zin_33, zin_34, zkc_35, zin_36, zin_37, zkc_38, zin_39, zin_40, zin_41, zin_42, zin_43, zin_44, zin_45, zin_46, zin_47, zaa_47, zkc_48, zin_49, zin_50, zkc_51, zin_52, zin_53, zkc_54, zin_55, zin_56, zkc_209, zkc_210, zin_211, zaa_211, zkc_212, zin_213, zkc_214, zkc_215, zin_216, zin_217, zkc_218, zin_219, zin_220, zin_221, zkc_222, zin_223, zaa_223, zin_224, zin_225, zkc_226, zin_227, zin_228, zin_229, zin_230, zin_231, zin_232, zkc_233, zin_234, zaa_234, zin_235, zin_236, zin_237, zin_238, zin_239, zin_240, zin_241, zin_242, zin_243, zin_244, zin_245, zin_246, zin_247, zin_248, zin_249, zin_250, zkc_251, zin_252, zin_253, zkc_374, zin_375, zin_376, zin_377, zin_378, zin_379, zin_380, zin_381, zin_382, zin_383, zin_384, zin_385, zin_386, zin_387, hx']
      by_cases n1 : n = 1
      · rw [if_pos (by omega)]
        exact l2 P2 1 (by omega) (Or.inl n1.symm) hT2
      · rw [if_neg (by omega)]
        refine s_append (d + 8) _ M P2 t 1 (fv a b c e f) (by omega) hT2 (fun P3 hT3 => ?_)
        rw [zret_none]
        exact l2 P3 2 (by omega) (by omega) hT3
    · simp only [↓e72, ↓e72_0, ↓e72_1, ↓e72_2, ↓e72_5, ↓e72_6, ↓e72_7, ↓e72_10, ↓e72_11, ↓e72_14, ↓e72_17, ↓e72_18, ↓e72_21, ↓e72_24, ↓e72_26, ↓e72_29, ↓e72_32, ↓e72_34, ↓e72_37, ↓e72_40, ↓e72_42, ↓e72_45, ↓e72_48, ↓e72_50, ↓e72_51, ↓e72_52, ↓e72_55, ↓e72_58, ↓e72_59, ↓e72_60, ↓e72_62, ↓e72_65, ↓e72_67, ↓e72_68, ↓e72_69, ↓e72_72, ↓e72_73, ↓e72_76, ↓e72_77, ↓e72_78, ↓e72_81, ↓e72_82, ↓e72_85, ↓e72_86, ↓e72_89, ↓e72_90, ↓e72_91, ↓e72_94, ↓e72_95, ↓e72_98, ↓e72_100, ↓e72_103, ↓e72_104, ↓e72_105, ↓e72_108, ↓e72_109, ↓e72_112, ↓e72_114, ↓e72_117, ↓e72_118, ↓e72_119, ↓e72_122, ↓e72_123, ↓e72_126, ↓e72_128, ↓e72_131, ↓e72_132, ↓e72_135, ↓e72_138, znl_i, znl_r, znl_n, zcs_0, zcs_1, zcs_2, zcs_3, zcat_0, zcat_1, zcat_2, zcat_3, zbl_0, zbl_1, true_and, and_true, ↓zret_some, ↓zret_none, Nat.reduceAdd, Nat.reduceLeDiff, Nat.reduceMul, eq_self, Int.reduceToNat, Int.reduceLE, Int.reduceLT, Int.reduceNeg, and_self, zrg, zkc_0, zin_1, zin_2, zin_3, zin_4, zin_5, zin_6, zin_7, zin_8, zin_9, zaa_9, zkc_10, zin_11, zin_12, zkc_13, zin_14, zin_15, zkc_16, zin_17, zin_18, zkc_19, zin_20, zin_21, zin_22, zin_23, zin_24, zin_25, zin_26, zin_27, zin_28, zaa_28, zkc_29, zin_30, zin_31, zkc_32, zin_33, zin_34, zkc_35, zin_36, zin_37, zkc_38, zin_39, zin_40, zin_41, zin_42, zin_43, zin_44, zin_45, zin_46, zin_47, zaa_47, zkc_48, zin_49, zin_50, zkc_51, zin_52, zin_53, zkc_54, zin_55, zin_56, zkc_209, zkc_210, zin_211, zaa_211, zkc_212, zin_213, zkc_214, zkc_215, zin_216, zin_217, zkc_218, zin_219, zin_220, zin_221, zkc_222, zin_223, zaa_223, zin_224, zin_225, zkc_226, zin_227, zin_228, zin_229, zin_230, zin_231, zin_232, zkc_233, zin_234, zaa_234, zin_235, zin_236, zin_237, zin_238, zin_239, zin_240, zin_241, zin_242, zin_243, zin_244, zin_245, zin_246, zin_247, zin_248, zin_249, zin_250, zkc_251, zin_252, zin_253, zkc_374, zin_375, zin_376, zin_377, zin_378, zin_379, zin_380, zin_381, zin_382, zin_383, zin_384, zin_385, zin_386, zin_387, hx', show ¬ (n : Int) < 1 by omega, show ¬ (n : Int) > 5 by omega, ↓ca, ↓cb, ↓cc, ↓ce, ↓cf, show ¬ (1 : Int) = 0 by omega, ne_eq, not_false_eq_true, ↓reduceIte, hM, htn, hfull]
      refine JC_i ?_
      simp only [↓e154, ↓e154_0, ↓e154_1, ↓e154_2, ↓e154_3, ↓e154_6, ↓e154_9, ↓e154_10, ↓e154_11, ↓e154_13, ↓e154_16, ↓e154_19, ↓e154_20, ↓e154_21, ↓e154_23, ↓e154_26, ↓e154_29, ↓e154_31, ↓e154_32, ↓e154_34, ↓e154_37, ↓e154_40, ↓e154_42, ↓e154_43, ↓e154_45, ↓e154_48, ↓e154_51, ↓e154_53, ↓e154_54, ↓e154_56, ↓e154_59, ↓e154_62, ↓e154_64, ↓e154_65, ↓e154_66, ↓e154_69, ↓e154_70, ↓e154_71, ↓e154_73, ↓e154_76, ↓e154_78, ↓e154_79, ↓e154_80, ↓e154_82, ↓e154_84, ↓e154_85, ↓e154_88, ↓e154_89, ↓e154_92, ↓e154_93, ↓e154_96, ↓e154_98, ↓e154_101, ↓e154_102, ↓e154_105, ↓e154_107, ↓e154_108, ↓e154_111, ↓e154_112, ↓e154_115, ↓e154_117, ↓e154_118, ↓e154_121, ↓e154_123, ↓e154_126, ↓e154_128, ↓e154_129, ↓e154_132, ↓e154_134, ↓e154_137, ↓e154_139, ↓e154_140, ↓e154_141, ↓e154_141i, ↓e154_142, ↓e154_145, ↓e154_146, ↓e154_147, ↓e154_150, ↓e154_153, ↓e154_156, ↓e154_157, ↓e154_160, znl_i, znl_r, znl_n, zcs_0, zcs_1, zcs_2, zcs_3, zcat_0, zcat_1, zcat_2, zcat_3, zbl_0, zbl_1, true_and, and_true, ↓zret_some, ↓zret_none, Nat.reduceAdd, Nat.reduceLeDiff, Nat.reduceMul, eq_self, Int.reduceToNat, Int.reduceLE, Int.reduceLT, Int.reduceNeg, and_self, zrg, zkc_0, zin_1, zin_2, zin_3, zin_4, zin_5, zin_6, zin_7, zin_8, zin_9, zaa_9, zkc_10, zin_11, zin_12, zkc_13, zin_14, zin_15, zkc_16, zin_17, zin_18, zkc_19, zin_20, zin_21, zin_22, zin_23, zin_24, zin_25, zin_26, zin_27, zin_28, zaa_28, zkc_29, zin_30, zin_31, zkc_32, zin_33, zin_34, zkc_35, zin_36, zin_37, zkc_38, zin_39, zin_40, zin_41, zin_42, zin_43, zin_44, zin_45, zin_46, zin_47, zaa_47, zkc_48, zin_49, zin_50, zkc_51, zin_52, zin_53, zkc_54, zin_55, zin_56, zkc_209, zkc_210, zin_211, zaa_211, zkc_212, zin_213, zkc_214, zkc_215, zin_216, zin_217, zkc_218, zin_219, zin_220, zin_221, zkc_222, zin_223, zaa_223, zin_224, zin_225, zkc_226, zin_227, zin_228, zin_229, zin_230, zin_231, zin_232, zkc_233, zin_234, zaa_234, zin_235, zin_236, zin_237, zin_238, zin_239, zin_240, zin_241, zin_242, zin_243, zin_244, zin_245, zin_246, zin_247, zin_248, zin_249, zin_250, zkc_251, zin_252, zin_253, zkc_374, zin_375, zin_376, zin_377, zin_378, zin_379, zin_380, zin_381, zin_382, zin_383, zin_384, zin_385, zin_386, zin_387, ↓ci, ↓ra, ↓rb, ↓rc, ↓re, ↓rf, show ¬ (1 : Int) = 0 by omega, ne_eq, not_false_eq_true, ↓reduceIte, hN, htn, hfull]
      exact JE_i hC hI hX
  · -- refused: the bytes or their number are out of range
    have fin : JC d B 154 [.inl x, .inl a, .inl b, .inl c, .inl e, .inl f] (some (.inl (-2))) M := by
      refine JC_i ?_
      have h9 : JE B (-2) (some (.inl (-2))) M := JE_i hC hI hX
      simp only [↓e154, ↓e154_0, ↓e154_1, ↓e154_2, ↓e154_3, ↓e154_6, ↓e154_9, ↓e154_10, ↓e154_11, ↓e154_13, ↓e154_16, ↓e154_19, ↓e154_20, ↓e154_21, ↓e154_23, ↓e154_26, ↓e154_29, ↓e154_31, ↓e154_32, ↓e154_34, ↓e154_37, ↓e154_40, ↓e154_42, ↓e154_43, ↓e154_45, ↓e154_48, ↓e154_51, ↓e154_53, ↓e154_54, ↓e154_56, ↓e154_59, ↓e154_62, ↓e154_64, ↓e154_66, ↓e154_69, ↓e154_70, ↓e154_71, ↓e154_73, ↓e154_76, ↓e154_78, ↓e154_79, ↓e154_80, ↓e154_82, ↓e154_84, ↓e154_85, ↓e154_88, ↓e154_89, ↓e154_92, ↓e154_93, ↓e154_96, ↓e154_98, ↓e154_101, ↓e154_102, ↓e154_105, ↓e154_107, ↓e154_108, ↓e154_111, ↓e154_112, ↓e154_115, ↓e154_117, ↓e154_118, ↓e154_121, ↓e154_123, ↓e154_126, ↓e154_128, ↓e154_129, ↓e154_132, ↓e154_134, ↓e154_137, ↓e154_139, ↓e154_140, ↓e154_141, ↓e154_141i, ↓e154_142, ↓e154_145, ↓e154_146, ↓e154_147, ↓e154_150, ↓e154_153, ↓e154_156, ↓e154_157, ↓e154_160, znl_i, znl_r, znl_n, zcs_0, zcs_1, zcs_2, zcs_3, zcat_0, zcat_1, zcat_2, zcat_3, zbl_0, zbl_1, true_and, and_true, ↓zret_some, ↓zret_none, Nat.reduceAdd, Nat.reduceLeDiff, Nat.reduceMul, eq_self, Int.reduceToNat, Int.reduceLE, Int.reduceLT, Int.reduceNeg, and_self, zrg, zkc_0, zin_1, zin_2, zin_3, zin_4, zin_5, zin_6, zin_7, zin_8, zin_9, zaa_9, zkc_10, zin_11, zin_12, zkc_13, zin_14, zin_15, zkc_16, zin_17, zin_18, zkc_19, zin_20, zin_21, zin_22, zin_23, zin_24, zin_25, zin_26, zin_27, zin_28, zaa_28, zkc_29, zin_30, zin_31, zkc_32, zin_33, zin_34, zkc_35, zin_36, zin_37, zkc_38, zin_39, zin_40, zin_41, zin_42, zin_43, zin_44, zin_45, zin_46, zin_47, zaa_47, zkc_48, zin_49, zin_50, zkc_51, zin_52, zin_53, zkc_54, zin_55, zin_56, zkc_209, zkc_210, zin_211, zaa_211, zkc_212, zin_213, zkc_214, zkc_215, zin_216, zin_217, zkc_218, zin_219, zin_220, zin_221, zkc_222, zin_223, zaa_223, zin_224, zin_225, zkc_226, zin_227, zin_228, zin_229, zin_230, zin_231, zin_232, zkc_233, zin_234, zaa_234, zin_235, zin_236, zin_237, zin_238, zin_239, zin_240, zin_241, zin_242, zin_243, zin_244, zin_245, zin_246, zin_247, zin_248, zin_249, zin_250, zkc_251, zin_252, zin_253, zkc_374, zin_375, zin_376, zin_377, zin_378, zin_379, zin_380, zin_381, zin_382, zin_383, zin_384, zin_385, zin_386, zin_387, ↓ci, ↓ra, ↓rb, ↓rc, ↓re, ↓rf, zx, za, zbb, zc, ze, zf, iff0, ne_eq, Decidable.not_not]
      by_cases p0 : 1 ≤ x ∧ x ≤ 5
      · rw [if_neg (fun z => z p0)]
        by_cases p1 : 0 ≤ a ∧ a ≤ 127
        · rw [if_neg (fun z => z p1)]
          by_cases p2 : 0 ≤ b ∧ b ≤ 127
          · rw [if_neg (fun z => z p2)]
            by_cases p3 : 0 ≤ c ∧ c ≤ 127
            · rw [if_neg (fun z => z p3)]
              by_cases p4 : 0 ≤ e ∧ e ≤ 127
              · rw [if_neg (fun z => z p4)]
                by_cases p5 : 0 ≤ f ∧ f ≤ 127
                · exact absurd ⟨p0, p1, p2, p3, p4, p5⟩ hall
                · rw [if_neg p5]; exact h9
              · rw [if_pos p4]; exact h9
            · rw [if_pos p3]; exact h9
          · rw [if_pos p2]; exact h9
        · rw [if_pos p1]; exact h9
      · rw [if_pos p0]; exact h9
    simp only [↓e72, ↓e72_0, ↓e72_1, ↓e72_2, ↓e72_5, ↓e72_6, ↓e72_7, ↓e72_10, ↓e72_11, ↓e72_14, ↓e72_17, ↓e72_18, ↓e72_21, ↓e72_24, ↓e72_26, ↓e72_29, ↓e72_32, ↓e72_34, ↓e72_37, ↓e72_40, ↓e72_42, ↓e72_45, ↓e72_48, ↓e72_50, ↓e72_52, ↓e72_55, ↓e72_58, ↓e72_59, ↓e72_60, ↓e72_62, ↓e72_65, ↓e72_67, ↓e72_68, ↓e72_69, ↓e72_72, ↓e72_73, ↓e72_76, ↓e72_77, ↓e72_78, ↓e72_81, ↓e72_82, ↓e72_85, ↓e72_86, ↓e72_89, ↓e72_90, ↓e72_91, ↓e72_94, ↓e72_95, ↓e72_98, ↓e72_100, ↓e72_103, ↓e72_104, ↓e72_105, ↓e72_108, ↓e72_109, ↓e72_112, ↓e72_114, ↓e72_117, ↓e72_118, ↓e72_119, ↓e72_122, ↓e72_123, ↓e72_126, ↓e72_128, ↓e72_131, ↓e72_132, ↓e72_135, ↓e72_138, znl_i, znl_r, znl_n, zcs_0, zcs_1, zcs_2, zcs_3, zcat_0, zcat_1, zcat_2, zcat_3, zbl_0, zbl_1, true_and, and_true, ↓zret_some, ↓zret_none, Nat.reduceAdd, Nat.reduceLeDiff, Nat.reduceMul, eq_self, Int.reduceToNat, Int.reduceLE, Int.reduceLT, Int.reduceNeg, and_self, zrg, zkc_0, zin_1, zin_2, zin_3, zin_4, zin_5, zin_6, zin_7, zin_8, zin_9, zaa_9, zkc_10, zin_11, zin_12, zkc_13, zin_14, zin_15, zkc_16, zin_17, zin_18, zkc_19, zin_20, zin_21, zin_22, zin_23, zin_24, zin_25, zin_26, zin_27, zin_28, zaa_28, zkc_29, zin_30, zin_31, zkc_32, zin_33, zin_34, zkc_35, zin_36, zin_37, zkc_38, zin_39, zin_40, zin_41, zin_42, zin_43, zin_44, zin_45, zin_46, zin_47, zaa_47, zkc_48, zin_49, zin_50, zkc_51, zin_52, zin_53, zkc_54, zin_55, zin_56, zkc_209, zkc_210, zin_211, zaa_211, zkc_212, zin_213, zkc_214, zkc_215, zin_216, zin_217, zkc_218, zin_219, zin_220, zin_221, zkc_222, zin_223, zaa_223, zin_224, zin_225, zkc_226, zin_227, zin_228, zin_229, zin_230, zin_231, zin_232, zkc_233, zin_234, zaa_234, zin_235, zin_236, zin_237, zin_238, zin_239, zin_240, zin_241, zin_242, zin_243, zin_244, zin_245, zin_246, zin_247, zin_248, zin_249, zin_250, zkc_251, zin_252, zin_253, zkc_374, zin_375, zin_376, zin_377, zin_378, zin_379, zin_380, zin_381, zin_382, zin_383, zin_384, zin_385, zin_386, zin_387, hx', ↓ca, ↓cb, ↓cc, ↓ce, ↓cf, za, zbb, zc, ze, zf, iff0, ne_eq, Decidable.not_not]
    by_cases p0 : x < 1
    · rw [if_pos p0]; exact fin
    rw [if_neg p0]
    by_cases p00 : x > 5
    · rw [if_pos p00]; exact fin
    rw [if_neg p00]
    by_cases p1 : 0 ≤ a ∧ a ≤ 127
    · rw [if_neg (fun z => z p1)]
      by_cases p2 : 0 ≤ b ∧ b ≤ 127
      · rw [if_neg (fun z => z p2)]
        by_cases p3 : 0 ≤ c ∧ c ≤ 127
        · rw [if_neg (fun z => z p3)]
          by_cases p4 : 0 ≤ e ∧ e ≤ 127
          · rw [if_neg (fun z => z p4)]
            by_cases p5 : 0 ≤ f ∧ f ≤ 127
            · exact absurd ⟨⟨by omega, by omega⟩, p1, p2, p3, p4, p5⟩ hall
            · rw [if_neg p5]; exact fin
          · rw [if_pos p4]; exact fin
        · rw [if_pos p3]; exact fin
      · rw [if_pos p2]; exact fin
    · rw [if_pos p1]; exact fin
