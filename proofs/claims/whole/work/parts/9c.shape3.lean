/-! ### shape agrees -/
def tpX (X : zX) : zX := fun k => if k = 10 then zup (X 10) 0 2 0 else X k
theorem tp_k (X : zX) {k : Nat} (h : k ≠ 10) : tpX X k = X k := if_neg h
theorem tp_0 (X : zX) (j : Nat) : tpX X 10 0 j = if j = 2 then 0 else X 10 0 j := by
  unfold tpX
  rw [if_pos rfl]
  by_cases z : j = 2
  · subst z; rw [zup_at, if_pos rfl]
  · rw [zup_off _ _ (Or.inr z), if_neg z]
theorem WX_tp {B : Int} {X : zX} (hX : WX B X) : WX B (tpX X) := WX_tape hX (fun k hk => tp_k X hk) (fun j hj => by rw [tp_0, if_neg hj]) (by rw [tp_0, if_pos rfl]; omega) (fun j hj => by rw [tp_0, if_pos rfl] at hj; omega)
theorem IC_tp {B : Int} {X : zX} {M N : zM} (hX : WX B X) (hC : IC X M) (h : ∀ b, b < 214 → b ≠ 212 → b ≠ 213 → N b = M b) (h2 : N 212 0 = 0) (hV : Wv N (X 0 0)) : IC (tpX X) N := IC_tape hX hC (fun k hk => tp_k X hk) (fun j hj => by rw [tp_0, if_neg hj]) h (by rw [tp_0, if_pos rfl]; exact h2) (fun j hj => by rw [tp_0, if_pos rfl] at hj; omega) hV
theorem IR_tp {B : Int} {X : zX} {M N : zM} (hX : WX B X) (hI : IR X M) (h5 : ∀ j, j < 2580 → N 375 j = M 375 j) (h4 : ∀ j, j = 1 ∨ j = 2 ∨ j = 21 ∨ j = 22 → N 374 j = M 374 j) (h2 : N 374 15 = 0) : IR (tpX X) N := IR_tape hX hI (fun k hk => tp_k X hk) (fun j hj => by rw [tp_0, if_neg hj]) h5 h4 (by rw [tp_0, if_pos rfl]; exact h2) (fun j hj => by rw [tp_0, if_pos rfl] at hj; omega)
def shp (S : zM) (j : Nat) (sz an : Int) (cs rs : Nat → Int) : zM := zrow (zrow (zup (zup S (9 + j) 0 sz) (9 + j) 1 an) (12 + j) cs) (15 + j) rs
theorem shp_lo (S : zM) {j : Nat} (hj : j < 3) (sz an : Int) (cs rs : Nat → Int) {b : Nat} (hb : b < 9) : shp S j sz an cs rs b = S b := by
  unfold shp
  rw [zrow_ne _ _ (by omega), zrow_ne _ _ (by omega), zup_ne _ _ _ (by omega), zup_ne _ _ _ (by omega)]
theorem shp_at (S : zM) {j : Nat} (hj : j < 3) (sz an : Int) (cs rs : Nat → Int) {i : Nat} (hi : i < 3) :
    shp S j sz an cs rs (9 + i) 0 = (if i = j then sz else S (9 + i) 0) ∧ shp S j sz an cs rs (9 + i) 1 = (if i = j then an else S (9 + i) 1) ∧ shp S j sz an cs rs (12 + i) = (if i = j then cs else S (12 + i)) ∧ shp S j sz an cs rs (15 + i) = (if i = j then rs else S (15 + i)) := by
  unfold shp
  by_cases z : i = j
  · subst z
    rw [zrow_ne _ (b := 9 + i) _ (by omega), zrow_ne _ (b := 9 + i) _ (by omega), zrow_ne _ (b := 12 + i) _ (by omega), zrow_self, zrow_self]
    refine ⟨by rw [zup_off _ _ (by omega), zup_at, if_pos rfl], by rw [zup_at, if_pos rfl], by rw [if_pos rfl], by rw [if_pos rfl]⟩
  · rw [if_neg z, if_neg z, if_neg z, if_neg z, zrow_ne _ (b := 9 + i) _ (by omega), zrow_ne _ (b := 9 + i) _ (by omega), zrow_ne _ (b := 12 + i) _ (by omega), zrow_ne _ (b := 12 + i) _ (by omega), zrow_ne _ (b := 15 + i) _ (by omega), zrow_ne _ (b := 15 + i) _ (by omega), zup_ne _ (b := 9 + i) _ _ (by omega), zup_ne _ (b := 9 + i) _ _ (by omega), zup_ne _ (b := 12 + i) _ _ (by omega), zup_ne _ (b := 12 + i) _ _ (by omega), zup_ne _ (b := 15 + i) _ _ (by omega), zup_ne _ (b := 15 + i) _ _ (by omega)]
    exact ⟨rfl, rfl, rfl, rfl⟩
theorem shp_Wb {B : Int} {S : zM} (hW : Wb B S) {j : Nat} (hj : j < 3) {sz an : Int} {cs rs : Nat → Int} (h1 : 0 < sz ∧ sz ≤ 10) (h2 : 0 ≤ an ∧ an < sz) (h3 : ∀ s : Nat, (s : Int) < sz → 0 ≤ cs s ∧ cs s < 6 ∧ 0 ≤ rs s ∧ rs s < 6) : Wb B (shp S j sz an cs rs) := by
  obtain ⟨⟨w1, w2, w3, w4, w5, w6, w7, w8, w9, w10⟩, s2, s3⟩ := hW
  have eb : ∀ b, b < 9 → shp S j sz an cs rs b = S b := fun b hb => shp_lo S hj sz an cs rs hb
  refine ⟨⟨?_, ?_, ?_, ?_, ?_, ?_, ?_, ?_, ?_, fun i hi => ?_⟩, ?_, ?_⟩
  · rw [eb 0 (by omega)]; exact w1
  · rw [eb 1 (by omega)]; exact w2
  · rw [eb 1 (by omega), eb 2 (by omega), eb 3 (by omega), eb 4 (by omega), eb 5 (by omega), eb 6 (by omega), eb 7 (by omega)]; exact w3
  · rw [eb 0 (by omega), eb 1 (by omega)]; exact w4
  · rw [eb 1 (by omega)]; exact w5
  · rw [eb 7 (by omega), cntM_congr 10 (Nat.le_refl _) (fun m _ => by rw [eb 1 (by omega)])]; exact w6
  · rw [eb 8 (by omega)]; exact w7
  · rw [eb 8 (by omega)]; exact w8
  · rw [eb 8 (by omega)]; exact w9
  · obtain ⟨a1, a2, a3, a4⟩ := shp_at S hj sz an cs rs hi
    rw [a1, a2, a3, a4]
    by_cases z : i = j
    · rw [if_pos z, if_pos z, if_pos z, if_pos z]
      exact ⟨by omega, by omega, fun z => by omega, fun _ => h2, h3⟩
    · rw [if_neg z, if_neg z, if_neg z, if_neg z]; exact w10 i hi
  · rw [eb 7 (by omega), sumW_congr (eb 0 (by omega))]; exact s2
  · intro m hm; rw [eb 2 (by omega)]; exact s3 m hm
theorem RelC_shape {M S : zM} (hR : RelC M 0 S) {j : Nat} (hj : j < 3) : RelC (zcpyS M (10 + 3 * j) 215) 0 (shp S j (M 215 2) (M 215 3) (M 216) (M 217)) := by
  obtain ⟨r1, r2, r3, r4, r5, r6, r7, r8, r9, r10, r11, r12⟩ := hR
  have eb : ∀ b, b < 9 → shp S j (M 215 2) (M 215 3) (M 216) (M 217) b = S b := fun b hb => shp_lo S hj _ _ _ _ hb
  have eo : ∀ x, onS (shp S j (M 215 2) (M 215 3) (M 216) (M 217)) x = onS S x := fun x => by unfold onS; rw [eb 1 (by omega)]
  have hz : ∀ b, b ≠ 10 + 3 * j → b ≠ 11 + 3 * j → b ≠ 12 + 3 * j → zcpyS M (10 + 3 * j) 215 b = M b := fun b b1 b2 b3 => by
    unfold zcpyS
    rw [zup_ne _ _ _ b1, zup_ne _ _ _ b1, zrow_ne _ _ (by omega), zrow_ne _ _ (by omega)]
  unfold RelC
  simp only [Nat.zero_add] at *
  refine ⟨fun x hx => ?_, ?_, ?_, ?_, ?_, ?_, ?_, ?_, ?_, ?_, ?_, fun i hi => ?_⟩
  · rw [hz _ (by omega) (by omega) (by omega), eb 0 (by omega), eo]; exact r1 x hx
  · rw [hz _ (by omega) (by omega) (by omega), eb 1 (by omega)]; exact r2
  · rw [hz _ (by omega) (by omega) (by omega), eb 6 (by omega)]; exact r3
  · rw [hz _ (by omega) (by omega) (by omega), eb 2 (by omega)]; exact r4
  · rw [hz _ (by omega) (by omega) (by omega), eb 3 (by omega)]; exact r5
  · rw [hz _ (by omega) (by omega) (by omega), eb 4 (by omega)]; exact r6
  · rw [hz _ (by omega) (by omega) (by omega), eb 5 (by omega)]; exact r7
  · rw [hz _ (by omega) (by omega) (by omega), eb 7 (by omega)]; exact r8
  · rw [hz _ (by omega) (by omega) (by omega), eb 8 (by omega)]; exact r9
  · rw [hz _ (by omega) (by omega) (by omega), eb 8 (by omega)]; exact r10
  · rw [hz _ (by omega) (by omega) (by omega), eb 8 (by omega)]; exact r11
  · obtain ⟨a1, a2, a3, a4⟩ := shp_at S hj (M 215 2) (M 215 3) (M 216) (M 217) hi
    rw [a1, a2, a3, a4]
    by_cases z : i = j
    · subst z
      rw [if_pos rfl, if_pos rfl, if_pos rfl, if_pos rfl]
      have e1 : 11 + 3 * i = 10 + 3 * i + 1 := by omega
      have e2 : 12 + 3 * i = 10 + 3 * i + 2 := by omega
      rw [e1, e2]
      unfold zcpyS
      refine ⟨by rw [zup_off _ _ (by omega), zup_at], by rw [zup_at], fun s hs => ⟨?_, ?_⟩⟩
      · rw [zup_ne _ _ _ (by omega), zup_ne _ _ _ (by omega), zrow_ne _ _ (by omega), zrow_self, zcpy0 _ _ _ hs]
      · rw [zup_ne _ _ _ (by omega), zup_ne _ _ _ (by omega), zrow_self, zcpy0 _ _ _ hs]
    · rw [if_neg z, if_neg z, if_neg z, if_neg z, hz _ (by omega) (by omega) (by omega), hz _ (by omega) (by omega) (by omega), hz _ (by omega) (by omega) (by omega)]
      exact r12 i hi
theorem RelR_shape {M N S : zM} (hR : RelR' M 0 S) (hW : WfS S) {j n : Nat} (hj : j < 3) {an : Int} {cs rs : Nat → Int} (hn : 0 < n ∧ n ≤ 10) (h0 : N 375 (192 + 22 * j) = n) (h1 : N 375 (193 + 22 * j) = an)
    (h2 : ∀ s, s < n → N 375 (194 + 22 * j + 2 * s) = cs s ∧ N 375 (195 + 22 * j + 2 * s) = rs s) (ho : ∀ i, i < 258 → (i < 192 + 22 * j ∨ 194 + 22 * j + 2 * n ≤ i) → N 375 i = M 375 i) : RelR' N 0 (shp S j n an cs rs) := by
  obtain ⟨⟨⟨a1, a2, a3, a4⟩, r2, r3, r4, r5⟩, r9⟩ := hR
  have eb : ∀ b, b < 9 → shp S j n an cs rs b = S b := fun b hb => shp_lo S hj _ _ _ _ hb
  unfold RelR' RelR
  simp only [Nat.zero_add] at *
  refine ⟨⟨⟨?_, ?_, ?_, ?_⟩, fun k hk k5 k6 => ?_, fun m hm hl => ?_, fun c hc => ?_, fun i hi => ?_⟩, ?_⟩
  · rw [ho _ (by omega) (by omega), eb 7 (by omega)]; exact a1
  · rw [ho _ (by omega) (by omega), eb 8 (by omega)]; exact a2
  · rw [ho _ (by omega) (by omega), eb 8 (by omega)]; exact a3
  · rw [ho _ (by omega) (by omega), eb 8 (by omega)]; exact a4
  · rw [ho _ (by omega) (by omega), eb 7 (by omega)]; exact r2 k hk k5 k6
  · rw [eb 7 (by omega)] at hl
    rw [ho _ (by omega) (by omega), ho _ (by omega) (by omega), ho _ (by omega) (by omega), ho _ (by omega) (by omega), ho _ (by omega) (by omega), ho _ (by omega) (by omega), eb 1 (by omega), eb 2 (by omega), eb 3 (by omega), eb 4 (by omega), eb 5 (by omega), eb 6 (by omega)]
    exact r3 m hm hl
  · rw [ho _ (by omega) (by omega), eb 0 (by omega)]; exact r4 c hc
  · obtain ⟨b1, b2, b3, b4⟩ := shp_at S hj n an cs rs hi
    rw [b1, b2, b3, b4]
    by_cases z : i = j
    · subst z
      rw [if_pos rfl, if_pos rfl, if_pos rfl, if_pos rfl]
      exact ⟨h0, fun _ => h1, fun s hs => h2 s (by omega)⟩
    · rw [if_neg z, if_neg z, if_neg z, if_neg z]
      obtain ⟨q1, q2, q3⟩ := r5 i hi
      have h10 := sz10 hW i hi
      rw [ho _ (by omega) (by omega), ho _ (by omega) (by omega)]
      refine ⟨q1, q2, fun s hs => ?_⟩
      rw [ho _ (by omega) (by omega), ho _ (by omega) (by omega)]
      exact q3 s hs
  · rw [ho _ (by omega) (by omega), eb 7 (by omega)]; exact r9
theorem j_shape (d : Nat) (B : Int) (X : zX) (M : zM) (x : Int) (hx : zrg x) (hC : IC X M) (hI : IR X M) (hX : WX B X) : Jt d B 73 157 [.inl x] M := by
  have hW := hX.1.1
  have hx' := hx
  simp only [zrg] at hx'
  have hti := fun Q P => s_in (d + 8) Q P x 0 2 hx ⟨by omega, by omega⟩ ⟨by omega, by omega⟩
  have hsh := fun Q P => s_isShape (d + 8) Q P x hx
  obtain ⟨w1, w2, w3, w4, w5, w6, w7, w8⟩ := id hX
  have q3 := hC.2.2.2.2.2.1
  have q4 := hC.2.2.2.2.2.2.1
  unfold Jt
  by_cases hin : 0 ≤ x ∧ x < 3
  · simp only [show zb (0 ≤ x ∧ x ≤ 2) = 1 from if_pos ⟨by omega, by omega⟩] at hti
    simp only [show zb (0 ≤ x ∧ x < 3) = 1 from if_pos hin] at hsh
    obtain ⟨j, rfl⟩ : ∃ j : Nat, x = j := ⟨x.toNat, by omega⟩
    have hj : j < 3 := by omega
    have hzk : zkc (10 + 3 * j) = 5 := by have := zkcWS (a := 0) (j := j) zkc_0 hj; simpa using this
    obtain ⟨n, hn⟩ : ∃ n : Nat, X 10 0 2 = n := ⟨(X 10 0 2).toNat, by omega⟩
    have hn60 : n ≤ 60 := by omega
    have hw7 : ∀ i, i < n → 0 ≤ X 10 1 i ∧ X 10 1 i ≤ 127 := fun i hi => w7 i (by omega)
    have hzr : ∀ i, i < n → zrg (X 10 1 i) := fun i hi => by have := hw7 i hi; exact ⟨by omega, by omega⟩
    have hfr : ferr (X 10 1) n = -1 ∨ (0 ≤ ferr (X 10 1) n ∧ ferr (X 10 1) n ≤ n) := by
      unfold ferr
      rcases erS_rng (X 10 1) n 0 with h | h
      · rw [h, if_neg (by omega)]
        split
        · right; omega
        · left; rfl
      · rw [if_pos (by omega)]; right; omega
    have hfrr : -2147483648 ≤ ferr (X 10 1) n ∧ ferr (X 10 1) n < 2147483648 := by omega
    simp only [↓e73, ↓e73_0, ↓e73_1, ↓e73_4, ↓e73_7, ↓e73_8, ↓e73_9, ↓e73_10, ↓e73_13, ↓e73_14, ↓e73_17, ↓e73_20, ↓e73_21, ↓e73_22, ↓e73_25, ↓e73_28, ↓e73_29, ↓e73_30, ↓e73_33, ↓e73_35, ↓e73_36, ↓e73_37, ↓e73_38, ↓e73_39, ↓e73_42, ↓e73_43, ↓e73_46, ↓e73_49, ↓e73_50, ↓e73_53, ↓e73_56, ↓e73_57, ↓e73_58, ↓e73_59, ↓e73_62, ↓e73_65, ↓e73_68, ↓e73_69, ↓e73_72, ↓e73_75, ↓e73_76, ↓e73_77, ↓e73_80, znl_i, znl_r, znl_n, zcs_0, zcs_1, zcs_2, zcs_3, zcat_0, zcat_1, zcat_2, zcat_3, zbl_0, zbl_1, true_and, and_true, ↓zret_some, ↓zret_none, Nat.reduceAdd, Nat.reduceLeDiff, Nat.reduceMul, eq_self, Int.reduceToNat, Int.reduceLE, Int.reduceLT, Int.reduceNeg, and_self, zrg, zkc_0, zin_1, zin_2, zin_3, zin_4, zin_5, zin_6, zin_7, zin_8, zin_9, zaa_9, zkc_10, zin_11, zin_12, zkc_13, zin_14, zin_15, zkc_16, zin_17, zin_18, zkc_19, zin_20, zin_21, zin_22, zin_23, zin_24, zin_25, zin_26, zin_27, zin_28, zaa_28, zkc_29, zin_30, zin_31, zkc_32, zin_33, zin_34, zkc_35, zin_36, zin_37, zkc_38, zin_39, zin_40, zin_41, zin_42, zin_43, zin_44, zin_45, zin_46, zin_47, zaa_47, zkc_48, zin_49, zin_50, zkc_51, zin_52, zin_53, zkc_54, zin_55, zin_56, zkc_209, zkc_210, zin_211, zaa_211, zkc_212, zin_213, zkc_214, zkc_215, zin_216, zin_217, zkc_218, zin_219, zin_220, zin_221, zkc_222, zin_223, zaa_223, zin_224, zin_225, zkc_226, zin_227, zin_228, zin_229, zin_230, zin_231, zin_232, zkc_233, zin_234, zaa_234, zin_235, zin_236, zin_237, zin_238, zin_239, zin_240, zin_241, zin_242, zin_243, zin_244, zin_245, zin_246, zin_247, zin_248, zin_249, zin_250, zkc_251, zin_252, zin_253, zkc_374, zin_375, zin_376, zin_377, zin_378, zin_379, zin_380, zin_381, zin_382, zin_383, zin_384, zin_385, zin_386, zin_387, ↓hsh, show ¬ (1 : Int) = 0 by omega, ne_eq, not_false_eq_true, ↓reduceIte]
    refine s_readShape (d + 4) _ M (X 10 1) n hn60 (q3.trans hn) (fun i hi => q4 i (by omega)) hzr (fun N1 f1 f2 => ?_)
    rw [zret_some]
    have hz1 : ∀ b, b < 212 ∨ 218 ≤ b ∨ b = 213 → zup N1 212 0 0 b = M b := fun b hb => by rw [zup_ne _ _ _ (by omega), f1 b (by omega)]
    have hV1 : Wv (zup N1 212 0 0) (X 0 0) := fun y hy => by rw [hz1 224 (by omega), hz1 (254 + y) (by omega)]; exact hC.2.1 y hy
    have hC1 : IC (tpX X) (zup N1 212 0 0) := IC_tp hX hC (fun b b1 b2 b3 => hz1 b (by omega)) (zup_at _ _ _ _) hV1
    have hX1 := WX_tp hX
    have h375 : ∀ P, (∀ b, 374 ≤ b → P b = M b) → ∀ Q, (∀ N, Fq P N → N 374 17 = ferr (X 10 1) n → (ferr (X 10 1) n = -1 → Rd N (rdS (X 10 1) n)) → Q none N) → Sp (d + 7 + 2) 156 [.inr (.inr 374)] P Q := fun P hP Q hk => by
      have hIP := IR_cong hP hI
      exact s_readsShape (d + 7) Q P (X 10 1) n hn60 (hIP.2.2.2.2.2.1.trans hn) (fun i hi => hIP.2.2.2.2.2.2.1 i (by omega)) hzr hk
    by_cases hok : ferr (X 10 1) n = -1
    · obtain ⟨g1, g2⟩ := f2 hok
      obtain ⟨m1, m2, m3, m4, m5'⟩ := id g1
      obtain ⟨d1, d2, d3, d4, d5⟩ := id g2
      have hend : 0 ≤ rdS (X 10 1) n 0 3 ∧ rdS (X 10 1) n 0 0 ≠ 0 := by
        unfold ferr at hok
        rcases erS_rng (X 10 1) n 0 with h | h
        · rw [h, if_neg (by omega)] at hok
          by_cases z : rdS (X 10 1) n 0 3 < 0 ∨ rdS (X 10 1) n 0 0 = 0
          · rw [if_pos z] at hok; omega
          · exact ⟨by omega, by omega⟩
        · rw [if_pos (by omega)] at hok; omega
      generalize hD : rdS (X 10 1) n = D at *
      obtain ⟨sz, hsz⟩ : ∃ sz : Nat, D 0 2 = sz := ⟨(D 0 2).toNat, by omega⟩
      have m4 : N1 215 3 = D 0 3 := by rw [m4]; unfold m5; rw [if_neg (by omega)]
      rw [hok]
      simp only [↓e73, ↓e73_0, ↓e73_1, ↓e73_4, ↓e73_7, ↓e73_8, ↓e73_9, ↓e73_10, ↓e73_13, ↓e73_14, ↓e73_17, ↓e73_20, ↓e73_21, ↓e73_22, ↓e73_25, ↓e73_28, ↓e73_29, ↓e73_30, ↓e73_33, ↓e73_35, ↓e73_36, ↓e73_37, ↓e73_38, ↓e73_39, ↓e73_42, ↓e73_43, ↓e73_46, ↓e73_49, ↓e73_50, ↓e73_53, ↓e73_56, ↓e73_57, ↓e73_58, ↓e73_59, ↓e73_62, ↓e73_65, ↓e73_68, ↓e73_69, ↓e73_72, ↓e73_75, ↓e73_76, ↓e73_77, ↓e73_80, ↓e37, ↓e37_0, ↓e37_1, ↓e37_2, ↓e37_5, znl_i, znl_r, znl_n, zcs_0, zcs_1, zcs_2, zcs_3, zcat_0, zcat_1, zcat_2, zcat_3, zbl_0, zbl_1, true_and, and_true, ↓zret_some, ↓zret_none, Nat.reduceAdd, Nat.reduceLeDiff, Nat.reduceMul, eq_self, Int.reduceToNat, Int.reduceLE, Int.reduceLT, Int.reduceNeg, and_self, zrg, zkc_0, zin_1, zin_2, zin_3, zin_4, zin_5, zin_6, zin_7, zin_8, zin_9, zaa_9, zkc_10, zin_11, zin_12, zkc_13, zin_14, zin_15, zkc_16, zin_17, zin_18, zkc_19, zin_20, zin_21, zin_22, zin_23, zin_24, zin_25, zin_26, zin_27, zin_28, zaa_28, zkc_29, zin_30, zin_31, zkc_32, zin_33, zin_34, zkc_35, zin_36, zin_37, zkc_38, zin_39, zin_40, zin_41, zin_42, zin_43, zin_44, zin_45, zin_46, zin_47, zaa_47, zkc_48, zin_49, zin_50, zkc_51, zin_52, zin_53, zkc_54, zin_55, zin_56, zkc_209, zkc_210, zin_211, zaa_211, zkc_212, zin_213, zkc_214, zkc_215, zin_216, zin_217, zkc_218, zin_219, zin_220, zin_221, zkc_222, zin_223, zaa_223, zin_224, zin_225, zkc_226, zin_227, zin_228, zin_229, zin_230, zin_231, zin_232, zkc_233, zin_234, zaa_234, zin_235, zin_236, zin_237, zin_238, zin_239, zin_240, zin_241, zin_242, zin_243, zin_244, zin_245, zin_246, zin_247, zin_248, zin_249, zin_250, zkc_251, zin_252, zin_253, zkc_374, zin_375, zin_376, zin_377, zin_378, zin_379, zin_380, zin_381, zin_382, zin_383, zin_384, zin_385, zin_386, zin_387]
      refine s_keep (d + 6) _ _ (tpX X) (tpX X 0) 0 (Or.inl rfl) hX1.2.1 hC1 hC1.1 (fun N2 u1 u2 => ?_)
      rw [zret_none]
      obtain ⟨hRN, hV⟩ := pushC u1
      have e0 : tpX X 0 = X 0 := tp_k X (by omega)
      rw [e0] at hRN hV
      have h215 : ∀ b, 214 ≤ b → b < 218 → N2 b = N1 b := fun b b1 b2 => by rw [u2 b (by omega) (by omega), zup_ne _ _ _ (by omega)]
      have hcp := fun Q => s_copyS (d + 8) Q N2 (10 + 3 * j) 215 hzk zkc_215 (by omega)
      have hj2 := RelC_shape hRN hj
      rw [h215 215 (by omega) (by omega), h215 216 (by omega) (by omega), h215 217 (by omega) (by omega), m3, m4, hsz] at hj2
      have hz2 : ∀ b, 19 ≤ b → zcpyS N2 (10 + 3 * j) 215 b = N2 b := fun b hb => by
        unfold zcpyS
        rw [zup_ne _ _ _ (by omega), zup_ne _ _ _ (by omega), zrow_ne _ _ (by omega), zrow_ne _ _ (by omega)]
      have hsize : zcpyS N2 (10 + 3 * j) 215 (10 + 3 * j) 2 = (sz : Int) := by
        unfold zcpyS
        rw [zup_off _ _ (by omega), zup_at, h215 215 (by omega) (by omega), m3, hsz]
      have hj0 : shp (X 0) j (sz : Int) (D 0 3) (N1 216) (N1 217) 0 = X 0 0 := shp_lo _ hj _ _ _ _ (by omega)
      have hC2 : IC (setX (push (tpX X) (tpX X 0)) (shp (X 0) j (sz : Int) (D 0 3) (N1 216) (N1 217))) (zcpyS N2 (10 + 3 * j) 215) := IC_set u1 hj2 (by rw [hj0]; exact Wv_cong hz2 hV) (fun b b1 b2 => hz2 b (by omega))
      have hWb : Wb B (shp (X 0) j (sz : Int) (D 0 3) (N1 216) (N1 217)) := shp_Wb w1 hj ⟨by omega, by omega⟩ ⟨by omega, by omega⟩ (fun s hs => by
        obtain ⟨v1, v2⟩ := m5' s (by omega)
        rw [v1, v2]
        exact d5 s (by omega))
      have hP : ∀ b, 374 ≤ b → zcpyS N2 (10 + 3 * j) 215 b = M b := fun b hb => by rw [hz2 b (by omega), u2 b (by omega) (by omega)]; exact hz1 b (by omega)
      simp only [↓e73, ↓e73_0, ↓e73_1, ↓e73_4, ↓e73_7, ↓e73_8, ↓e73_9, ↓e73_10, ↓e73_13, ↓e73_14, ↓e73_17, ↓e73_20, ↓e73_21, ↓e73_22, ↓e73_25, ↓e73_28, ↓e73_29, ↓e73_30, ↓e73_33, ↓e73_35, ↓e73_36, ↓e73_37, ↓e73_38, ↓e73_39, ↓e73_42, ↓e73_43, ↓e73_46, ↓e73_49, ↓e73_50, ↓e73_53, ↓e73_56, ↓e73_57, ↓e73_58, ↓e73_59, ↓e73_62, ↓e73_65, ↓e73_68, ↓e73_69, ↓e73_72, ↓e73_75, ↓e73_76, ↓e73_77, ↓e73_80, znl_i, znl_r, znl_n, zcs_0, zcs_1, zcs_2, zcs_3, zcat_0, zcat_1, zcat_2, zcat_3, zbl_0, zbl_1, true_and, and_true, ↓zret_some, ↓zret_none, Nat.reduceAdd, Nat.reduceLeDiff, Nat.reduceMul, eq_self, Int.reduceToNat, Int.reduceLE, Int.reduceLT, Int.reduceNeg, and_self, zrg, zkc_0, zin_1, zin_2, zin_3, zin_4, zin_5, zin_6, zin_7, zin_8, zin_9, zaa_9, zkc_10, zin_11, zin_12, zkc_13, zin_14, zin_15, zkc_16, zin_17, zin_18, zkc_19, zin_20, zin_21, zin_22, zin_23, zin_24, zin_25, zin_26, zin_27, zin_28, zaa_28, zkc_29, zin_30, zin_31, zkc_32, zin_33, zin_34, zkc_35, zin_36, zin_37, zkc_38, zin_39, zin_40, zin_41, zin_42, zin_43, zin_44, zin_45, zin_46, zin_47, zaa_47, zkc_48, zin_49, zin_50, zkc_51, zin_52, zin_53, zkc_54, zin_55, zin_56, zkc_209, zkc_210, zin_211, zaa_211, zkc_212, zin_213, zkc_214, zkc_215, zin_216, zin_217, zkc_218, zin_219, zin_220, zin_221, zkc_222, zin_223, zaa_223, zin_224, zin_225, zkc_226, zin_227, zin_228, zin_229, zin_230, zin_231, zin_232, zkc_233, zin_234, zaa_234, zin_235, zin_236, zin_237, zin_238, zin_239, zin_240, zin_241, zin_242, zin_243, zin_244, zin_245, zin_246, zin_247, zin_248, zin_249, zin_250, zkc_251, zin_252, zin_253, zkc_374, zin_375, zin_376, zin_377, zin_378, zin_379, zin_380, zin_381, zin_382, zin_383, zin_384, zin_385, zin_386, zin_387, hin, Int.toNat_natCast, hzk, ↓hcp, hsize]
      generalize zcpyS N2 (10 + 3 * j) 215 = P at hC2 hP ⊢
      have hIP := IR_cong hP hI
      refine JC_i ?_
      simp only [↓e157, ↓e157_0, ↓e157_1, ↓e157_2, ↓e157_3, ↓e157_6, ↓e157_9, ↓e157_10, ↓e157_11, ↓e157_12, ↓e157_15, ↓e157_16, ↓e157_17, ↓e157_20, ↓e157_21, ↓e157_24, ↓e157_27, ↓e157_29, ↓e157_30, ↓e157_33, ↓e157_34, ↓e157_35, ↓e157_36, ↓e157_39, ↓e157_40, ↓e157_41, ↓e157_42, ↓e157_43, ↓e157_44, ↓e157_45, ↓e157_48, ↓e157_49, ↓e157_50, ↓e157_51, ↓e157_52, ↓e157_55, ↓e157_56, ↓e157_59, ↓e157_60, ↓e157_63, ↓e157_64, ↓e157_65, ↓e157_66, ↓e157_69, ↓e157_70, ↓e157_71, ↓e157_72, ↓e157_75, ↓e157_78, ↓e157_79, ↓e157_82, ↓e157_83, ↓e157_84, znl_i, znl_r, znl_n, zcs_0, zcs_1, zcs_2, zcs_3, zcat_0, zcat_1, zcat_2, zcat_3, zbl_0, zbl_1, true_and, and_true, ↓zret_some, ↓zret_none, Nat.reduceAdd, Nat.reduceLeDiff, Nat.reduceMul, eq_self, Int.reduceToNat, Int.reduceLE, Int.reduceLT, Int.reduceNeg, and_self, zrg, zkc_0, zin_1, zin_2, zin_3, zin_4, zin_5, zin_6, zin_7, zin_8, zin_9, zaa_9, zkc_10, zin_11, zin_12, zkc_13, zin_14, zin_15, zkc_16, zin_17, zin_18, zkc_19, zin_20, zin_21, zin_22, zin_23, zin_24, zin_25, zin_26, zin_27, zin_28, zaa_28, zkc_29, zin_30, zin_31, zkc_32, zin_33, zin_34, zkc_35, zin_36, zin_37, zkc_38, zin_39, zin_40, zin_41, zin_42, zin_43, zin_44, zin_45, zin_46, zin_47, zaa_47, zkc_48, zin_49, zin_50, zkc_51, zin_52, zin_53, zkc_54, zin_55, zin_56, zkc_209, zkc_210, zin_211, zaa_211, zkc_212, zin_213, zkc_214, zkc_215, zin_216, zin_217, zkc_218, zin_219, zin_220, zin_221, zkc_222, zin_223, zaa_223, zin_224, zin_225, zkc_226, zin_227, zin_228, zin_229, zin_230, zin_231, zin_232, zkc_233, zin_234, zaa_234, zin_235, zin_236, zin_237, zin_238, zin_239, zin_240, zin_241, zin_242, zin_243, zin_244, zin_245, zin_246, zin_247, zin_248, zin_249, zin_250, zkc_251, zin_252, zin_253, zkc_374, zin_375, zin_376, zin_377, zin_378, zin_379, zin_380, zin_381, zin_382, zin_383, zin_384, zin_385, zin_386, zin_387, ↓hti, show ¬ (1 : Int) = 0 by omega, ne_eq, not_false_eq_true, ↓reduceIte]
      refine h375 P hP _ (fun P1 a1 a2 a3 => ?_)
      rw [zret_none]
      obtain ⟨b1, b2, b3⟩ := a3 hok
      have hI1 : IR (tpX X) (zup P1 374 15 0) := IR_tp hX hIP (fun i _ => by rw [zup_ne _ _ _ (by omega), a1.1 375 (by omega) (by omega)]) (fun i hi => by rw [zup_off _ _ (by omega), a1.2 i (by omega) (by omega)]) (zup_at _ _ _ _)
      have e17 : zup P1 374 15 0 374 17 = -1 := by rw [zup_off _ _ (by omega), a2, hok]
      simp only [↓e157, ↓e157_0, ↓e157_1, ↓e157_2, ↓e157_3, ↓e157_6, ↓e157_9, ↓e157_10, ↓e157_11, ↓e157_12, ↓e157_15, ↓e157_16, ↓e157_17, ↓e157_20, ↓e157_21, ↓e157_24, ↓e157_27, ↓e157_29, ↓e157_30, ↓e157_33, ↓e157_34, ↓e157_35, ↓e157_36, ↓e157_39, ↓e157_40, ↓e157_41, ↓e157_42, ↓e157_43, ↓e157_44, ↓e157_45, ↓e157_48, ↓e157_49, ↓e157_50, ↓e157_51, ↓e157_52, ↓e157_55, ↓e157_56, ↓e157_59, ↓e157_60, ↓e157_63, ↓e157_64, ↓e157_65, ↓e157_66, ↓e157_69, ↓e157_70, ↓e157_71, ↓e157_72, ↓e157_75, ↓e157_78, ↓e157_79, ↓e157_82, ↓e157_83, ↓e157_84, znl_i, znl_r, znl_n, zcs_0, zcs_1, zcs_2, zcs_3, zcat_0, zcat_1, zcat_2, zcat_3, zbl_0, zbl_1, true_and, and_true, ↓zret_some, ↓zret_none, Nat.reduceAdd, Nat.reduceLeDiff, Nat.reduceMul, eq_self, Int.reduceToNat, Int.reduceLE, Int.reduceLT, Int.reduceNeg, and_self, zrg, zkc_0, zin_1, zin_2, zin_3, zin_4, zin_5, zin_6, zin_7, zin_8, zin_9, zaa_9, zkc_10, zin_11, zin_12, zkc_13, zin_14, zin_15, zkc_16, zin_17, zin_18, zkc_19, zin_20, zin_21, zin_22, zin_23, zin_24, zin_25, zin_26, zin_27, zin_28, zaa_28, zkc_29, zin_30, zin_31, zkc_32, zin_33, zin_34, zkc_35, zin_36, zin_37, zkc_38, zin_39, zin_40, zin_41, zin_42, zin_43, zin_44, zin_45, zin_46, zin_47, zaa_47, zkc_48, zin_49, zin_50, zkc_51, zin_52, zin_53, zkc_54, zin_55, zin_56, zkc_209, zkc_210, zin_211, zaa_211, zkc_212, zin_213, zkc_214, zkc_215, zin_216, zin_217, zkc_218, zin_219, zin_220, zin_221, zkc_222, zin_223, zaa_223, zin_224, zin_225, zkc_226, zin_227, zin_228, zin_229, zin_230, zin_231, zin_232, zkc_233, zin_234, zaa_234, zin_235, zin_236, zin_237, zin_238, zin_239, zin_240, zin_241, zin_242, zin_243, zin_244, zin_245, zin_246, zin_247, zin_248, zin_249, zin_250, zkc_251, zin_252, zin_253, zkc_374, zin_375, zin_376, zin_377, zin_378, zin_379, zin_380, zin_381, zin_382, zin_383, zin_384, zin_385, zin_386, zin_387, e17, show (-1 : Int) < 0 by omega, ↓reduceIte]
      refine s_keeps (d + 7) _ _ (tpX X) B hX1 hI1 (fun P2 v1 v2 v3 v4 => ?_)
      rw [zret_none]
      have h386 : ∀ i, P2 386 i = P1 386 i := fun i => by rw [v2 386 (by omega) (by omega), zup_ne _ _ _ (by omega)]
      have hR2 : RelR' P2 0 (X 0) := by have := pushR v1; rw [e0] at this; exact this
      have lim : ∀ N : zM, N 386 = P2 386 → N 386 0 = (sz : Int) := fun N hN => by rw [hN, h386, b1, hsz]
      have hszr : -2147483648 ≤ 2 + 2 * (sz : Int) ∧ 2 + 2 * (sz : Int) < 2147483648 := ⟨by omega, by omega⟩
      have loop : ∀ q k : Nat, k + q = 2 + 2 * sz → ∀ N : zM, (∀ b, b ≠ 375 → N b = P2 b) → (∀ i, i < k → N 375 (192 + 22 * j + i) = P2 386 i) → (∀ i, (i < 192 + 22 * j ∨ 192 + 22 * j + k ≤ i) → N 375 i = P2 375 i) → RT (Sp (d + 9)) 157 (JE B (sz : Int)) 41 [some (.inr (.inr 374)), some (.inl (j : Int)), some (.inl (k : Int))] [] N := by
        intro q
        induction q with
        | zero =>
          intro k hk N g1 g2 g3
          obtain rfl : k = 2 + 2 * sz := by omega
          have hlm := lim N (g1 386 (by omega))
          have hX2 := WX_push hX1 hX1.1
          have hR3 : RelR' N 0 (shp (X 0) j (sz : Int) (D 0 3) (N1 216) (N1 217)) := RelR_shape hR2 w1.1 hj ⟨by omega, by omega⟩ (by have := g2 0 (by omega); rw [Nat.add_zero] at this; rw [this, h386, b1, hsz]) (by have := g2 1 (by omega); rw [show 193 + 22 * j = 192 + 22 * j + 1 by omega, this, h386, b2]) (fun s hs => by
            obtain ⟨v1, v2⟩ := m5' s (by omega)
            obtain ⟨y1, y2⟩ := b3 s (by omega)
            have c1 := g2 (2 + 2 * s) (by omega)
            have c2 := g2 (3 + 2 * s) (by omega)
            rw [show 194 + 22 * j + 2 * s = 192 + 22 * j + (2 + 2 * s) by omega, show 195 + 22 * j + 2 * s = 192 + 22 * j + (3 + 2 * s) by omega, c1, c2, h386, h386, y1, y2, v1, v2]
            exact ⟨rfl, rfl⟩) (fun i _ hi => g3 i (by omega))
          have h9 : JE B (sz : Int) (some (.inl (sz : Int))) N := by
            refine JE_i (X := setX (push (tpX X) (tpX X 0)) (shp (X 0) j (sz : Int) (D 0 3) (N1 216) (N1 217))) (IC_cong (fun b hb => ?_) hC2) (IR_set hX2 v1 hR3 (fun i i1 i2 => g3 i (by omega)) (fun i hi => by rw [g1 374 (by omega)]) (g1 385 (by omega))) (WX_set hX2 hWb)
            rw [g1 b (by omega), v2 b (by omega) (by omega), zup_ne _ _ _ (by omega), a1.1 b (by omega) (by omega)]
          have ek : ((2 + 2 * sz : Nat) : Int) = 2 + 2 * (sz : Int) := by omega
          rw [e157_41]
          simp only [↓e157, ↓e157_0, ↓e157_1, ↓e157_2, ↓e157_3, ↓e157_6, ↓e157_9, ↓e157_10, ↓e157_11, ↓e157_12, ↓e157_15, ↓e157_16, ↓e157_17, ↓e157_20, ↓e157_21, ↓e157_24, ↓e157_27, ↓e157_29, ↓e157_30, ↓e157_33, ↓e157_34, ↓e157_35, ↓e157_36, ↓e157_39, ↓e157_40, ↓e157_42, ↓e157_43, ↓e157_44, ↓e157_45, ↓e157_48, ↓e157_49, ↓e157_50, ↓e157_51, ↓e157_52, ↓e157_55, ↓e157_56, ↓e157_59, ↓e157_60, ↓e157_63, ↓e157_64, ↓e157_65, ↓e157_66, ↓e157_69, ↓e157_70, ↓e157_71, ↓e157_72, ↓e157_75, ↓e157_78, ↓e157_79, ↓e157_82, ↓e157_83, ↓e157_84, znl_i, znl_r, znl_n, zcs_0, zcs_1, zcs_2, zcs_3, zcat_0, zcat_1, zcat_2, zcat_3, zbl_0, zbl_1, true_and, and_true, ↓zret_some, ↓zret_none, Nat.reduceAdd, Nat.reduceLeDiff, Nat.reduceMul, eq_self, Int.reduceToNat, Int.reduceLE, Int.reduceLT, Int.reduceNeg, and_self, zrg, zkc_0, zin_1, zin_2, zin_3, zin_4, zin_5, zin_6, zin_7, zin_8, zin_9, zaa_9, zkc_10, zin_11, zin_12, zkc_13, zin_14, zin_15, zkc_16, zin_17, zin_18, zkc_19, zin_20, zin_21, zin_22, zin_23, zin_24, zin_25, zin_26, zin_27, zin_28, zaa_28, zkc_29, zin_30, zin_31, zkc_32, zin_33, zin_34, zkc_35, zin_36, zin_37, zkc_38, zin_39, zin_40, zin_41, zin_42, zin_43, zin_44, zin_45, zin_46, zin_47, zaa_47, zkc_48, zin_49, zin_50, zkc_51, zin_52, zin_53, zkc_54, zin_55, zin_56, zkc_209, zkc_210, zin_211, zaa_211, zkc_212, zin_213, zkc_214, zkc_215, zin_216, zin_217, zkc_218, zin_219, zin_220, zin_221, zkc_222, zin_223, zaa_223, zin_224, zin_225, zkc_226, zin_227, zin_228, zin_229, zin_230, zin_231, zin_232, zkc_233, zin_234, zaa_234, zin_235, zin_236, zin_237, zin_238, zin_239, zin_240, zin_241, zin_242, zin_243, zin_244, zin_245, zin_246, zin_247, zin_248, zin_249, zin_250, zkc_251, zin_252, zin_253, zkc_374, zin_375, zin_376, zin_377, zin_378, zin_379, zin_380, zin_381, zin_382, zin_383, zin_384, zin_385, zin_386, zin_387, hlm, ek, hszr, ge_iff_le, Int.le_refl, ↓reduceIte]
          exact h9
        | succ q ih =>
          intro k hk N g1 g2 g3
          have hk1 : ¬ (k : Int) ≥ 2 + 2 * (sz : Int) := by omega
          have hk2 : -2147483648 ≤ (k : Int) ∧ (k : Int) < 2147483648 := ⟨by omega, by omega⟩
          have hk0 : 0 ≤ (k : Int) ∧ (k : Int) < 22 := ⟨by omega, by omega⟩
          have hlm := lim N (g1 386 (by omega))
          have e1 : (((192 + 22 * j : Nat) : Int) + (k : Int)).toNat = 192 + 22 * j + k := by omega
          have e2 : 0 ≤ ((192 + 22 * j : Nat) : Int) + (k : Int) ∧ ((192 + 22 * j : Nat) : Int) + (k : Int) < 2838 := ⟨by omega, by omega⟩
          have h9 := ih (k + 1) (by omega) (zup N 375 (192 + 22 * j + k) (N 386 k)) (fun b hb => by rw [zup_ne _ _ _ hb, g1 b hb]) (fun i hi => by
            by_cases z : i = k
            · subst z; rw [zup_at, g1 386 (by omega)]
            · rw [zup_off _ _ (by omega)]; exact g2 i (by omega)) (fun i hi => by rw [zup_off _ _ (by omega)]; exact g3 i (by omega))
          rw [e157_41]
          simp only [↓e157, ↓e157_0, ↓e157_1, ↓e157_2, ↓e157_3, ↓e157_6, ↓e157_9, ↓e157_10, ↓e157_11, ↓e157_12, ↓e157_15, ↓e157_16, ↓e157_17, ↓e157_20, ↓e157_21, ↓e157_24, ↓e157_27, ↓e157_29, ↓e157_30, ↓e157_33, ↓e157_34, ↓e157_35, ↓e157_36, ↓e157_39, ↓e157_40, ↓e157_42, ↓e157_43, ↓e157_44, ↓e157_45, ↓e157_48, ↓e157_49, ↓e157_50, ↓e157_51, ↓e157_52, ↓e157_55, ↓e157_56, ↓e157_59, ↓e157_60, ↓e157_63, ↓e157_64, ↓e157_65, ↓e157_66, ↓e157_69, ↓e157_70, ↓e157_71, ↓e157_72, ↓e157_75, ↓e157_78, ↓e157_79, ↓e157_82, ↓e157_83, ↓e157_84, znl_i, znl_r, znl_n, zcs_0, zcs_1, zcs_2, zcs_3, zcat_0, zcat_1, zcat_2, zcat_3, zbl_0, zbl_1, true_and, and_true, ↓zret_some, ↓zret_none, Nat.reduceAdd, Nat.reduceLeDiff, Nat.reduceMul, eq_self, Int.reduceToNat, Int.reduceLE, Int.reduceLT, Int.reduceNeg, and_self, zrg, zkc_0, zin_1, zin_2, zin_3, zin_4, zin_5, zin_6, zin_7, zin_8, zin_9, zaa_9, zkc_10, zin_11, zin_12, zkc_13, zin_14, zin_15, zkc_16, zin_17, zin_18, zkc_19, zin_20, zin_21, zin_22, zin_23, zin_24, zin_25, zin_26, zin_27, zin_28, zaa_28, zkc_29, zin_30, zin_31, zkc_32, zin_33, zin_34, zkc_35, zin_36, zin_37, zkc_38, zin_39, zin_40, zin_41, zin_42, zin_43, zin_44, zin_45, zin_46, zin_47, zaa_47, zkc_48, zin_49, zin_50, zkc_51, zin_52, zin_53, zkc_54, zin_55, zin_56, zkc_209, zkc_210, zin_211, zaa_211, zkc_212, zin_213, zkc_214, zkc_215, zin_216, zin_217, zkc_218, zin_219, zin_220, zin_221, zkc_222, zin_223, zaa_223, zin_224, zin_225, zkc_226, zin_227, zin_228, zin_229, zin_230, zin_231, zin_232, zkc_233, zin_234, zaa_234, zin_235, zin_236, zin_237, zin_238, zin_239, zin_240, zin_241, zin_242, zin_243, zin_244, zin_245, zin_246, zin_247, zin_248, zin_249, zin_250, zkc_251, zin_252, zin_253, zkc_374, zin_375, zin_376, zin_377, zin_378, zin_379, zin_380, zin_381, zin_382, zin_383, zin_384, zin_385, zin_386, zin_387, hlm, hszr, hk0, hk1, hk2, ↓reduceIte, ↓s_shapeAt (d + 8) _ N j, e1, e2, Int.toNat_natCast]
          rw [show ((k : Int) + 1) = ((k + 1 : Nat) : Int) by omega]
          exact h9
      have h9 := loop (2 + 2 * sz) 0 (by omega) P2 (fun _ _ => rfl) (fun i hi => absurd hi (Nat.not_lt_zero i)) (fun _ _ => rfl)
      simp only [↓e157, ↓e157_0, ↓e157_1, ↓e157_2, ↓e157_3, ↓e157_6, ↓e157_9, ↓e157_10, ↓e157_11, ↓e157_12, ↓e157_15, ↓e157_16, ↓e157_17, ↓e157_20, ↓e157_21, ↓e157_24, ↓e157_27, ↓e157_29, ↓e157_30, ↓e157_33, ↓e157_34, ↓e157_35, ↓e157_36, ↓e157_39, ↓e157_40, ↓e157_42, ↓e157_43, ↓e157_44, ↓e157_45, ↓e157_48, ↓e157_49, ↓e157_50, ↓e157_51, ↓e157_52, ↓e157_55, ↓e157_56, ↓e157_59, ↓e157_60, ↓e157_63, ↓e157_64, ↓e157_65, ↓e157_66, ↓e157_69, ↓e157_70, ↓e157_71, ↓e157_72, ↓e157_75, ↓e157_78, ↓e157_79, ↓e157_82, ↓e157_83, ↓e157_84, znl_i, znl_r, znl_n, zcs_0, zcs_1, zcs_2, zcs_3, zcat_0, zcat_1, zcat_2, zcat_3, zbl_0, zbl_1, true_and, and_true, ↓zret_some, ↓zret_none, Nat.reduceAdd, Nat.reduceLeDiff, Nat.reduceMul, eq_self, Int.reduceToNat, Int.reduceLE, Int.reduceLT, Int.reduceNeg, and_self, zrg, zkc_0, zin_1, zin_2, zin_3, zin_4, zin_5, zin_6, zin_7, zin_8, zin_9, zaa_9, zkc_10, zin_11, zin_12, zkc_13, zin_14, zin_15, zkc_16, zin_17, zin_18, zkc_19, zin_20, zin_21, zin_22, zin_23, zin_24, zin_25, zin_26, zin_27, zin_28, zaa_28, zkc_29, zin_30, zin_31, zkc_32, zin_33, zin_34, zkc_35, zin_36, zin_37, zkc_38, zin_39, zin_40, zin_41, zin_42, zin_43, zin_44, zin_45, zin_46, zin_47, zaa_47, zkc_48, zin_49, zin_50, zkc_51, zin_52, zin_53, zkc_54, zin_55, zin_56, zkc_209, zkc_210, zin_211, zaa_211, zkc_212, zin_213, zkc_214, zkc_215, zin_216, zin_217, zkc_218, zin_219, zin_220, zin_221, zkc_222, zin_223, zaa_223, zin_224, zin_225, zkc_226, zin_227, zin_228, zin_229, zin_230, zin_231, zin_232, zkc_233, zin_234, zaa_234, zin_235, zin_236, zin_237, zin_238, zin_239, zin_240, zin_241, zin_242, zin_243, zin_244, zin_245, zin_246, zin_247, zin_248, zin_249, zin_250, zkc_251, zin_252, zin_253, zkc_374, zin_375, zin_376, zin_377, zin_378, zin_379, zin_380, zin_381, zin_382, zin_383, zin_384, zin_385, zin_386, zin_387]
      exact h9
    · simp only [↓e73, ↓e73_0, ↓e73_1, ↓e73_4, ↓e73_7, ↓e73_8, ↓e73_9, ↓e73_10, ↓e73_13, ↓e73_14, ↓e73_17, ↓e73_20, ↓e73_21, ↓e73_22, ↓e73_25, ↓e73_28, ↓e73_29, ↓e73_30, ↓e73_33, ↓e73_35, ↓e73_36, ↓e73_37, ↓e73_38, ↓e73_39, ↓e73_42, ↓e73_43, ↓e73_46, ↓e73_49, ↓e73_50, ↓e73_53, ↓e73_56, ↓e73_57, ↓e73_58, ↓e73_59, ↓e73_62, ↓e73_65, ↓e73_68, ↓e73_69, ↓e73_72, ↓e73_75, ↓e73_76, ↓e73_77, ↓e73_80, ↓e37, ↓e37_0, ↓e37_1, ↓e37_2, ↓e37_5, znl_i, znl_r, znl_n, zcs_0, zcs_1, zcs_2, zcs_3, zcat_0, zcat_1, zcat_2, zcat_3, zbl_0, zbl_1, true_and, and_true, ↓zret_some, ↓zret_none, Nat.reduceAdd, Nat.reduceLeDiff, Nat.reduceMul, eq_self, Int.reduceToNat, Int.reduceLE, Int.reduceLT, Int.reduceNeg, and_self, zrg, zkc_0, zin_1, zin_2, zin_3, zin_4, zin_5, zin_6, zin_7, zin_8, zin_9, zaa_9, zkc_10, zin_11, zin_12, zkc_13, zin_14, zin_15, zkc_16, zin_17, zin_18, zkc_19, zin_20, zin_21, zin_22, zin_23, zin_24, zin_25, zin_26, zin_27, zin_28, zaa_28, zkc_29, zin_30, zin_31, zkc_32, zin_33, zin_34, zkc_35, zin_36, zin_37, zkc_38, zin_39, zin_40, zin_41, zin_42, zin_43, zin_44, zin_45, zin_46, zin_47, zaa_47, zkc_48, zin_49, zin_50, zkc_51, zin_52, zin_53, zkc_54, zin_55, zin_56, zkc_209, zkc_210, zin_211, zaa_211, zkc_212, zin_213, zkc_214, zkc_215, zin_216, zin_217, zkc_218, zin_219, zin_220, zin_221, zkc_222, zin_223, zaa_223, zin_224, zin_225, zkc_226, zin_227, zin_228, zin_229, zin_230, zin_231, zin_232, zkc_233, zin_234, zaa_234, zin_235, zin_236, zin_237, zin_238, zin_239, zin_240, zin_241, zin_242, zin_243, zin_244, zin_245, zin_246, zin_247, zin_248, zin_249, zin_250, zkc_251, zin_252, zin_253, zkc_374, zin_375, zin_376, zin_377, zin_378, zin_379, zin_380, zin_381, zin_382, zin_383, zin_384, zin_385, zin_386, zin_387, hfrr, hok, ↓reduceIte]
      have hP : ∀ b, 374 ≤ b → zup N1 212 0 0 b = M b := fun b hb => hz1 b (by omega)
      generalize zup N1 212 0 0 = P at hC1 hP ⊢
      have hIP := IR_cong hP hI
      refine JC_i ?_
      simp only [↓e157, ↓e157_0, ↓e157_1, ↓e157_2, ↓e157_3, ↓e157_6, ↓e157_9, ↓e157_10, ↓e157_11, ↓e157_12, ↓e157_15, ↓e157_16, ↓e157_17, ↓e157_20, ↓e157_21, ↓e157_24, ↓e157_27, ↓e157_29, ↓e157_30, ↓e157_33, ↓e157_34, ↓e157_35, ↓e157_36, ↓e157_39, ↓e157_40, ↓e157_41, ↓e157_42, ↓e157_43, ↓e157_44, ↓e157_45, ↓e157_48, ↓e157_49, ↓e157_50, ↓e157_51, ↓e157_52, ↓e157_55, ↓e157_56, ↓e157_59, ↓e157_60, ↓e157_63, ↓e157_64, ↓e157_65, ↓e157_66, ↓e157_69, ↓e157_70, ↓e157_71, ↓e157_72, ↓e157_75, ↓e157_78, ↓e157_79, ↓e157_82, ↓e157_83, ↓e157_84, znl_i, znl_r, znl_n, zcs_0, zcs_1, zcs_2, zcs_3, zcat_0, zcat_1, zcat_2, zcat_3, zbl_0, zbl_1, true_and, and_true, ↓zret_some, ↓zret_none, Nat.reduceAdd, Nat.reduceLeDiff, Nat.reduceMul, eq_self, Int.reduceToNat, Int.reduceLE, Int.reduceLT, Int.reduceNeg, and_self, zrg, zkc_0, zin_1, zin_2, zin_3, zin_4, zin_5, zin_6, zin_7, zin_8, zin_9, zaa_9, zkc_10, zin_11, zin_12, zkc_13, zin_14, zin_15, zkc_16, zin_17, zin_18, zkc_19, zin_20, zin_21, zin_22, zin_23, zin_24, zin_25, zin_26, zin_27, zin_28, zaa_28, zkc_29, zin_30, zin_31, zkc_32, zin_33, zin_34, zkc_35, zin_36, zin_37, zkc_38, zin_39, zin_40, zin_41, zin_42, zin_43, zin_44, zin_45, zin_46, zin_47, zaa_47, zkc_48, zin_49, zin_50, zkc_51, zin_52, zin_53, zkc_54, zin_55, zin_56, zkc_209, zkc_210, zin_211, zaa_211, zkc_212, zin_213, zkc_214, zkc_215, zin_216, zin_217, zkc_218, zin_219, zin_220, zin_221, zkc_222, zin_223, zaa_223, zin_224, zin_225, zkc_226, zin_227, zin_228, zin_229, zin_230, zin_231, zin_232, zkc_233, zin_234, zaa_234, zin_235, zin_236, zin_237, zin_238, zin_239, zin_240, zin_241, zin_242, zin_243, zin_244, zin_245, zin_246, zin_247, zin_248, zin_249, zin_250, zkc_251, zin_252, zin_253, zkc_374, zin_375, zin_376, zin_377, zin_378, zin_379, zin_380, zin_381, zin_382, zin_383, zin_384, zin_385, zin_386, zin_387, ↓hti, show ¬ (1 : Int) = 0 by omega, ne_eq, not_false_eq_true, ↓reduceIte]
      refine h375 P hP _ (fun P1 a1 a2 a3 => ?_)
      rw [zret_none]
      have hI1 : IR (tpX X) (zup P1 374 15 0) := IR_tp hX hIP (fun i _ => by rw [zup_ne _ _ _ (by omega), a1.1 375 (by omega) (by omega)]) (fun i hi => by rw [zup_off _ _ (by omega), a1.2 i (by omega) (by omega)]) (zup_at _ _ _ _)
      have e17 : zup P1 374 15 0 374 17 = ferr (X 10 1) n := by rw [zup_off _ _ (by omega), a2]
      simp only [↓e157, ↓e157_0, ↓e157_1, ↓e157_2, ↓e157_3, ↓e157_6, ↓e157_9, ↓e157_10, ↓e157_11, ↓e157_12, ↓e157_15, ↓e157_16, ↓e157_17, ↓e157_20, ↓e157_21, ↓e157_24, ↓e157_27, ↓e157_29, ↓e157_30, ↓e157_33, ↓e157_34, ↓e157_35, ↓e157_36, ↓e157_39, ↓e157_40, ↓e157_41, ↓e157_42, ↓e157_43, ↓e157_44, ↓e157_45, ↓e157_48, ↓e157_49, ↓e157_50, ↓e157_51, ↓e157_52, ↓e157_55, ↓e157_56, ↓e157_59, ↓e157_60, ↓e157_63, ↓e157_64, ↓e157_65, ↓e157_66, ↓e157_69, ↓e157_70, ↓e157_71, ↓e157_72, ↓e157_75, ↓e157_78, ↓e157_79, ↓e157_82, ↓e157_83, ↓e157_84, znl_i, znl_r, znl_n, zcs_0, zcs_1, zcs_2, zcs_3, zcat_0, zcat_1, zcat_2, zcat_3, zbl_0, zbl_1, true_and, and_true, ↓zret_some, ↓zret_none, Nat.reduceAdd, Nat.reduceLeDiff, Nat.reduceMul, eq_self, Int.reduceToNat, Int.reduceLE, Int.reduceLT, Int.reduceNeg, and_self, zrg, zkc_0, zin_1, zin_2, zin_3, zin_4, zin_5, zin_6, zin_7, zin_8, zin_9, zaa_9, zkc_10, zin_11, zin_12, zkc_13, zin_14, zin_15, zkc_16, zin_17, zin_18, zkc_19, zin_20, zin_21, zin_22, zin_23, zin_24, zin_25, zin_26, zin_27, zin_28, zaa_28, zkc_29, zin_30, zin_31, zkc_32, zin_33, zin_34, zkc_35, zin_36, zin_37, zkc_38, zin_39, zin_40, zin_41, zin_42, zin_43, zin_44, zin_45, zin_46, zin_47, zaa_47, zkc_48, zin_49, zin_50, zkc_51, zin_52, zin_53, zkc_54, zin_55, zin_56, zkc_209, zkc_210, zin_211, zaa_211, zkc_212, zin_213, zkc_214, zkc_215, zin_216, zin_217, zkc_218, zin_219, zin_220, zin_221, zkc_222, zin_223, zaa_223, zin_224, zin_225, zkc_226, zin_227, zin_228, zin_229, zin_230, zin_231, zin_232, zkc_233, zin_234, zaa_234, zin_235, zin_236, zin_237, zin_238, zin_239, zin_240, zin_241, zin_242, zin_243, zin_244, zin_245, zin_246, zin_247, zin_248, zin_249, zin_250, zkc_251, zin_252, zin_253, zkc_374, zin_375, zin_376, zin_377, zin_378, zin_379, zin_380, zin_381, zin_382, zin_383, zin_384, zin_385, zin_386, zin_387, e17, hfrr, show ¬ ferr (X 10 1) n < 0 by omega, ↓reduceIte]
      exact JE_i (X := tpX X) (IC_cong (fun b hb => by rw [zup_ne _ _ _ (by omega), a1.1 b (by omega) (by omega)]) hC1) hI1 hX1
  · simp only [show zb (0 ≤ x ∧ x ≤ 2) = 0 from if_neg (fun z => by omega)] at hti
    simp only [show zb (0 ≤ x ∧ x < 3) = 0 from if_neg hin] at hsh
    simp only [↓e73, ↓e73_0, ↓e73_1, ↓e73_4, ↓e73_7, ↓e73_8, ↓e73_9, ↓e73_10, ↓e73_13, ↓e73_14, ↓e73_17, ↓e73_20, ↓e73_21, ↓e73_22, ↓e73_25, ↓e73_28, ↓e73_29, ↓e73_30, ↓e73_33, ↓e73_35, ↓e73_36, ↓e73_37, ↓e73_38, ↓e73_39, ↓e73_42, ↓e73_43, ↓e73_46, ↓e73_49, ↓e73_50, ↓e73_53, ↓e73_56, ↓e73_57, ↓e73_58, ↓e73_59, ↓e73_62, ↓e73_65, ↓e73_68, ↓e73_69, ↓e73_72, ↓e73_75, ↓e73_76, ↓e73_77, ↓e73_80, znl_i, znl_r, znl_n, zcs_0, zcs_1, zcs_2, zcs_3, zcat_0, zcat_1, zcat_2, zcat_3, zbl_0, zbl_1, true_and, and_true, ↓zret_some, ↓zret_none, Nat.reduceAdd, Nat.reduceLeDiff, Nat.reduceMul, eq_self, Int.reduceToNat, Int.reduceLE, Int.reduceLT, Int.reduceNeg, and_self, zrg, zkc_0, zin_1, zin_2, zin_3, zin_4, zin_5, zin_6, zin_7, zin_8, zin_9, zaa_9, zkc_10, zin_11, zin_12, zkc_13, zin_14, zin_15, zkc_16, zin_17, zin_18, zkc_19, zin_20, zin_21, zin_22, zin_23, zin_24, zin_25, zin_26, zin_27, zin_28, zaa_28, zkc_29, zin_30, zin_31, zkc_32, zin_33, zin_34, zkc_35, zin_36, zin_37, zkc_38, zin_39, zin_40, zin_41, zin_42, zin_43, zin_44, zin_45, zin_46, zin_47, zaa_47, zkc_48, zin_49, zin_50, zkc_51, zin_52, zin_53, zkc_54, zin_55, zin_56, zkc_209, zkc_210, zin_211, zaa_211, zkc_212, zin_213, zkc_214, zkc_215, zin_216, zin_217, zkc_218, zin_219, zin_220, zin_221, zkc_222, zin_223, zaa_223, zin_224, zin_225, zkc_226, zin_227, zin_228, zin_229, zin_230, zin_231, zin_232, zkc_233, zin_234, zaa_234, zin_235, zin_236, zin_237, zin_238, zin_239, zin_240, zin_241, zin_242, zin_243, zin_244, zin_245, zin_246, zin_247, zin_248, zin_249, zin_250, zkc_251, zin_252, zin_253, zkc_374, zin_375, zin_376, zin_377, zin_378, zin_379, zin_380, zin_381, zin_382, zin_383, zin_384, zin_385, zin_386, zin_387, ↓hsh, ne_eq, not_true_eq_false, ↓reduceIte]
    refine JC_i ?_
    simp only [↓e157, ↓e157_0, ↓e157_1, ↓e157_2, ↓e157_3, ↓e157_6, ↓e157_9, ↓e157_10, ↓e157_11, ↓e157_12, ↓e157_15, ↓e157_16, ↓e157_17, ↓e157_20, ↓e157_21, ↓e157_24, ↓e157_27, ↓e157_29, ↓e157_30, ↓e157_33, ↓e157_34, ↓e157_35, ↓e157_36, ↓e157_39, ↓e157_40, ↓e157_41, ↓e157_42, ↓e157_43, ↓e157_44, ↓e157_45, ↓e157_48, ↓e157_49, ↓e157_50, ↓e157_51, ↓e157_52, ↓e157_55, ↓e157_56, ↓e157_59, ↓e157_60, ↓e157_63, ↓e157_64, ↓e157_65, ↓e157_66, ↓e157_69, ↓e157_70, ↓e157_71, ↓e157_72, ↓e157_75, ↓e157_78, ↓e157_79, ↓e157_82, ↓e157_83, ↓e157_84, znl_i, znl_r, znl_n, zcs_0, zcs_1, zcs_2, zcs_3, zcat_0, zcat_1, zcat_2, zcat_3, zbl_0, zbl_1, true_and, and_true, ↓zret_some, ↓zret_none, Nat.reduceAdd, Nat.reduceLeDiff, Nat.reduceMul, eq_self, Int.reduceToNat, Int.reduceLE, Int.reduceLT, Int.reduceNeg, and_self, zrg, zkc_0, zin_1, zin_2, zin_3, zin_4, zin_5, zin_6, zin_7, zin_8, zin_9, zaa_9, zkc_10, zin_11, zin_12, zkc_13, zin_14, zin_15, zkc_16, zin_17, zin_18, zkc_19, zin_20, zin_21, zin_22, zin_23, zin_24, zin_25, zin_26, zin_27, zin_28, zaa_28, zkc_29, zin_30, zin_31, zkc_32, zin_33, zin_34, zkc_35, zin_36, zin_37, zkc_38, zin_39, zin_40, zin_41, zin_42, zin_43, zin_44, zin_45, zin_46, zin_47, zaa_47, zkc_48, zin_49, zin_50, zkc_51, zin_52, zin_53, zkc_54, zin_55, zin_56, zkc_209, zkc_210, zin_211, zaa_211, zkc_212, zin_213, zkc_214, zkc_215, zin_216, zin_217, zkc_218, zin_219, zin_220, zin_221, zkc_222, zin_223, zaa_223, zin_224, zin_225, zkc_226, zin_227, zin_228, zin_229, zin_230, zin_231, zin_232, zkc_233, zin_234, zaa_234, zin_235, zin_236, zin_237, zin_238, zin_239, zin_240, zin_241, zin_242, zin_243, zin_244, zin_245, zin_246, zin_247, zin_248, zin_249, zin_250, zkc_251, zin_252, zin_253, zkc_374, zin_375, zin_376, zin_377, zin_378, zin_379, zin_380, zin_381, zin_382, zin_383, zin_384, zin_385, zin_386, zin_387, ↓hti, ne_eq, not_true_eq_false, ↓reduceIte]
    exact JE_i hC hI hX
