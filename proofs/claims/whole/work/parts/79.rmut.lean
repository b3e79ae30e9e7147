/-! ### the reference's changes -/
theorem s_of0 (d : Nat) (Q : zQ) (M : zM) (m : Nat) (hm : m < 10) : Sp (d + 1) 114 [.inr (.inr 374), .inl (m : Int), .inl 0] M Q = Q (some (.inl (M 375 (12 + 6 * m + 0)))) M := s_of d Q M m 0 hm (by omega)
theorem s_of1 (d : Nat) (Q : zQ) (M : zM) (m : Nat) (hm : m < 10) : Sp (d + 1) 114 [.inr (.inr 374), .inl (m : Int), .inl 1] M Q = Q (some (.inl (M 375 (12 + 6 * m + 1)))) M := s_of d Q M m 1 hm (by omega)
theorem s_of2 (d : Nat) (Q : zQ) (M : zM) (m : Nat) (hm : m < 10) : Sp (d + 1) 114 [.inr (.inr 374), .inl (m : Int), .inl 2] M Q = Q (some (.inl (M 375 (12 + 6 * m + 2)))) M := s_of d Q M m 2 hm (by omega)
theorem s_of3 (d : Nat) (Q : zQ) (M : zM) (m : Nat) (hm : m < 10) : Sp (d + 1) 114 [.inr (.inr 374), .inl (m : Int), .inl 3] M Q = Q (some (.inl (M 375 (12 + 6 * m + 3)))) M := s_of d Q M m 3 hm (by omega)
theorem s_of4 (d : Nat) (Q : zQ) (M : zM) (m : Nat) (hm : m < 10) : Sp (d + 1) 114 [.inr (.inr 374), .inl (m : Int), .inl 4] M Q = Q (some (.inl (M 375 (12 + 6 * m + 4)))) M := s_of d Q M m 4 hm (by omega)
theorem s_of5 (d : Nat) (Q : zQ) (M : zM) (m : Nat) (hm : m < 10) : Sp (d + 1) 114 [.inr (.inr 374), .inl (m : Int), .inl 5] M Q = Q (some (.inl (M 375 (12 + 6 * m + 5)))) M := s_of d Q M m 5 hm (by omega)
theorem s_lay0 (d : Nat) (Q : zQ) (M : zM) (m : Nat) (v : Int) (hm : m < 10) : Sp (d + 1) 115 [.inr (.inr 374), .inl (m : Int), .inl 0, .inl v] M Q = Q none (zup M 375 (12 + 6 * m + 0) v) := s_lays d Q M m 0 v hm (by omega)
theorem s_lay1 (d : Nat) (Q : zQ) (M : zM) (m : Nat) (v : Int) (hm : m < 10) : Sp (d + 1) 115 [.inr (.inr 374), .inl (m : Int), .inl 1, .inl v] M Q = Q none (zup M 375 (12 + 6 * m + 1) v) := s_lays d Q M m 1 v hm (by omega)
theorem s_lay2 (d : Nat) (Q : zQ) (M : zM) (m : Nat) (v : Int) (hm : m < 10) : Sp (d + 1) 115 [.inr (.inr 374), .inl (m : Int), .inl 2, .inl v] M Q = Q none (zup M 375 (12 + 6 * m + 2) v) := s_lays d Q M m 2 v hm (by omega)
theorem s_lay3 (d : Nat) (Q : zQ) (M : zM) (m : Nat) (v : Int) (hm : m < 10) : Sp (d + 1) 115 [.inr (.inr 374), .inl (m : Int), .inl 3, .inl v] M Q = Q none (zup M 375 (12 + 6 * m + 3) v) := s_lays d Q M m 3 v hm (by omega)
theorem s_lay4 (d : Nat) (Q : zQ) (M : zM) (m : Nat) (v : Int) (hm : m < 10) : Sp (d + 1) 115 [.inr (.inr 374), .inl (m : Int), .inl 4, .inl v] M Q = Q none (zup M 375 (12 + 6 * m + 4) v) := s_lays d Q M m 4 v hm (by omega)
theorem s_lay5 (d : Nat) (Q : zQ) (M : zM) (m : Nat) (v : Int) (hm : m < 10) : Sp (d + 1) 115 [.inr (.inr 374), .inl (m : Int), .inl 5, .inl v] M Q = Q none (zup M 375 (12 + 6 * m + 5) v) := s_lays d Q M m 5 v hm (by omega)
theorem s_counts (d : Nat) (Q : zQ) (M : zM) (k : Nat) (n : Int) (hk : k < 8) : Sp (d + 1) 122 [.inr (.inr 374), .inl (k : Int), .inl n] M Q = Q none (zup M 375 (4 + k) (M 375 (4 + k) + n)) := by
  have e1 : (4 + (k : Int)).toNat = 4 + k := by omega
  have e2 : 0 ≤ 4 + (k : Int) ∧ 4 + (k : Int) < 2838 := ⟨by omega, by omega⟩
  simp only [↓e122, ↓e122_0, ↓e122_1, ↓e122_4, ↓e122_5, ↓e122_6, ↓e122_7, ↓e122_8, ↓e122_9, ↓e122_10, ↓e122_11, ↓e122_12, znl_i, znl_r, znl_n, zcs_0, zcs_1, zcs_2, zcs_3, zcat_0, zcat_1, zcat_2, zcat_3, zbl_0, zbl_1, true_and, and_true, ↓zret_some, ↓zret_none, Nat.reduceAdd, Nat.reduceLeDiff, Nat.reduceMul, eq_self, Int.reduceToNat, zkc_0, zin_1, zin_2, zin_3, zin_4, zin_5, zin_6, zin_7, zin_8, zin_9, zaa_9, zkc_10, zin_11, zin_12, zkc_13, zin_14, zin_15, zkc_16, zin_17, zin_18, zkc_19, zin_20, zin_21, zin_22, zin_23, zin_24, zin_25, zin_26, zin_27, zin_28, zaa_28, zkc_29, zin_30, zin_31, zkc_32, zin_33, zin_34, zkc_35, zin_36, zin_37, zkc_38, zin_39, zin_40, zin_41, zin_42, zin_43, zin_44, zin_45, zin_46, zin_47, zaa_47, zkc_48, zin_49, zin_50, zkc_51, zin_52, zin_53, zkc_54, zin_55, zin_56, zkc_209, zkc_210, zin_211, zaa_211, zkc_212, zin_213, zkc_214, zkc_215, zin_216, zin_217, zkc_218, zin_219, zin_220, zin_221, zkc_222, zin_223, zaa_223, zin_224, zin_225, zkc_226, zin_227, zin_228, zin_229, zin_230, zin_231, zin_232, zkc_233, zin_234, zaa_234, zin_235, zin_236, zin_237, zin_238, zin_239, zin_240, zin_241, zin_242, zin_243, zin_244, zin_245, zin_246, zin_247, zin_248, zin_249, zin_250, zkc_251, zin_252, zin_253, zkc_374, zin_375, zin_376, zin_377, zin_378, zin_379, zin_380, zin_381, zin_382, zin_383, zin_384, zin_385, zin_386, zin_387, e1, e2]
theorem s_cnt0 (d : Nat) (Q : zQ) (M : zM) : Sp (d + 1) 122 [.inr (.inr 374), .inl 0, .inl 1] M Q = Q none (zup M 375 (4 + 0) (M 375 (4 + 0) + 1)) := s_counts d Q M 0 1 (by omega)
theorem s_cnt1 (d : Nat) (Q : zQ) (M : zM) : Sp (d + 1) 122 [.inr (.inr 374), .inl 1, .inl 1] M Q = Q none (zup M 375 (4 + 1) (M 375 (4 + 1) + 1)) := s_counts d Q M 1 1 (by omega)
theorem s_cnt2 (d : Nat) (Q : zQ) (M : zM) : Sp (d + 1) 122 [.inr (.inr 374), .inl 2, .inl 1] M Q = Q none (zup M 375 (4 + 2) (M 375 (4 + 2) + 1)) := s_counts d Q M 2 1 (by omega)
theorem s_cnt3 (d : Nat) (Q : zQ) (M : zM) : Sp (d + 1) 122 [.inr (.inr 374), .inl 3, .inl 1] M Q = Q none (zup M 375 (4 + 3) (M 375 (4 + 3) + 1)) := s_counts d Q M 3 1 (by omega)
theorem s_cnt4 (d : Nat) (Q : zQ) (M : zM) : Sp (d + 1) 122 [.inr (.inr 374), .inl 4, .inl 1] M Q = Q none (zup M 375 (4 + 4) (M 375 (4 + 4) + 1)) := s_counts d Q M 4 1 (by omega)
theorem zup_at (M : zM) (a k : Nat) (v : Int) : zup M a k v a k = v := by simp [zup]
theorem zup_off (M : zM) {a k b j : Nat} (v : Int) (h : b ≠ a ∨ j ≠ k) : zup M a k v b j = M b j := by
  unfold zup
  rw [if_neg (by omega)]
theorem RelR_lay {M S : zM} (hR : RelR M 0 S) {m p : Nat} {v : Int} (hm : m < 10) (hp : p < 6) : RelR (zup M 375 (12 + 6 * m + p) v) 0 (zup S (p + 1) m v) := by
  obtain ⟨⟨a1, a2, a3, a4⟩, r2, r3, r4, r5⟩ := hR
  have hi : ∀ i, i ≠ 12 + 6 * m + p → zup M 375 (12 + 6 * m + p) v 375 i = M 375 i := fun i hi => zup_off _ _ (Or.inr hi)
  have hs : ∀ b, b ≠ p + 1 → zup S (p + 1) m v b = S b := fun b hb => zup_ne _ _ _ hb
  have hq : ∀ k q : Nat, k < 10 → q < 6 → M 375 (12 + 6 * k + q) = S (q + 1) k → zup M 375 (12 + 6 * m + p) v 375 (12 + 6 * k + q) = zup S (p + 1) m v (q + 1) k := fun k q hk hq h => by
    by_cases z : k = m ∧ q = p
    · obtain ⟨rfl, rfl⟩ := z
      rw [zup_at, zup_at]
    · rw [hi _ (by omega), zup_off _ _ (by omega)]
      exact h
  unfold RelR
  simp only [Nat.zero_add] at *
  refine ⟨⟨?_, ?_, ?_, ?_⟩, fun k hk k5 k6 => ?_, fun k hk hl => ?_, fun c hc => ?_, fun j hj => ?_⟩
  · rw [hi _ (by omega), hs _ (by omega)]; exact a1
  · rw [hi _ (by omega), hs _ (by omega)]; exact a2
  · rw [hi _ (by omega), hs _ (by omega)]; exact a3
  · rw [hi _ (by omega), hs _ (by omega)]; exact a4
  · rw [hi _ (by omega), hs _ (by omega)]; exact r2 k hk k5 k6
  · rw [hs 7 (by omega)] at hl
    obtain ⟨q1, q2, q3, q4, q5, q6⟩ := r3 k hk hl
    exact ⟨hq k 0 hk (by omega) q1, hq k 1 hk (by omega) q2, hq k 2 hk (by omega) q3, hq k 3 hk (by omega) q4, hq k 4 hk (by omega) q5, hq k 5 hk (by omega) q6⟩
  · rw [hi _ (by omega), hs _ (by omega)]; exact r4 c hc
  · obtain ⟨q1, q2, q3⟩ := r5 j hj
    rw [hs (9 + j) (by omega), hs (12 + j) (by omega), hs (15 + j) (by omega), hi _ (by omega), hi _ (by omega)]
    refine ⟨q1, q2, fun s hs => ?_⟩
    rw [hi _ (by omega), hi _ (by omega)]
    exact q3 s hs
theorem RelR_cnt {M S : zM} (hR : RelR M 0 S) {k : Nat} (hk : k < 5) : RelR (zup M 375 (4 + k) (M 375 (4 + k) + 1)) 0 (sacc S k) := by
  obtain ⟨⟨a1, a2, a3, a4⟩, r2, r3, r4, r5⟩ := hR
  have hi : ∀ i, i ≠ 4 + k → zup M 375 (4 + k) (M 375 (4 + k) + 1) 375 i = M 375 i := fun i hi => zup_off _ _ (Or.inr hi)
  have hs : ∀ b, b ≠ 7 → sacc S k b = S b := fun b hb => zup_ne _ _ _ hb
  have h77 : sacc S k 7 7 = S 7 7 := zup_off _ _ (Or.inr (by omega))
  unfold RelR
  simp only [Nat.zero_add] at *
  refine ⟨⟨?_, ?_, ?_, ?_⟩, fun j hj k5 k6 => ?_, fun j hj hl => ?_, fun c hc => ?_, fun j hj => ?_⟩
  · rw [hi _ (by omega), h77]; exact a1
  · rw [hi _ (by omega), hs _ (by omega)]; exact a2
  · rw [hi _ (by omega), hs _ (by omega)]; exact a3
  · rw [hi _ (by omega), hs _ (by omega)]; exact a4
  · by_cases z : j = k
    · subst z
      unfold sacc
      rw [zup_at, zup_at, r2 j hj k5 k6]
    · unfold sacc
      rw [hi _ (by omega), zup_off _ _ (Or.inr z)]; exact r2 j hj k5 k6
  · rw [h77] at hl
    rw [hi _ (by omega), hi _ (by omega), hi _ (by omega), hi _ (by omega), hi _ (by omega), hi _ (by omega), hs _ (by omega), hs _ (by omega), hs _ (by omega), hs _ (by omega), hs _ (by omega), hs _ (by omega)]
    exact r3 j hj hl
  · rw [hi _ (by omega), hs _ (by omega)]; exact r4 c hc
  · obtain ⟨q1, q2, q3⟩ := r5 j hj
    rw [hs (9 + j) (by omega), hs (12 + j) (by omega), hs (15 + j) (by omega), hi _ (by omega), hi _ (by omega)]
    refine ⟨q1, q2, fun s hs => ?_⟩
    rw [hi _ (by omega), hi _ (by omega)]
    exact q3 s hs
theorem mem_lt {S : zM} (hW : WfS S) {m : Nat} (hm : m < 10) (h : 0 ≤ S 1 m) : (m : Int) < S 7 7 := by
  rcases Int.lt_or_le (m : Int) (S 7 7) with z | z
  · exact z
  · have := (hW.2.2.1 m hm z).1; omega
/-- only the reference's present row has changed, and not what it counts of lost members -/
def Gr (M N : zM) : Prop := (∀ b, b ≠ 375 → N b = M b) ∧ ∀ j, 258 ≤ j ∨ j = 9 → N 375 j = M 375 j
theorem Gr_refl (M : zM) : Gr M M := ⟨fun _ _ => rfl, fun _ _ => rfl⟩
theorem Gr_trans {M N P : zM} (h : Gr M N) (k : Gr N P) : Gr M P := ⟨fun b hb => (k.1 b hb).trans (h.1 b hb), fun j hj => (k.2 j hj).trans (h.2 j hj)⟩
theorem Gr_up {M : zM} {i : Nat} {v : Int} (h : i < 258 ∧ i ≠ 9) : Gr M (zup M 375 i v) := ⟨fun _ hb => zup_ne _ _ _ hb, fun _ _ => zup_off _ _ (by omega)⟩
def sgo (T : zM) (m : Nat) (c : Int) : zM := zup (zup (zup T 1 m c) 2 m 0) 3 m (T 3 m + 1)
def swt (T : zM) (m : Nat) : zM := zup (zup T 4 m (T 4 m + 1)) 7 2 (T 7 2 + 1)
theorem sgo_put (T : zM) (m : Nat) (c r : Int) (k : Nat) : zup (sacc (sgo T m c) k) 6 m r = sacc (sput T m c r) k := by
  funext b j
  by_cases b6 : b = 6
  · subst b6; simp [sacc, sgo, sput, zup]
  by_cases b7 : b = 7
  · subst b7; simp [sacc, sgo, sput, zup]
  by_cases b3 : b = 3
  · subst b3; simp [sacc, sgo, sput, zup]
  by_cases b2 : b = 2
  · subst b2; simp [sacc, sgo, sput, zup]
  simp [sacc, sgo, sput, zup, b6, b7, b3, b2]
theorem s_goes (d : Nat) (Q : zQ) (M T : zM) (m : Nat) (c : Int) (hm : m < 10) (h7 : (m : Int) < T 7 7) (hR : RelR M 0 T) (hQ : ∀ N, RelR N 0 (sgo T m c) → Gr M N → Q none N) : Sp (d + 2) 135 [.inr (.inr 374), .inl (m : Int), .inl c] M Q := by
  have h3 := (hR.2.2.1 m hm h7).2.2.1
  simp only [Nat.zero_add] at h3
  have e1 : ∀ x y, zup (zup M 375 (12 + 6 * m + 0) x) 375 (12 + 6 * m + 1) y 375 (12 + 6 * m + 2) = T 3 m := fun x y => by rw [zup_off _ _ (by omega), zup_off _ _ (by omega), h3]
  have h9 := hQ _ (RelR_lay (RelR_lay (RelR_lay hR (p := 0) (v := c) hm (by omega)) (p := 1) (v := 0) hm (by omega)) (p := 2) (v := T 3 m + 1) hm (by omega)) (Gr_trans (Gr_trans (Gr_up (by omega)) (Gr_up (by omega))) (Gr_up (by omega)))
  simp only [↓e135, ↓e135_0, ↓e135_1, ↓e135_2, ↓e135_3, ↓e135_4, ↓e135_7, ↓e135_8, ↓e135_9, ↓e135_10, ↓e135_11, ↓e135_14, ↓e135_15, ↓e135_16, ↓e135_17, ↓e135_18, ↓e135_19, ↓e135_20, ↓e135_23, ↓e135_24, ↓e135_25, ↓e135_28, znl_i, znl_r, znl_n, zcs_0, zcs_1, zcs_2, zcs_3, zcat_0, zcat_1, zcat_2, zcat_3, zbl_0, zbl_1, true_and, and_true, ↓zret_some, ↓zret_none, Nat.reduceAdd, Nat.reduceLeDiff, Nat.reduceMul, eq_self, Int.reduceToNat, Int.reduceLE, Int.reduceLT, Int.reduceNeg, and_self, zkc_0, zin_1, zin_2, zin_3, zin_4, zin_5, zin_6, zin_7, zin_8, zin_9, zaa_9, zkc_10, zin_11, zin_12, zkc_13, zin_14, zin_15, zkc_16, zin_17, zin_18, zkc_19, zin_20, zin_21, zin_22, zin_23, zin_24, zin_25, zin_26, zin_27, zin_28, zaa_28, zkc_29, zin_30, zin_31, zkc_32, zin_33, zin_34, zkc_35, zin_36, zin_37, zkc_38, zin_39, zin_40, zin_41, zin_42, zin_43, zin_44, zin_45, zin_46, zin_47, zaa_47, zkc_48, zin_49, zin_50, zkc_51, zin_52, zin_53, zkc_54, zin_55, zin_56, zkc_209, zkc_210, zin_211, zaa_211, zkc_212, zin_213, zkc_214, zkc_215, zin_216, zin_217, zkc_218, zin_219, zin_220, zin_221, zkc_222, zin_223, zaa_223, zin_224, zin_225, zkc_226, zin_227, zin_228, zin_229, zin_230, zin_231, zin_232, zkc_233, zin_234, zaa_234, zin_235, zin_236, zin_237, zin_238, zin_239, zin_240, zin_241, zin_242, zin_243, zin_244, zin_245, zin_246, zin_247, zin_248, zin_249, zin_250, zkc_251, zin_252, zin_253, zkc_374, zin_375, zin_376, zin_377, zin_378, zin_379, zin_380, zin_381, zin_382, zin_383, zin_384, zin_385, zin_386, zin_387, ↓s_lay0 d _ _ m _ hm, ↓s_lay1 d _ _ m _ hm, ↓s_lay2 d _ _ m _ hm, ↓s_of2 d _ _ m hm, e1]
  exact h9
theorem s_waits (d : Nat) (Q : zQ) (M T : zM) (m : Nat) (hm : m < 10) (h7 : (m : Int) < T 7 7) (hR : RelR M 0 T) (hQ : ∀ N, RelR N 0 (swt T m) → Gr M N → Q none N) : Sp (d + 2) 136 [.inr (.inr 374), .inl (m : Int)] M Q := by
  have h3 := (hR.2.2.1 m hm h7).2.2.2.1
  simp only [Nat.zero_add] at h3
  have h9 := hQ _ (RelR_cnt (RelR_lay hR (p := 3) (v := T 4 m + 1) hm (by omega)) (k := 2) (by omega)) (Gr_trans (Gr_up (by omega)) (Gr_up (by omega)))
  simp only [↓e136, ↓e136_0, ↓e136_1, ↓e136_2, ↓e136_3, ↓e136_4, ↓e136_5, ↓e136_6, ↓e136_9, ↓e136_10, ↓e136_11, ↓e136_14, ↓e136_15, ↓e136_16, ↓e136_17, ↓e136_20, znl_i, znl_r, znl_n, zcs_0, zcs_1, zcs_2, zcs_3, zcat_0, zcat_1, zcat_2, zcat_3, zbl_0, zbl_1, true_and, and_true, ↓zret_some, ↓zret_none, Nat.reduceAdd, Nat.reduceLeDiff, Nat.reduceMul, eq_self, Int.reduceToNat, Int.reduceLE, Int.reduceLT, Int.reduceNeg, and_self, zkc_0, zin_1, zin_2, zin_3, zin_4, zin_5, zin_6, zin_7, zin_8, zin_9, zaa_9, zkc_10, zin_11, zin_12, zkc_13, zin_14, zin_15, zkc_16, zin_17, zin_18, zkc_19, zin_20, zin_21, zin_22, zin_23, zin_24, zin_25, zin_26, zin_27, zin_28, zaa_28, zkc_29, zin_30, zin_31, zkc_32, zin_33, zin_34, zkc_35, zin_36, zin_37, zkc_38, zin_39, zin_40, zin_41, zin_42, zin_43, zin_44, zin_45, zin_46, zin_47, zaa_47, zkc_48, zin_49, zin_50, zkc_51, zin_52, zin_53, zkc_54, zin_55, zin_56, zkc_209, zkc_210, zin_211, zaa_211, zkc_212, zin_213, zkc_214, zkc_215, zin_216, zin_217, zkc_218, zin_219, zin_220, zin_221, zkc_222, zin_223, zaa_223, zin_224, zin_225, zkc_226, zin_227, zin_228, zin_229, zin_230, zin_231, zin_232, zkc_233, zin_234, zaa_234, zin_235, zin_236, zin_237, zin_238, zin_239, zin_240, zin_241, zin_242, zin_243, zin_244, zin_245, zin_246, zin_247, zin_248, zin_249, zin_250, zkc_251, zin_252, zin_253, zkc_374, zin_375, zin_376, zin_377, zin_378, zin_379, zin_380, zin_381, zin_382, zin_383, zin_384, zin_385, zin_386, zin_387, ↓s_lay3 d _ _ m _ hm, ↓s_cnt2, ↓s_of3 d _ _ m hm, h3]
  exact h9
