/-! ### Turns: what one member does -/
abbrev m5 (x : Int) : Int := if x < 0 then -5 else x
theorem nat_neg (x : Nat) : ((x : Int) < 0) = False := eq_false (by omega)
theorem dd_good {S : zM} {p c x : Nat} (hcp : c ≠ p) : (dd (S 0) p x = dd (S 0) p c - 1) ↔ kGood S p c x = true := by
  have h2 := dst_rng (S 0) p x
  have h3 := dst_rng (S 0) p c
  have h4 : dst (S 0) p c ≠ 0 := fun z => hcp (dst_zero z)
  unfold kGood dd
  rw [decide_eq_true_eq]
  split <;> split <;> omega
theorem dd_le {w : Nat → Int} {q x c : Nat} : dd w q x ≤ dd w q c ↔ dst w q x ≤ dst w q c := by
  have h2 := dst_rng w q x
  have h3 := dst_rng w q c
  unfold dd
  split <;> split <;> omega
theorem dd_rng {w : Nat → Int} {q c : Nat} (hq : q < 120) : -5 ≤ dd w q c ∧ dd w q c < 120 := by
  have h2 := dst_rng w q c
  have h3 := dst_lt (w := w) (a := q) (c := c) hq
  unfold dd
  split <;> omega
theorem nb_zrg {c k : Int} (hc : 0 ≤ c ∧ c < 120) : -2147483648 ≤ nb c k ∧ nb c k < 2147483648 := by
  by_cases h : 0 ≤ nb c k
  · have := nb_rng hc h; omega
  · have := nb_neg hc h; omega
theorem fdr_succ (ok : Nat → Bool) (c : Int) (n k : Nat) : fdr ok c (n + 1) k = if 0 ≤ nb c k ∧ ok (nb c k).toNat = true then nb c k else fdr ok c n (k + 1) := rfl
theorem s_firstNearer (d : Nat) (Q : zQ) (M S : zM) (p c : Nat) (hp : p < 120) (hc : c < 120) (hcp : c ≠ p) (hD : ∀ x : Nat, x < 120 → M (254 + p) x = dd (S 0) p x) :
    Sp (d + 2) 42 [.inr (.inr 251), .inr (.inr (254 + p)), .inl (c : Int)] M Q = Q (some (.inl (m5 (frst (kGood S p c) c)))) M := by
  have hz : ∀ i : Int, zin 0 (254 + p) i = (0 ≤ i ∧ i < 120) := fun i => zin_of (n := 120) (zkD hp)
  have hc0 : 0 ≤ (c : Int) ∧ (c : Int) < 120 := ⟨by omega, by omega⟩
  have loop : ∀ n k : Nat, k + n = 4 → ∀ w4, RT (Sp (d + 1)) 42 Q 2 [some (.inr (.inr 251)), some (.inr (.inr (254 + p))), some (.inl (c : Int)), some (.inl (k : Int)), w4] [] M = Q (some (.inl (m5 (fdr (kGood S p c) c n k)))) M := by
    intro n
    induction n with
    | zero =>
      intro k hk w4
      obtain rfl : k = 4 := by omega
      simp only [↓e42, ↓e42_0, ↓e42_1, ↓e42_2, ↓e42_3, ↓e42_4, ↓e42_7, ↓e42_8, ↓e42_9, ↓e42_12, ↓e42_14, ↓e42_16, ↓e42_19, ↓e42_20, ↓e42_22, ↓e42_23, ↓e42_24, ↓e42_25, ↓e42_26, ↓e42_27, ↓e42_28, ↓e42_31, ↓e42_33, ↓e42_34, ↓e42_37, ↓e42_40, ↓e42_42, znl_i, znl_r, znl_n, zcs_0, zcs_1, zcs_2, zcs_3, zcat_0, zcat_1, zcat_2, zcat_3, zbl_0, zbl_1, true_and, and_true, ↓zret_some, ↓zret_none, Nat.reduceAdd, Nat.reduceLeDiff, Nat.reduceMul, eq_self, Int.reduceToNat, Int.reduceLE, Int.reduceLT, Int.reduceNeg, and_self, zrg, fdr]
      simp [m5, nat_neg]
    | succ n ih =>
      intro k hk w4
      have hk0 : 0 ≤ (k : Int) ∧ (k : Int) < 4 := ⟨by omega, by omega⟩
      have hk1 : ¬ (k : Int) ≥ 4 := by omega
      have hk2 : -2147483648 ≤ (k : Int) ∧ (k : Int) < 2147483648 := ⟨by omega, by omega⟩
      have hnr := nb_zrg (k := k) hc0
      have h1 := ih (k + 1) (by omega)
      rw [fdr_succ, e42_2]
      simp only [↓e42, ↓e42_0, ↓e42_1, ↓e42_3, ↓e42_4, ↓e42_7, ↓e42_8, ↓e42_9, ↓e42_12, ↓e42_14, ↓e42_16, ↓e42_19, ↓e42_20, ↓e42_22, ↓e42_23, ↓e42_24, ↓e42_25, ↓e42_26, ↓e42_27, ↓e42_28, ↓e42_31, ↓e42_33, ↓e42_34, ↓e42_37, ↓e42_40, ↓e42_42, znl_i, znl_r, znl_n, zcs_0, zcs_1, zcs_2, zcs_3, zcat_0, zcat_1, zcat_2, zcat_3, zbl_0, zbl_1, true_and, and_true, ↓zret_some, ↓zret_none, Nat.reduceAdd, Nat.reduceLeDiff, Nat.reduceMul, eq_self, Int.reduceToNat, Int.reduceLE, Int.reduceLT, Int.reduceNeg, and_self, zrg, hk1, hk2, ↓reduceIte, ↓s_nb d _ M c k hc0.1 hc0.2 hk0.1 hk0.2, hnr, hz, hc0]
      rw [show ((k : Int) + 1) = ((k + 1 : Nat) : Int) by omega, h1]
      by_cases a : nb c k < 0
      · rw [if_pos a, if_neg (fun z => by omega)]
      · obtain ⟨x, hx⟩ : ∃ x : Nat, nb c k = x := ⟨(nb c k).toNat, by omega⟩
        have hx1 : x < 120 := by have := nb_rng hc0 (k := k) (by omega); omega
        have hx0 : 0 ≤ (x : Int) ∧ (x : Int) < 120 := ⟨by omega, by omega⟩
        have r1 := dd_rng (w := S 0) (q := p) (c := x) hp
        have r2 := dd_rng (w := S 0) (q := p) (c := c) hp
        have r3 : -2147483648 ≤ dd (S 0) p x ∧ dd (S 0) p x < 2147483648 := ⟨by omega, by omega⟩
        have r4 : -2147483648 ≤ dd (S 0) p c - 1 ∧ dd (S 0) p c - 1 < 2147483648 := ⟨by omega, by omega⟩
        rw [if_neg a, hx]
        simp only [hx0, and_self, true_and, Int.toNat_natCast, hD x hx1, hD c hc, r3, r4]
        by_cases g : kGood S p c x = true
        · have g2 := (dd_good (S := S) hcp).mpr g
          rw [if_neg (fun z => z g2), if_pos g]
          simp [m5, nat_neg]
        · have g2 : ¬ dd (S 0) p x = dd (S 0) p c - 1 := fun z => g ((dd_good hcp).mp z)
          rw [if_pos g2, if_neg g]
  have h9 := loop 4 0 rfl none
  simp only [↓e42, ↓e42_0, ↓e42_1, ↓e42_3, ↓e42_4, ↓e42_7, ↓e42_8, ↓e42_9, ↓e42_12, ↓e42_14, ↓e42_16, ↓e42_19, ↓e42_20, ↓e42_22, ↓e42_23, ↓e42_24, ↓e42_25, ↓e42_26, ↓e42_27, ↓e42_28, ↓e42_31, ↓e42_33, ↓e42_34, ↓e42_37, ↓e42_40, ↓e42_42, znl_i, znl_r, znl_n, zcs_0, zcs_1, zcs_2, zcs_3, zcat_0, zcat_1, zcat_2, zcat_3, zbl_0, zbl_1, true_and, and_true, ↓zret_some, ↓zret_none, Nat.reduceAdd, Nat.reduceLeDiff, Nat.reduceMul, eq_self, Int.reduceToNat, Int.reduceLE, Int.reduceLT, Int.reduceNeg, and_self]
  exact iff_of_eq h9 |> propext
theorem s_firstFreeNearer (d : Nat) (Q : zQ) (M S : zM) (p c : Nat) (hp : p < 120) (hc : c < 120) (hcp : c ≠ p) (hR : RelC M 0 S) (hD : ∀ x : Nat, x < 120 → M (254 + p) x = dd (S 0) p x) :
    Sp (d + 2) 47 [.inr (.inr 251), .inr (.inr (254 + p)), .inl (c : Int)] M Q = Q (some (.inl (m5 (frst (kFree S p c) c)))) M := by
  have hz : ∀ i : Int, zin 0 (254 + p) i = (0 ≤ i ∧ i < 120) := fun i => zin_of (n := 120) (zkD hp)
  have hc0 : 0 ≤ (c : Int) ∧ (c : Int) < 120 := ⟨by omega, by omega⟩
  have loop : ∀ n k : Nat, k + n = 4 → ∀ w4, RT (Sp (d + 1)) 47 Q 2 [some (.inr (.inr 251)), some (.inr (.inr (254 + p))), some (.inl (c : Int)), some (.inl (k : Int)), w4] [] M = Q (some (.inl (m5 (fdr (kFree S p c) c n k)))) M := by
    intro n
    induction n with
    | zero =>
      intro k hk w4
      obtain rfl : k = 4 := by omega
      simp only [↓e47, ↓e47_0, ↓e47_1, ↓e47_2, ↓e47_3, ↓e47_4, ↓e47_7, ↓e47_8, ↓e47_9, ↓e47_12, ↓e47_14, ↓e47_16, ↓e47_19, ↓e47_20, ↓e47_22, ↓e47_23, ↓e47_24, ↓e47_25, ↓e47_26, ↓e47_27, ↓e47_28, ↓e47_31, ↓e47_32, ↓e47_35, ↓e47_38, ↓e47_40, ↓e47_41, ↓e47_42, ↓e47_45, ↓e47_47, ↓e47_48, ↓e47_51, ↓e47_54, ↓e47_56, znl_i, znl_r, znl_n, zcs_0, zcs_1, zcs_2, zcs_3, zcat_0, zcat_1, zcat_2, zcat_3, zbl_0, zbl_1, true_and, and_true, ↓zret_some, ↓zret_none, Nat.reduceAdd, Nat.reduceLeDiff, Nat.reduceMul, eq_self, Int.reduceToNat, Int.reduceLE, Int.reduceLT, Int.reduceNeg, and_self, zrg, fdr]
      simp [m5, nat_neg]
    | succ n ih =>
      intro k hk w4
      have hk0 : 0 ≤ (k : Int) ∧ (k : Int) < 4 := ⟨by omega, by omega⟩
      have hk1 : ¬ (k : Int) ≥ 4 := by omega
      have hk2 : -2147483648 ≤ (k : Int) ∧ (k : Int) < 2147483648 := ⟨by omega, by omega⟩
      have hnr := nb_zrg (k := k) hc0
      have h1 := ih (k + 1) (by omega)
      rw [fdr_succ, e47_2]
      simp only [↓e47, ↓e47_0, ↓e47_1, ↓e47_3, ↓e47_4, ↓e47_7, ↓e47_8, ↓e47_9, ↓e47_12, ↓e47_14, ↓e47_16, ↓e47_19, ↓e47_20, ↓e47_22, ↓e47_23, ↓e47_24, ↓e47_25, ↓e47_26, ↓e47_27, ↓e47_28, ↓e47_32, ↓e47_35, ↓e47_38, ↓e47_40, ↓e47_41, ↓e47_42, ↓e47_45, ↓e47_47, ↓e47_48, ↓e47_51, ↓e47_54, ↓e47_56, znl_i, znl_r, znl_n, zcs_0, zcs_1, zcs_2, zcs_3, zcat_0, zcat_1, zcat_2, zcat_3, zbl_0, zbl_1, true_and, and_true, ↓zret_some, ↓zret_none, Nat.reduceAdd, Nat.reduceLeDiff, Nat.reduceMul, eq_self, Int.reduceToNat, Int.reduceLE, Int.reduceLT, Int.reduceNeg, and_self, zrg, hk1, hk2, ↓reduceIte, ↓s_nb d _ M c k hc0.1 hc0.2 hk0.1 hk0.2, hnr, hz, hc0]
      rw [show ((k : Int) + 1) = ((k + 1 : Nat) : Int) by omega, h1]
      by_cases a : nb c k < 0
      · rw [if_pos a, if_neg (fun z => by omega)]
      · obtain ⟨x, hx⟩ : ∃ x : Nat, nb c k = x := ⟨(nb c k).toNat, by omega⟩
        have hx1 : x < 120 := by have := nb_rng hc0 (k := k) (by omega); omega
        have hx0 : 0 ≤ (x : Int) ∧ (x : Int) < 120 := ⟨by omega, by omega⟩
        have r1 := dd_rng (w := S 0) (q := p) (c := x) hp
        have r2 := dd_rng (w := S 0) (q := p) (c := c) hp
        have r3 : -2147483648 ≤ dd (S 0) p x ∧ dd (S 0) p x < 2147483648 := ⟨by omega, by omega⟩
        have r4 : -2147483648 ≤ dd (S 0) p c - 1 ∧ dd (S 0) p c - 1 < 2147483648 := ⟨by omega, by omega⟩
        rw [if_neg a, hx]
        simp only [hx0, and_self, true_and, Int.toNat_natCast, hD x hx1, hD c hc, r3, r4]
        by_cases g : kGood S p c x = true
        · have g2 := (dd_good (S := S) hcp).mpr g
          have g3 := (good_ok g hcp).2.2
          have g4 := hR.1 x hx1
          simp only [Nat.zero_add] at g4
          rw [if_neg g3] at g4
          have g5 := onS_rng S x
          have g6 : -2147483648 ≤ onS S x ∧ onS S x < 2147483648 := ⟨by omega, by omega⟩
          have gk : kFree S p c x = decide (onS S x = -1) := by unfold kFree; rw [g]; rfl
          rw [if_neg (fun z => z g2), gk]
          simp only [↓e47, ↓e47_0, ↓e47_1, ↓e47_3, ↓e47_4, ↓e47_7, ↓e47_8, ↓e47_9, ↓e47_12, ↓e47_14, ↓e47_16, ↓e47_19, ↓e47_20, ↓e47_22, ↓e47_23, ↓e47_24, ↓e47_25, ↓e47_26, ↓e47_27, ↓e47_28, ↓e47_31, ↓e47_32, ↓e47_35, ↓e47_38, ↓e47_40, ↓e47_41, ↓e47_42, ↓e47_45, ↓e47_47, ↓e47_48, ↓e47_51, ↓e47_54, ↓e47_56, znl_i, znl_r, znl_n, zcs_0, zcs_1, zcs_2, zcs_3, zcat_0, zcat_1, zcat_2, zcat_3, zbl_0, zbl_1, true_and, and_true, ↓zret_some, ↓zret_none, Nat.reduceAdd, Nat.reduceLeDiff, Nat.reduceMul, eq_self, Int.reduceToNat, Int.reduceLE, Int.reduceLT, Int.reduceNeg, and_self, zkc_0, zin_1, zin_2, zin_3, zin_4, zin_5, zin_6, zin_7, zin_8, zin_9, zaa_9, zkc_10, zin_11, zin_12, zkc_13, zin_14, zin_15, zkc_16, zin_17, zin_18, zkc_19, zin_20, zin_21, zin_22, zin_23, zin_24, zin_25, zin_26, zin_27, zin_28, zaa_28, zkc_29, zin_30, zin_31, zkc_32, zin_33, zin_34, zkc_35, zin_36, zin_37, zkc_38, zin_39, zin_40, zin_41, zin_42, zin_43, zin_44, zin_45, zin_46, zin_47, zaa_47, zkc_48, zin_49, zin_50, zkc_51, zin_52, zin_53, zkc_54, zin_55, zin_56, zkc_209, zkc_210, zin_211, zaa_211, zkc_212, zin_213, zkc_214, zkc_215, zin_216, zin_217, zkc_218, zin_219, zin_220, zin_221, zkc_222, zin_223, zaa_223, zin_224, zin_225, zkc_226, zin_227, zin_228, zin_229, zin_230, zin_231, zin_232, zkc_233, zin_234, zaa_234, zin_235, zin_236, zin_237, zin_238, zin_239, zin_240, zin_241, zin_242, zin_243, zin_244, zin_245, zin_246, zin_247, zin_248, zin_249, zin_250, zkc_251, zin_252, zin_253, zkc_374, zin_375, zin_376, zin_377, zin_378, zin_379, zin_380, zin_381, zin_382, zin_383, zin_384, zin_385, zin_386, zin_387, zrg, hx0, Int.toNat_natCast, g4, g6]
          rw [show ((k : Int) + 1) = ((k + 1 : Nat) : Int) by omega, h1]
          by_cases v : onS S x = -1
          · rw [if_neg (fun z => z v)]
            simp [v, m5, nat_neg]
          · rw [if_pos v]
            simp [v, m5, nat_neg]
        · have g2 : ¬ dd (S 0) p x = dd (S 0) p c - 1 := fun z => g ((dd_good hcp).mp z)
          rw [if_pos g2, if_neg (fun z => g (free_ok z).1)]
  have h9 := loop 4 0 rfl none
  simp only [↓e47, ↓e47_0, ↓e47_1, ↓e47_3, ↓e47_4, ↓e47_7, ↓e47_8, ↓e47_9, ↓e47_12, ↓e47_14, ↓e47_16, ↓e47_19, ↓e47_20, ↓e47_22, ↓e47_23, ↓e47_24, ↓e47_25, ↓e47_26, ↓e47_27, ↓e47_28, ↓e47_31, ↓e47_32, ↓e47_35, ↓e47_38, ↓e47_40, ↓e47_41, ↓e47_42, ↓e47_45, ↓e47_47, ↓e47_48, ↓e47_51, ↓e47_54, ↓e47_56, znl_i, znl_r, znl_n, zcs_0, zcs_1, zcs_2, zcs_3, zcat_0, zcat_1, zcat_2, zcat_3, zbl_0, zbl_1, true_and, and_true, ↓zret_some, ↓zret_none, Nat.reduceAdd, Nat.reduceLeDiff, Nat.reduceMul, eq_self, Int.reduceToNat, Int.reduceLE, Int.reduceLT, Int.reduceNeg, and_self]
  exact iff_of_eq h9 |> propext
theorem s_firstFree (d : Nat) (Q : zQ) (M S : zM) (c : Nat) (hc : c < 120) (hR : RelC M 0 S) :
    Sp (d + 2) 50 [.inr (.inr 251), .inl (c : Int)] M Q = Q (some (.inl (m5 (frst (kSide S) c)))) M := by
  have hc0 : 0 ≤ (c : Int) ∧ (c : Int) < 120 := ⟨by omega, by omega⟩
  have loop : ∀ n k : Nat, k + n = 4 → ∀ w3, RT (Sp (d + 1)) 50 Q 2 [some (.inr (.inr 251)), some (.inl (c : Int)), some (.inl (k : Int)), w3] [] M = Q (some (.inl (m5 (fdr (kSide S) c n k)))) M := by
    intro n
    induction n with
    | zero =>
      intro k hk w3
      obtain rfl : k = 4 := by omega
      simp only [↓e50, ↓e50_0, ↓e50_1, ↓e50_2, ↓e50_3, ↓e50_4, ↓e50_7, ↓e50_8, ↓e50_9, ↓e50_12, ↓e50_13, ↓e50_14, ↓e50_17, ↓e50_18, ↓e50_21, ↓e50_24, ↓e50_25, ↓e50_26, ↓e50_27, ↓e50_30, ↓e50_31, ↓e50_32, ↓e50_35, ↓e50_38, ↓e50_40, znl_i, znl_r, znl_n, zcs_0, zcs_1, zcs_2, zcs_3, zcat_0, zcat_1, zcat_2, zcat_3, zbl_0, zbl_1, true_and, and_true, ↓zret_some, ↓zret_none, Nat.reduceAdd, Nat.reduceLeDiff, Nat.reduceMul, eq_self, Int.reduceToNat, Int.reduceLE, Int.reduceLT, Int.reduceNeg, and_self, zrg, fdr]
      simp [m5, nat_neg]
    | succ n ih =>
      intro k hk w3
      have hk0 : 0 ≤ (k : Int) ∧ (k : Int) < 4 := ⟨by omega, by omega⟩
      have hk1 : ¬ (k : Int) ≥ 4 := by omega
      have hk2 : -2147483648 ≤ (k : Int) ∧ (k : Int) < 2147483648 := ⟨by omega, by omega⟩
      have hnr := nb_zrg (k := k) hc0
      have h1 := ih (k + 1) (by omega)
      rw [fdr_succ, e50_2]
      simp only [↓e50, ↓e50_0, ↓e50_1, ↓e50_3, ↓e50_4, ↓e50_7, ↓e50_8, ↓e50_9, ↓e50_12, ↓e50_13, ↓e50_14, ↓e50_18, ↓e50_21, ↓e50_24, ↓e50_25, ↓e50_26, ↓e50_27, ↓e50_30, ↓e50_31, ↓e50_32, ↓e50_35, ↓e50_38, ↓e50_40, znl_i, znl_r, znl_n, zcs_0, zcs_1, zcs_2, zcs_3, zcat_0, zcat_1, zcat_2, zcat_3, zbl_0, zbl_1, true_and, and_true, ↓zret_some, ↓zret_none, Nat.reduceAdd, Nat.reduceLeDiff, Nat.reduceMul, eq_self, Int.reduceToNat, Int.reduceLE, Int.reduceLT, Int.reduceNeg, and_self, zrg, hk1, hk2, ↓reduceIte, ↓s_nb d _ M c k hc0.1 hc0.2 hk0.1 hk0.2, hnr, hc0]
      rw [show ((k : Int) + 1) = ((k + 1 : Nat) : Int) by omega, h1]
      by_cases a : nb c k < 0
      · rw [if_pos a, if_neg (fun z => by omega)]
      · obtain ⟨x, hx⟩ : ∃ x : Nat, nb c k = x := ⟨(nb c k).toNat, by omega⟩
        have hx1 : x < 120 := by have := nb_rng hc0 (k := k) (by omega); omega
        have hx0 : 0 ≤ (x : Int) ∧ (x : Int) < 120 := ⟨by omega, by omega⟩
        have g4 := hR.1 x hx1
        simp only [Nat.zero_add] at g4
        have g5 := onS_rng S x
        have g6 : -2147483648 ≤ M 1 x ∧ M 1 x < 2147483648 := by rw [g4]; split <;> omega
        rw [if_neg a, hx]
        simp only [↓e50, ↓e50_0, ↓e50_1, ↓e50_3, ↓e50_4, ↓e50_7, ↓e50_8, ↓e50_9, ↓e50_12, ↓e50_13, ↓e50_14, ↓e50_17, ↓e50_18, ↓e50_21, ↓e50_24, ↓e50_25, ↓e50_26, ↓e50_27, ↓e50_30, ↓e50_31, ↓e50_32, ↓e50_35, ↓e50_38, ↓e50_40, znl_i, znl_r, znl_n, zcs_0, zcs_1, zcs_2, zcs_3, zcat_0, zcat_1, zcat_2, zcat_3, zbl_0, zbl_1, true_and, and_true, ↓zret_some, ↓zret_none, Nat.reduceAdd, Nat.reduceLeDiff, Nat.reduceMul, eq_self, Int.reduceToNat, Int.reduceLE, Int.reduceLT, Int.reduceNeg, and_self, zkc_0, zin_1, zin_2, zin_3, zin_4, zin_5, zin_6, zin_7, zin_8, zin_9, zaa_9, zkc_10, zin_11, zin_12, zkc_13, zin_14, zin_15, zkc_16, zin_17, zin_18, zkc_19, zin_20, zin_21, zin_22, zin_23, zin_24, zin_25, zin_26, zin_27, zin_28, zaa_28, zkc_29, zin_30, zin_31, zkc_32, zin_33, zin_34, zkc_35, zin_36, zin_37, zkc_38, zin_39, zin_40, zin_41, zin_42, zin_43, zin_44, zin_45, zin_46, zin_47, zaa_47, zkc_48, zin_49, zin_50, zkc_51, zin_52, zin_53, zkc_54, zin_55, zin_56, zkc_209, zkc_210, zin_211, zaa_211, zkc_212, zin_213, zkc_214, zkc_215, zin_216, zin_217, zkc_218, zin_219, zin_220, zin_221, zkc_222, zin_223, zaa_223, zin_224, zin_225, zkc_226, zin_227, zin_228, zin_229, zin_230, zin_231, zin_232, zkc_233, zin_234, zaa_234, zin_235, zin_236, zin_237, zin_238, zin_239, zin_240, zin_241, zin_242, zin_243, zin_244, zin_245, zin_246, zin_247, zin_248, zin_249, zin_250, zkc_251, zin_252, zin_253, zkc_374, zin_375, zin_376, zin_377, zin_378, zin_379, zin_380, zin_381, zin_382, zin_383, zin_384, zin_385, zin_386, zin_387, zrg, hx0, Int.toNat_natCast, g6]
        rw [show ((k : Int) + 1) = ((k + 1 : Nat) : Int) by omega, h1]
        by_cases v : M 1 x = -1
        · have v2 : kSide S x = true := by
            unfold kSide
            rw [g4] at v
            by_cases w : S 0 x = 1
            · rw [if_pos w] at v; omega
            · rw [if_neg w] at v; exact decide_eq_true ⟨w, v⟩
          rw [if_neg (fun z => z v), if_pos v2]
          simp [m5, nat_neg]
        · have v2 : ¬ kSide S x = true := fun z => by
            have z1 := of_decide_eq_true z
            rw [g4, if_neg z1.1] at v
            exact v z1.2
          rw [if_pos v, if_neg v2]
  have h9 := loop 4 0 rfl none
  simp only [↓e50, ↓e50_0, ↓e50_1, ↓e50_3, ↓e50_4, ↓e50_7, ↓e50_8, ↓e50_9, ↓e50_12, ↓e50_13, ↓e50_14, ↓e50_17, ↓e50_18, ↓e50_21, ↓e50_24, ↓e50_25, ↓e50_26, ↓e50_27, ↓e50_30, ↓e50_31, ↓e50_32, ↓e50_35, ↓e50_38, ↓e50_40, znl_i, znl_r, znl_n, zcs_0, zcs_1, zcs_2, zcs_3, zcat_0, zcat_1, zcat_2, zcat_3, zbl_0, zbl_1, true_and, and_true, ↓zret_some, ↓zret_none, Nat.reduceAdd, Nat.reduceLeDiff, Nat.reduceMul, eq_self, Int.reduceToNat, Int.reduceLE, Int.reduceLT, Int.reduceNeg, and_self]
  exact iff_of_eq h9 |> propext
