/-! ### the reference: what one member does -/
theorem dst_zr {w : Nat → Int} {p c : Nat} (hp : p < 120) : (-2147483648 ≤ dst w p c ∧ dst w p c < 2147483648) ∧ (-2147483648 ≤ dst w p c - 1 ∧ dst w p c - 1 < 2147483648) := by
  have h1 := dst_rng w p c
  have h2 := dst_lt (w := w) (a := p) (c := c) hp
  omega
theorem nbR_zr {c k : Int} (hc : 0 ≤ c ∧ c < 120) : -2147483648 ≤ nbR c k ∧ nbR c k < 2147483648 := by
  unfold nbR
  split
  · rename_i h; have := nb_rng hc h; omega
  · omega
theorem onS_zr (S : zM) (x : Int) : -2147483648 ≤ onS S x ∧ onS S x < 2147483648 := by have := onS_rng S x; omega
theorem s_steps (d : Nat) (Q : zQ) (M T : zM) (m s p c : Nat) (hm : m < 10) (hs : s < 12) (hp : p < 120) (hc : c < 120) (hmc : T 1 m = c) (hR : RelR M 0 T) (hW : WfS T)
    (hF : ∀ x : Nat, x < 120 → M 376 (120 * s + x) = dst (T 0) p x)
    (hQ1 : 0 ≤ frst (kFree T p c) c → ∀ N, RelR N 0 (sacc (sput T m (frst (kFree T p c) c) 0) 1) → Gr M N → Q (some (.inl 1)) N)
    (hQ0 : frst (kFree T p c) c < 0 → Q (some (.inl 0)) M) : Sp (d + 4) 139 [.inr (.inr 374), .inl (m : Int), .inl (120 * (s : Int)), .inl (dst (T 0) p c)] M Q := by
  have h7 := mem_lt hW hm (by omega)
  have hcell := (hR.2.2.1 m hm h7).1
  simp only [Nat.zero_add] at hcell
  rw [hmc] at hcell
  have hcell0 : M 375 (12 + 6 * m + 0) = c := hcell
  have hc0 : 0 ≤ (c : Int) ∧ (c : Int) < 120 := ⟨by omega, by omega⟩
  obtain ⟨-, zc⟩ := dst_zr (w := T 0) (c := c) hp
  have loop : ∀ n k : Nat, k + n = 4 → ∀ w5, fdr (kFree T p c) c n k = frst (kFree T p c) c → RT (Sp (d + 3)) 139 Q 3 [some (.inr (.inr 374)), some (.inl (m : Int)), some (.inl (120 * (s : Int))), some (.inl (dst (T 0) p c)), some (.inl (k : Int)), w5] [] M := by
    intro n
    induction n with
    | zero =>
      intro k hk w5 hE
      obtain rfl : k = 4 := by omega
      have h9 := hQ0 (by rw [← hE]; show (-1 : Int) < 0; omega)
      rw [e139_3]
      simp only [↓e139, ↓e139_0, ↓e139_1, ↓e139_5, ↓e139_6, ↓e139_9, ↓e139_10, ↓e139_11, ↓e139_12, ↓e139_15, ↓e139_17, ↓e139_20, ↓e139_22, ↓e139_24, ↓e139_27, ↓e139_28, ↓e139_31, ↓e139_32, ↓e139_34, ↓e139_35, ↓e139_36, ↓e139_37, ↓e139_38, ↓e139_39, ↓e139_42, ↓e139_43, ↓e139_45, ↓e139_48, ↓e139_51, ↓e139_54, ↓e139_55, ↓e139_56, ↓e139_58, ↓e139_61, ↓e139_62, ↓e139_63, ↓e139_64, ↓e139_67, ↓e139_68, ↓e139_69, ↓e139_70, ↓e139_71, ↓e139_74, ↓e139_75, ↓e139_76, ↓e139_79, ↓e139_82, ↓e139_83, znl_i, znl_r, znl_n, zcs_0, zcs_1, zcs_2, zcs_3, zcat_0, zcat_1, zcat_2, zcat_3, zbl_0, zbl_1, true_and, and_true, ↓zret_some, ↓zret_none, Nat.reduceAdd, Nat.reduceLeDiff, Nat.reduceMul, eq_self, Int.reduceToNat, Int.reduceLE, Int.reduceLT, Int.reduceNeg, and_self, zrg, Int.cast_ofNat_Int, ge_iff_le, Int.le_refl, ↓reduceIte]
      exact h9
    | succ n ih =>
      intro k hk w5 hE
      have hk0 : 0 ≤ (k : Int) ∧ (k : Int) < 4 := ⟨by omega, by omega⟩
      have hk1 : ¬ (k : Int) ≥ 4 := by omega
      have hk2 : -2147483648 ≤ (k : Int) ∧ (k : Int) < 2147483648 := ⟨by omega, by omega⟩
      have hnr := nbR_zr (k := k) hc0
      rw [fdr_succ] at hE
      have next : ∀ w5, ¬ (0 ≤ nb c k ∧ kFree T p c (nb c k).toNat = true) → RT (Sp (d + 3)) 139 Q 76 [some (.inr (.inr 374)), some (.inl (m : Int)), some (.inl (120 * (s : Int))), some (.inl (dst (T 0) p c)), some (.inl (k : Int)), w5] [] M := fun w5 h => by
        have h9 := ih (k + 1) (by omega) w5 (by rw [if_neg h] at hE; exact hE)
        simp only [↓e139, ↓e139_0, ↓e139_1, ↓e139_5, ↓e139_6, ↓e139_9, ↓e139_10, ↓e139_11, ↓e139_12, ↓e139_15, ↓e139_17, ↓e139_20, ↓e139_22, ↓e139_24, ↓e139_27, ↓e139_28, ↓e139_31, ↓e139_32, ↓e139_34, ↓e139_35, ↓e139_36, ↓e139_37, ↓e139_38, ↓e139_39, ↓e139_42, ↓e139_43, ↓e139_45, ↓e139_48, ↓e139_51, ↓e139_54, ↓e139_55, ↓e139_56, ↓e139_58, ↓e139_61, ↓e139_62, ↓e139_63, ↓e139_64, ↓e139_67, ↓e139_68, ↓e139_69, ↓e139_70, ↓e139_71, ↓e139_74, ↓e139_75, ↓e139_76, ↓e139_79, ↓e139_82, ↓e139_83, znl_i, znl_r, znl_n, zcs_0, zcs_1, zcs_2, zcs_3, zcat_0, zcat_1, zcat_2, zcat_3, zbl_0, zbl_1, true_and, and_true, ↓zret_some, ↓zret_none, Nat.reduceAdd, Nat.reduceLeDiff, Nat.reduceMul, eq_self, Int.reduceToNat, Int.reduceLE, Int.reduceLT, Int.reduceNeg, and_self]
        rw [show ((k : Int) + 1) = ((k + 1 : Nat) : Int) by omega]
        exact h9
      rw [e139_3]
      simp only [↓e139, ↓e139_0, ↓e139_1, ↓e139_5, ↓e139_6, ↓e139_9, ↓e139_10, ↓e139_11, ↓e139_12, ↓e139_15, ↓e139_17, ↓e139_20, ↓e139_22, ↓e139_24, ↓e139_27, ↓e139_28, ↓e139_31, ↓e139_32, ↓e139_34, ↓e139_35, ↓e139_36, ↓e139_37, ↓e139_38, ↓e139_39, ↓e139_42, ↓e139_43, ↓e139_45, ↓e139_48, ↓e139_51, ↓e139_55, ↓e139_56, ↓e139_58, ↓e139_61, ↓e139_62, ↓e139_63, ↓e139_64, ↓e139_67, ↓e139_68, ↓e139_69, ↓e139_70, ↓e139_71, ↓e139_74, ↓e139_75, ↓e139_79, ↓e139_82, ↓e139_83, znl_i, znl_r, znl_n, zcs_0, zcs_1, zcs_2, zcs_3, zcat_0, zcat_1, zcat_2, zcat_3, zbl_0, zbl_1, true_and, and_true, ↓zret_some, ↓zret_none, Nat.reduceAdd, Nat.reduceLeDiff, Nat.reduceMul, eq_self, Int.reduceToNat, Int.reduceLE, Int.reduceLT, Int.reduceNeg, and_self, zrg, zkc_0, zin_1, zin_2, zin_3, zin_4, zin_5, zin_6, zin_7, zin_8, zin_9, zaa_9, zkc_10, zin_11, zin_12, zkc_13, zin_14, zin_15, zkc_16, zin_17, zin_18, zkc_19, zin_20, zin_21, zin_22, zin_23, zin_24, zin_25, zin_26, zin_27, zin_28, zaa_28, zkc_29, zin_30, zin_31, zkc_32, zin_33, zin_34, zkc_35, zin_36, zin_37, zkc_38, zin_39, zin_40, zin_41, zin_42, zin_43, zin_44, zin_45, zin_46, zin_47, zaa_47, zkc_48, zin_49, zin_50, zkc_51, zin_52, zin_53, zkc_54, zin_55, zin_56, zkc_209, zkc_210, zin_211, zaa_211, zkc_212, zin_213, zkc_214, zkc_215, zin_216, zin_217, zkc_218, zin_219, zin_220, zin_221, zkc_222, zin_223, zaa_223, zin_224, zin_225, zkc_226, zin_227, zin_228, zin_229, zin_230, zin_231, zin_232, zkc_233, zin_234, zaa_234, zin_235, zin_236, zin_237, zin_238, zin_239, zin_240, zin_241, zin_242, zin_243, zin_244, zin_245, zin_246, zin_247, zin_248, zin_249, zin_250, zkc_251, zin_252, zin_253, zkc_374, zin_375, zin_376, zin_377, zin_378, zin_379, zin_380, zin_381, zin_382, zin_383, zin_384, zin_385, zin_386, zin_387, hk1, hk2, ↓reduceIte, ↓s_of0 (d + 2) _ M m hm, hcell0, ↓s_nbR (d + 1) _ M c k hc0.1 hc0.2 hk0.1 hk0.2, hnr]
      by_cases a : nb c k < 0
      · have e1 : nbR c k = -1 := by unfold nbR; rw [if_neg (by omega)]
        rw [e1, if_pos (by omega)]
        exact next _ (fun z => by omega)
      · obtain ⟨x, hx⟩ : ∃ x : Nat, nb c k = x := ⟨(nb c k).toNat, by omega⟩
        have hx1 : x < 120 := by have := nb_rng hc0 (k := k) (by omega); omega
        have hx0 : 0 ≤ (x : Int) ∧ (x : Int) < 120 := ⟨by omega, by omega⟩
        have e1 : nbR c k = x := by unfold nbR; rw [if_pos (by omega), hx]
        have e2 : (120 * (s : Int) + (x : Int)).toNat = 120 * s + x := by omega
        have e3 : 0 ≤ 120 * (s : Int) + (x : Int) ∧ 120 * (s : Int) + (x : Int) < 1440 := ⟨by omega, by omega⟩
        obtain ⟨zx, -⟩ := dst_zr (w := T 0) (c := x) hp
        have ho := onS_zr T x
        rw [hx, Int.toNat_natCast] at hE
        rw [hx, Int.toNat_natCast] at next
        rw [e1, if_neg (by omega)]
        simp only [e2, e3, hF x hx1, zx, zc, true_and, and_self, ne_eq, ite_not]
        by_cases g : dst (T 0) p x = dst (T 0) p c - 1
        · rw [if_pos g]
          have gk : kFree T p c x = decide (onS T x = -1) := by
            have : kGood T p c x = true := decide_eq_true g
            unfold kFree; rw [this]; rfl
          simp only [↓e139, ↓e139_0, ↓e139_1, ↓e139_5, ↓e139_6, ↓e139_9, ↓e139_10, ↓e139_11, ↓e139_12, ↓e139_15, ↓e139_17, ↓e139_20, ↓e139_22, ↓e139_24, ↓e139_27, ↓e139_28, ↓e139_31, ↓e139_32, ↓e139_34, ↓e139_35, ↓e139_36, ↓e139_37, ↓e139_38, ↓e139_39, ↓e139_42, ↓e139_43, ↓e139_45, ↓e139_48, ↓e139_51, ↓e139_55, ↓e139_56, ↓e139_58, ↓e139_61, ↓e139_62, ↓e139_63, ↓e139_64, ↓e139_67, ↓e139_68, ↓e139_69, ↓e139_70, ↓e139_71, ↓e139_74, ↓e139_75, ↓e139_79, ↓e139_82, ↓e139_83, znl_i, znl_r, znl_n, zcs_0, zcs_1, zcs_2, zcs_3, zcat_0, zcat_1, zcat_2, zcat_3, zbl_0, zbl_1, true_and, and_true, ↓zret_some, ↓zret_none, Nat.reduceAdd, Nat.reduceLeDiff, Nat.reduceMul, eq_self, Int.reduceToNat, Int.reduceLE, Int.reduceLT, Int.reduceNeg, and_self, zrg, zkc_0, zin_1, zin_2, zin_3, zin_4, zin_5, zin_6, zin_7, zin_8, zin_9, zaa_9, zkc_10, zin_11, zin_12, zkc_13, zin_14, zin_15, zkc_16, zin_17, zin_18, zkc_19, zin_20, zin_21, zin_22, zin_23, zin_24, zin_25, zin_26, zin_27, zin_28, zaa_28, zkc_29, zin_30, zin_31, zkc_32, zin_33, zin_34, zkc_35, zin_36, zin_37, zkc_38, zin_39, zin_40, zin_41, zin_42, zin_43, zin_44, zin_45, zin_46, zin_47, zaa_47, zkc_48, zin_49, zin_50, zkc_51, zin_52, zin_53, zkc_54, zin_55, zin_56, zkc_209, zkc_210, zin_211, zaa_211, zkc_212, zin_213, zkc_214, zkc_215, zin_216, zin_217, zkc_218, zin_219, zin_220, zin_221, zkc_222, zin_223, zaa_223, zin_224, zin_225, zkc_226, zin_227, zin_228, zin_229, zin_230, zin_231, zin_232, zkc_233, zin_234, zaa_234, zin_235, zin_236, zin_237, zin_238, zin_239, zin_240, zin_241, zin_242, zin_243, zin_244, zin_245, zin_246, zin_247, zin_248, zin_249, zin_250, zkc_251, zin_252, zin_253, zkc_374, zin_375, zin_376, zin_377, zin_378, zin_379, zin_380, zin_381, zin_382, zin_383, zin_384, zin_385, zin_386, zin_387, ↓s_on d _ M T x hR hW hx0, ho]
          by_cases v : onS T x < 0
          · rw [if_pos v]
            have v2 : onS T x = -1 := by have := onS_rng T x; omega
            rw [if_pos ⟨by omega, by rw [gk]; exact decide_eq_true v2⟩] at hE
            simp only [↓e139, ↓e139_0, ↓e139_1, ↓e139_5, ↓e139_6, ↓e139_9, ↓e139_10, ↓e139_11, ↓e139_12, ↓e139_15, ↓e139_17, ↓e139_20, ↓e139_22, ↓e139_24, ↓e139_27, ↓e139_28, ↓e139_31, ↓e139_32, ↓e139_34, ↓e139_35, ↓e139_36, ↓e139_37, ↓e139_38, ↓e139_39, ↓e139_42, ↓e139_43, ↓e139_45, ↓e139_48, ↓e139_51, ↓e139_54, ↓e139_55, ↓e139_56, ↓e139_58, ↓e139_61, ↓e139_62, ↓e139_63, ↓e139_64, ↓e139_67, ↓e139_68, ↓e139_69, ↓e139_70, ↓e139_71, ↓e139_74, ↓e139_75, ↓e139_79, ↓e139_82, ↓e139_83, znl_i, znl_r, znl_n, zcs_0, zcs_1, zcs_2, zcs_3, zcat_0, zcat_1, zcat_2, zcat_3, zbl_0, zbl_1, true_and, and_true, ↓zret_some, ↓zret_none, Nat.reduceAdd, Nat.reduceLeDiff, Nat.reduceMul, eq_self, Int.reduceToNat, Int.reduceLE, Int.reduceLT, Int.reduceNeg, and_self, zkc_0, zin_1, zin_2, zin_3, zin_4, zin_5, zin_6, zin_7, zin_8, zin_9, zaa_9, zkc_10, zin_11, zin_12, zkc_13, zin_14, zin_15, zkc_16, zin_17, zin_18, zkc_19, zin_20, zin_21, zin_22, zin_23, zin_24, zin_25, zin_26, zin_27, zin_28, zaa_28, zkc_29, zin_30, zin_31, zkc_32, zin_33, zin_34, zkc_35, zin_36, zin_37, zkc_38, zin_39, zin_40, zin_41, zin_42, zin_43, zin_44, zin_45, zin_46, zin_47, zaa_47, zkc_48, zin_49, zin_50, zkc_51, zin_52, zin_53, zkc_54, zin_55, zin_56, zkc_209, zkc_210, zin_211, zaa_211, zkc_212, zin_213, zkc_214, zkc_215, zin_216, zin_217, zkc_218, zin_219, zin_220, zin_221, zkc_222, zin_223, zaa_223, zin_224, zin_225, zkc_226, zin_227, zin_228, zin_229, zin_230, zin_231, zin_232, zkc_233, zin_234, zaa_234, zin_235, zin_236, zin_237, zin_238, zin_239, zin_240, zin_241, zin_242, zin_243, zin_244, zin_245, zin_246, zin_247, zin_248, zin_249, zin_250, zkc_251, zin_252, zin_253, zkc_374, zin_375, zin_376, zin_377, zin_378, zin_379, zin_380, zin_381, zin_382, zin_383, zin_384, zin_385, zin_386, zin_387]
            refine s_goes (d + 1) _ M T m x hm h7 hR (fun N u1 u2 => ?_)
            rw [zret_none]
            have h9 := hQ1 (by omega) _ (by
              rw [← hE, ← sgo_put]
              exact RelR_lay (RelR_cnt u1 (k := 1) (by omega)) (p := 5) (v := 0) hm (by omega)) (Gr_trans (Gr_trans u2 (Gr_up (by omega))) (Gr_up (by omega)))
            simp only [↓e139, ↓e139_0, ↓e139_1, ↓e139_5, ↓e139_6, ↓e139_9, ↓e139_10, ↓e139_11, ↓e139_12, ↓e139_15, ↓e139_17, ↓e139_20, ↓e139_22, ↓e139_24, ↓e139_27, ↓e139_28, ↓e139_31, ↓e139_32, ↓e139_34, ↓e139_35, ↓e139_36, ↓e139_37, ↓e139_38, ↓e139_39, ↓e139_42, ↓e139_43, ↓e139_45, ↓e139_48, ↓e139_51, ↓e139_54, ↓e139_55, ↓e139_56, ↓e139_58, ↓e139_61, ↓e139_62, ↓e139_63, ↓e139_64, ↓e139_67, ↓e139_68, ↓e139_69, ↓e139_70, ↓e139_71, ↓e139_74, ↓e139_75, ↓e139_76, ↓e139_79, ↓e139_82, ↓e139_83, znl_i, znl_r, znl_n, zcs_0, zcs_1, zcs_2, zcs_3, zcat_0, zcat_1, zcat_2, zcat_3, zbl_0, zbl_1, true_and, and_true, ↓zret_some, ↓zret_none, Nat.reduceAdd, Nat.reduceLeDiff, Nat.reduceMul, eq_self, Int.reduceToNat, Int.reduceLE, Int.reduceLT, Int.reduceNeg, and_self, zkc_0, zin_1, zin_2, zin_3, zin_4, zin_5, zin_6, zin_7, zin_8, zin_9, zaa_9, zkc_10, zin_11, zin_12, zkc_13, zin_14, zin_15, zkc_16, zin_17, zin_18, zkc_19, zin_20, zin_21, zin_22, zin_23, zin_24, zin_25, zin_26, zin_27, zin_28, zaa_28, zkc_29, zin_30, zin_31, zkc_32, zin_33, zin_34, zkc_35, zin_36, zin_37, zkc_38, zin_39, zin_40, zin_41, zin_42, zin_43, zin_44, zin_45, zin_46, zin_47, zaa_47, zkc_48, zin_49, zin_50, zkc_51, zin_52, zin_53, zkc_54, zin_55, zin_56, zkc_209, zkc_210, zin_211, zaa_211, zkc_212, zin_213, zkc_214, zkc_215, zin_216, zin_217, zkc_218, zin_219, zin_220, zin_221, zkc_222, zin_223, zaa_223, zin_224, zin_225, zkc_226, zin_227, zin_228, zin_229, zin_230, zin_231, zin_232, zkc_233, zin_234, zaa_234, zin_235, zin_236, zin_237, zin_238, zin_239, zin_240, zin_241, zin_242, zin_243, zin_244, zin_245, zin_246, zin_247, zin_248, zin_249, zin_250, zkc_251, zin_252, zin_253, zkc_374, zin_375, zin_376, zin_377, zin_378, zin_379, zin_380, zin_381, zin_382, zin_383, zin_384, zin_385, zin_386, zin_387, ↓s_cnt1, ↓s_lay5 (d + 2) _ _ m _ hm]
            exact h9
          · rw [if_neg v]
            exact next _ (fun z => by rw [gk] at z; have := of_decide_eq_true z.2; omega)
        · rw [if_neg g]
          exact next _ (fun z => g (of_decide_eq_true (free_ok z.2).1))
  have h9 := loop 4 0 rfl none rfl
  simp only [↓e139, ↓e139_0, ↓e139_1, ↓e139_5, ↓e139_6, ↓e139_9, ↓e139_10, ↓e139_11, ↓e139_12, ↓e139_15, ↓e139_17, ↓e139_20, ↓e139_22, ↓e139_24, ↓e139_27, ↓e139_28, ↓e139_31, ↓e139_32, ↓e139_34, ↓e139_35, ↓e139_36, ↓e139_37, ↓e139_38, ↓e139_39, ↓e139_42, ↓e139_43, ↓e139_45, ↓e139_48, ↓e139_51, ↓e139_54, ↓e139_55, ↓e139_56, ↓e139_58, ↓e139_61, ↓e139_62, ↓e139_63, ↓e139_64, ↓e139_67, ↓e139_68, ↓e139_69, ↓e139_70, ↓e139_71, ↓e139_74, ↓e139_75, ↓e139_76, ↓e139_79, ↓e139_82, ↓e139_83, znl_i, znl_r, znl_n, zcs_0, zcs_1, zcs_2, zcs_3, zcat_0, zcat_1, zcat_2, zcat_3, zbl_0, zbl_1, true_and, and_true, ↓zret_some, ↓zret_none, Nat.reduceAdd, Nat.reduceLeDiff, Nat.reduceMul, eq_self, Int.reduceToNat, Int.reduceLE, Int.reduceLT, Int.reduceNeg, and_self]
  exact h9
theorem s_stepsAside (d : Nat) (Q : zQ) (M T : zM) (m c : Nat) (hm : m < 10) (hc : c < 120) (hmc : T 1 m = c) (hR : RelR M 0 T) (hW : WfS T)
    (hQ1 : 0 ≤ frst (kSide T) c → ∀ N, RelR N 0 (sacc (sput T m (frst (kSide T) c) 5) 4) → Gr M N → Q (some (.inl 1)) N)
    (hQ0 : frst (kSide T) c < 0 → Q (some (.inl 0)) M) : Sp (d + 4) 141 [.inr (.inr 374), .inl (m : Int)] M Q := by
  have h7 := mem_lt hW hm (by omega)
  have hcell := (hR.2.2.1 m hm h7).1
  simp only [Nat.zero_add] at hcell
  rw [hmc] at hcell
  have hcell0 : M 375 (12 + 6 * m + 0) = c := hcell
  have hc0 : 0 ≤ (c : Int) ∧ (c : Int) < 120 := ⟨by omega, by omega⟩
  have loop : ∀ n k : Nat, k + n = 4 → ∀ w3, fdr (kSide T) c n k = frst (kSide T) c → RT (Sp (d + 3)) 141 Q 2 [some (.inr (.inr 374)), some (.inl (m : Int)), some (.inl (k : Int)), w3] [] M := by
    intro n
    induction n with
    | zero =>
      intro k hk w3 hE
      obtain rfl : k = 4 := by omega
      have h9 := hQ0 (by rw [← hE]; show (-1 : Int) < 0; omega)
      rw [e141_2]
      simp only [↓e141, ↓e141_0, ↓e141_1, ↓e141_3, ↓e141_4, ↓e141_7, ↓e141_8, ↓e141_9, ↓e141_10, ↓e141_13, ↓e141_14, ↓e141_17, ↓e141_18, ↓e141_19, ↓e141_22, ↓e141_23, ↓e141_24, ↓e141_27, ↓e141_30, ↓e141_31, ↓e141_32, ↓e141_35, ↓e141_38, ↓e141_41, ↓e141_42, ↓e141_43, ↓e141_44, ↓e141_47, ↓e141_48, ↓e141_49, ↓e141_50, ↓e141_53, ↓e141_54, ↓e141_55, ↓e141_56, ↓e141_57, ↓e141_60, ↓e141_61, ↓e141_62, ↓e141_65, ↓e141_68, ↓e141_69, znl_i, znl_r, znl_n, zcs_0, zcs_1, zcs_2, zcs_3, zcat_0, zcat_1, zcat_2, zcat_3, zbl_0, zbl_1, true_and, and_true, ↓zret_some, ↓zret_none, Nat.reduceAdd, Nat.reduceLeDiff, Nat.reduceMul, eq_self, Int.reduceToNat, Int.reduceLE, Int.reduceLT, Int.reduceNeg, and_self, zrg, Int.cast_ofNat_Int, ge_iff_le, Int.le_refl, ↓reduceIte]
      exact h9
    | succ n ih =>
      intro k hk w3 hE
      have hk0 : 0 ≤ (k : Int) ∧ (k : Int) < 4 := ⟨by omega, by omega⟩
      have hk1 : ¬ (k : Int) ≥ 4 := by omega
      have hk2 : -2147483648 ≤ (k : Int) ∧ (k : Int) < 2147483648 := ⟨by omega, by omega⟩
      have hnr := nbR_zr (k := k) hc0
      rw [fdr_succ] at hE
      have next : ∀ w3, ¬ (0 ≤ nb c k ∧ kSide T (nb c k).toNat = true) → RT (Sp (d + 3)) 141 Q 62 [some (.inr (.inr 374)), some (.inl (m : Int)), some (.inl (k : Int)), w3] [] M := fun w3 h => by
        have h9 := ih (k + 1) (by omega) w3 (by rw [if_neg h] at hE; exact hE)
        simp only [↓e141, ↓e141_0, ↓e141_1, ↓e141_3, ↓e141_4, ↓e141_7, ↓e141_8, ↓e141_9, ↓e141_10, ↓e141_13, ↓e141_14, ↓e141_17, ↓e141_18, ↓e141_19, ↓e141_22, ↓e141_23, ↓e141_24, ↓e141_27, ↓e141_30, ↓e141_31, ↓e141_32, ↓e141_35, ↓e141_38, ↓e141_41, ↓e141_42, ↓e141_43, ↓e141_44, ↓e141_47, ↓e141_48, ↓e141_49, ↓e141_50, ↓e141_53, ↓e141_54, ↓e141_55, ↓e141_56, ↓e141_57, ↓e141_60, ↓e141_61, ↓e141_62, ↓e141_65, ↓e141_68, ↓e141_69, znl_i, znl_r, znl_n, zcs_0, zcs_1, zcs_2, zcs_3, zcat_0, zcat_1, zcat_2, zcat_3, zbl_0, zbl_1, true_and, and_true, ↓zret_some, ↓zret_none, Nat.reduceAdd, Nat.reduceLeDiff, Nat.reduceMul, eq_self, Int.reduceToNat, Int.reduceLE, Int.reduceLT, Int.reduceNeg, and_self]
        rw [show ((k : Int) + 1) = ((k + 1 : Nat) : Int) by omega]
        exact h9
      rw [e141_2]
      simp only [↓e141, ↓e141_0, ↓e141_1, ↓e141_3, ↓e141_4, ↓e141_7, ↓e141_8, ↓e141_9, ↓e141_10, ↓e141_13, ↓e141_14, ↓e141_17, ↓e141_18, ↓e141_19, ↓e141_23, ↓e141_24, ↓e141_27, ↓e141_30, ↓e141_31, ↓e141_32, ↓e141_35, ↓e141_38, ↓e141_41, ↓e141_42, ↓e141_43, ↓e141_44, ↓e141_47, ↓e141_48, ↓e141_49, ↓e141_50, ↓e141_53, ↓e141_54, ↓e141_55, ↓e141_56, ↓e141_57, ↓e141_60, ↓e141_61, ↓e141_65, ↓e141_68, ↓e141_69, znl_i, znl_r, znl_n, zcs_0, zcs_1, zcs_2, zcs_3, zcat_0, zcat_1, zcat_2, zcat_3, zbl_0, zbl_1, true_and, and_true, ↓zret_some, ↓zret_none, Nat.reduceAdd, Nat.reduceLeDiff, Nat.reduceMul, eq_self, Int.reduceToNat, Int.reduceLE, Int.reduceLT, Int.reduceNeg, and_self, zrg, zkc_0, zin_1, zin_2, zin_3, zin_4, zin_5, zin_6, zin_7, zin_8, zin_9, zaa_9, zkc_10, zin_11, zin_12, zkc_13, zin_14, zin_15, zkc_16, zin_17, zin_18, zkc_19, zin_20, zin_21, zin_22, zin_23, zin_24, zin_25, zin_26, zin_27, zin_28, zaa_28, zkc_29, zin_30, zin_31, zkc_32, zin_33, zin_34, zkc_35, zin_36, zin_37, zkc_38, zin_39, zin_40, zin_41, zin_42, zin_43, zin_44, zin_45, zin_46, zin_47, zaa_47, zkc_48, zin_49, zin_50, zkc_51, zin_52, zin_53, zkc_54, zin_55, zin_56, zkc_209, zkc_210, zin_211, zaa_211, zkc_212, zin_213, zkc_214, zkc_215, zin_216, zin_217, zkc_218, zin_219, zin_220, zin_221, zkc_222, zin_223, zaa_223, zin_224, zin_225, zkc_226, zin_227, zin_228, zin_229, zin_230, zin_231, zin_232, zkc_233, zin_234, zaa_234, zin_235, zin_236, zin_237, zin_238, zin_239, zin_240, zin_241, zin_242, zin_243, zin_244, zin_245, zin_246, zin_247, zin_248, zin_249, zin_250, zkc_251, zin_252, zin_253, zkc_374, zin_375, zin_376, zin_377, zin_378, zin_379, zin_380, zin_381, zin_382, zin_383, zin_384, zin_385, zin_386, zin_387, hk1, hk2, ↓reduceIte, ↓s_of0 (d + 2) _ M m hm, hcell0, ↓s_nbR (d + 1) _ M c k hc0.1 hc0.2 hk0.1 hk0.2, hnr]
      by_cases a : nb c k < 0
      · have e1 : nbR c k = -1 := by unfold nbR; rw [if_neg (by omega)]
        rw [e1, if_pos (by omega)]
        exact next _ (fun z => by omega)
      · obtain ⟨x, hx⟩ : ∃ x : Nat, nb c k = x := ⟨(nb c k).toNat, by omega⟩
        have hx1 : x < 120 := by have := nb_rng hc0 (k := k) (by omega); omega
        have hx0 : 0 ≤ (x : Int) ∧ (x : Int) < 120 := ⟨by omega, by omega⟩
        have e1 : nbR c k = x := by unfold nbR; rw [if_pos (by omega), hx]
        have ho := onS_zr T x
        have h01 := hW.1 x hx1
        have hbr : -2147483648 ≤ T 0 x ∧ T 0 x < 2147483648 := by omega
        rw [hx, Int.toNat_natCast] at hE
        rw [hx, Int.toNat_natCast] at next
        rw [e1, if_neg (by omega)]
        simp only [↓e141, ↓e141_0, ↓e141_1, ↓e141_3, ↓e141_4, ↓e141_7, ↓e141_8, ↓e141_9, ↓e141_10, ↓e141_13, ↓e141_14, ↓e141_17, ↓e141_18, ↓e141_19, ↓e141_22, ↓e141_23, ↓e141_24, ↓e141_27, ↓e141_31, ↓e141_32, ↓e141_35, ↓e141_38, ↓e141_41, ↓e141_42, ↓e141_43, ↓e141_44, ↓e141_47, ↓e141_48, ↓e141_49, ↓e141_50, ↓e141_53, ↓e141_54, ↓e141_55, ↓e141_56, ↓e141_57, ↓e141_60, ↓e141_61, ↓e141_65, ↓e141_68, ↓e141_69, znl_i, znl_r, znl_n, zcs_0, zcs_1, zcs_2, zcs_3, zcat_0, zcat_1, zcat_2, zcat_3, zbl_0, zbl_1, true_and, and_true, ↓zret_some, ↓zret_none, Nat.reduceAdd, Nat.reduceLeDiff, Nat.reduceMul, eq_self, Int.reduceToNat, Int.reduceLE, Int.reduceLT, Int.reduceNeg, and_self, zrg, zkc_0, zin_1, zin_2, zin_3, zin_4, zin_5, zin_6, zin_7, zin_8, zin_9, zaa_9, zkc_10, zin_11, zin_12, zkc_13, zin_14, zin_15, zkc_16, zin_17, zin_18, zkc_19, zin_20, zin_21, zin_22, zin_23, zin_24, zin_25, zin_26, zin_27, zin_28, zaa_28, zkc_29, zin_30, zin_31, zkc_32, zin_33, zin_34, zkc_35, zin_36, zin_37, zkc_38, zin_39, zin_40, zin_41, zin_42, zin_43, zin_44, zin_45, zin_46, zin_47, zaa_47, zkc_48, zin_49, zin_50, zkc_51, zin_52, zin_53, zkc_54, zin_55, zin_56, zkc_209, zkc_210, zin_211, zaa_211, zkc_212, zin_213, zkc_214, zkc_215, zin_216, zin_217, zkc_218, zin_219, zin_220, zin_221, zkc_222, zin_223, zaa_223, zin_224, zin_225, zkc_226, zin_227, zin_228, zin_229, zin_230, zin_231, zin_232, zkc_233, zin_234, zaa_234, zin_235, zin_236, zin_237, zin_238, zin_239, zin_240, zin_241, zin_242, zin_243, zin_244, zin_245, zin_246, zin_247, zin_248, zin_249, zin_250, zkc_251, zin_252, zin_253, zkc_374, zin_375, zin_376, zin_377, zin_378, zin_379, zin_380, zin_381, zin_382, zin_383, zin_384, zin_385, zin_386, zin_387, ↓s_isBlocked (d + 2) _ M T x hx1 hR hW, hbr, ne_eq, ite_not]
        by_cases g : T 0 x = 0
        · rw [if_pos g]
          have gk : kSide T x = decide (onS T x = -1) := by
            unfold kSide
            have : T 0 x ≠ 1 := by omega
            simp [this]
          simp only [↓e141, ↓e141_0, ↓e141_1, ↓e141_3, ↓e141_4, ↓e141_7, ↓e141_8, ↓e141_9, ↓e141_10, ↓e141_13, ↓e141_14, ↓e141_17, ↓e141_18, ↓e141_19, ↓e141_22, ↓e141_23, ↓e141_24, ↓e141_27, ↓e141_30, ↓e141_31, ↓e141_32, ↓e141_35, ↓e141_38, ↓e141_42, ↓e141_43, ↓e141_44, ↓e141_47, ↓e141_48, ↓e141_49, ↓e141_50, ↓e141_53, ↓e141_54, ↓e141_55, ↓e141_56, ↓e141_57, ↓e141_60, ↓e141_61, ↓e141_65, ↓e141_68, ↓e141_69, znl_i, znl_r, znl_n, zcs_0, zcs_1, zcs_2, zcs_3, zcat_0, zcat_1, zcat_2, zcat_3, zbl_0, zbl_1, true_and, and_true, ↓zret_some, ↓zret_none, Nat.reduceAdd, Nat.reduceLeDiff, Nat.reduceMul, eq_self, Int.reduceToNat, Int.reduceLE, Int.reduceLT, Int.reduceNeg, and_self, zrg, zkc_0, zin_1, zin_2, zin_3, zin_4, zin_5, zin_6, zin_7, zin_8, zin_9, zaa_9, zkc_10, zin_11, zin_12, zkc_13, zin_14, zin_15, zkc_16, zin_17, zin_18, zkc_19, zin_20, zin_21, zin_22, zin_23, zin_24, zin_25, zin_26, zin_27, zin_28, zaa_28, zkc_29, zin_30, zin_31, zkc_32, zin_33, zin_34, zkc_35, zin_36, zin_37, zkc_38, zin_39, zin_40, zin_41, zin_42, zin_43, zin_44, zin_45, zin_46, zin_47, zaa_47, zkc_48, zin_49, zin_50, zkc_51, zin_52, zin_53, zkc_54, zin_55, zin_56, zkc_209, zkc_210, zin_211, zaa_211, zkc_212, zin_213, zkc_214, zkc_215, zin_216, zin_217, zkc_218, zin_219, zin_220, zin_221, zkc_222, zin_223, zaa_223, zin_224, zin_225, zkc_226, zin_227, zin_228, zin_229, zin_230, zin_231, zin_232, zkc_233, zin_234, zaa_234, zin_235, zin_236, zin_237, zin_238, zin_239, zin_240, zin_241, zin_242, zin_243, zin_244, zin_245, zin_246, zin_247, zin_248, zin_249, zin_250, zkc_251, zin_252, zin_253, zkc_374, zin_375, zin_376, zin_377, zin_378, zin_379, zin_380, zin_381, zin_382, zin_383, zin_384, zin_385, zin_386, zin_387, ↓s_on d _ M T x hR hW hx0, ho]
          by_cases v : onS T x < 0
          · rw [if_pos v]
            have v2 : onS T x = -1 := by have := onS_rng T x; omega
            rw [if_pos ⟨by omega, by rw [gk]; exact decide_eq_true v2⟩] at hE
            simp only [↓e141, ↓e141_0, ↓e141_1, ↓e141_3, ↓e141_4, ↓e141_7, ↓e141_8, ↓e141_9, ↓e141_10, ↓e141_13, ↓e141_14, ↓e141_17, ↓e141_18, ↓e141_19, ↓e141_22, ↓e141_23, ↓e141_24, ↓e141_27, ↓e141_30, ↓e141_31, ↓e141_32, ↓e141_35, ↓e141_38, ↓e141_41, ↓e141_42, ↓e141_43, ↓e141_44, ↓e141_47, ↓e141_48, ↓e141_49, ↓e141_50, ↓e141_53, ↓e141_54, ↓e141_55, ↓e141_56, ↓e141_57, ↓e141_60, ↓e141_61, ↓e141_65, ↓e141_68, ↓e141_69, znl_i, znl_r, znl_n, zcs_0, zcs_1, zcs_2, zcs_3, zcat_0, zcat_1, zcat_2, zcat_3, zbl_0, zbl_1, true_and, and_true, ↓zret_some, ↓zret_none, Nat.reduceAdd, Nat.reduceLeDiff, Nat.reduceMul, eq_self, Int.reduceToNat, Int.reduceLE, Int.reduceLT, Int.reduceNeg, and_self, zkc_0, zin_1, zin_2, zin_3, zin_4, zin_5, zin_6, zin_7, zin_8, zin_9, zaa_9, zkc_10, zin_11, zin_12, zkc_13, zin_14, zin_15, zkc_16, zin_17, zin_18, zkc_19, zin_20, zin_21, zin_22, zin_23, zin_24, zin_25, zin_26, zin_27, zin_28, zaa_28, zkc_29, zin_30, zin_31, zkc_32, zin_33, zin_34, zkc_35, zin_36, zin_37, zkc_38, zin_39, zin_40, zin_41, zin_42, zin_43, zin_44, zin_45, zin_46, zin_47, zaa_47, zkc_48, zin_49, zin_50, zkc_51, zin_52, zin_53, zkc_54, zin_55, zin_56, zkc_209, zkc_210, zin_211, zaa_211, zkc_212, zin_213, zkc_214, zkc_215, zin_216, zin_217, zkc_218, zin_219, zin_220, zin_221, zkc_222, zin_223, zaa_223, zin_224, zin_225, zkc_226, zin_227, zin_228, zin_229, zin_230, zin_231, zin_232, zkc_233, zin_234, zaa_234, zin_235, zin_236, zin_237, zin_238, zin_239, zin_240, zin_241, zin_242, zin_243, zin_244, zin_245, zin_246, zin_247, zin_248, zin_249, zin_250, zkc_251, zin_252, zin_253, zkc_374, zin_375, zin_376, zin_377, zin_378, zin_379, zin_380, zin_381, zin_382, zin_383, zin_384, zin_385, zin_386, zin_387]
            refine s_goes (d + 1) _ M T m x hm h7 hR (fun N u1 u2 => ?_)
            rw [zret_none]
            have h9 := hQ1 (by omega) _ (by
              rw [← hE, ← sgo_put]
              exact RelR_lay (RelR_cnt u1 (k := 4) (by omega)) (p := 5) (v := 5) hm (by omega)) (Gr_trans (Gr_trans u2 (Gr_up (by omega))) (Gr_up (by omega)))
            simp only [↓e141, ↓e141_0, ↓e141_1, ↓e141_3, ↓e141_4, ↓e141_7, ↓e141_8, ↓e141_9, ↓e141_10, ↓e141_13, ↓e141_14, ↓e141_17, ↓e141_18, ↓e141_19, ↓e141_22, ↓e141_23, ↓e141_24, ↓e141_27, ↓e141_30, ↓e141_31, ↓e141_32, ↓e141_35, ↓e141_38, ↓e141_41, ↓e141_42, ↓e141_43, ↓e141_44, ↓e141_47, ↓e141_48, ↓e141_49, ↓e141_50, ↓e141_53, ↓e141_54, ↓e141_55, ↓e141_56, ↓e141_57, ↓e141_60, ↓e141_61, ↓e141_62, ↓e141_65, ↓e141_68, ↓e141_69, znl_i, znl_r, znl_n, zcs_0, zcs_1, zcs_2, zcs_3, zcat_0, zcat_1, zcat_2, zcat_3, zbl_0, zbl_1, true_and, and_true, ↓zret_some, ↓zret_none, Nat.reduceAdd, Nat.reduceLeDiff, Nat.reduceMul, eq_self, Int.reduceToNat, Int.reduceLE, Int.reduceLT, Int.reduceNeg, and_self, zkc_0, zin_1, zin_2, zin_3, zin_4, zin_5, zin_6, zin_7, zin_8, zin_9, zaa_9, zkc_10, zin_11, zin_12, zkc_13, zin_14, zin_15, zkc_16, zin_17, zin_18, zkc_19, zin_20, zin_21, zin_22, zin_23, zin_24, zin_25, zin_26, zin_27, zin_28, zaa_28, zkc_29, zin_30, zin_31, zkc_32, zin_33, zin_34, zkc_35, zin_36, zin_37, zkc_38, zin_39, zin_40, zin_41, zin_42, zin_43, zin_44, zin_45, zin_46, zin_47, zaa_47, zkc_48, zin_49, zin_50, zkc_51, zin_52, zin_53, zkc_54, zin_55, zin_56, zkc_209, zkc_210, zin_211, zaa_211, zkc_212, zin_213, zkc_214, zkc_215, zin_216, zin_217, zkc_218, zin_219, zin_220, zin_221, zkc_222, zin_223, zaa_223, zin_224, zin_225, zkc_226, zin_227, zin_228, zin_229, zin_230, zin_231, zin_232, zkc_233, zin_234, zaa_234, zin_235, zin_236, zin_237, zin_238, zin_239, zin_240, zin_241, zin_242, zin_243, zin_244, zin_245, zin_246, zin_247, zin_248, zin_249, zin_250, zkc_251, zin_252, zin_253, zkc_374, zin_375, zin_376, zin_377, zin_378, zin_379, zin_380, zin_381, zin_382, zin_383, zin_384, zin_385, zin_386, zin_387, ↓s_cnt4, ↓s_lay5 (d + 2) _ _ m _ hm]
            exact h9
          · rw [if_neg v]
            exact next _ (fun z => by rw [gk] at z; have := of_decide_eq_true z.2; omega)
        · rw [if_neg g]
          exact next _ (fun z => by have := (of_decide_eq_true z.2).1; omega)
  have h9 := loop 4 0 rfl none rfl
  simp only [↓e141, ↓e141_0, ↓e141_1, ↓e141_3, ↓e141_4, ↓e141_7, ↓e141_8, ↓e141_9, ↓e141_10, ↓e141_13, ↓e141_14, ↓e141_17, ↓e141_18, ↓e141_19, ↓e141_22, ↓e141_23, ↓e141_24, ↓e141_27, ↓e141_30, ↓e141_31, ↓e141_32, ↓e141_35, ↓e141_38, ↓e141_41, ↓e141_42, ↓e141_43, ↓e141_44, ↓e141_47, ↓e141_48, ↓e141_49, ↓e141_50, ↓e141_53, ↓e141_54, ↓e141_55, ↓e141_56, ↓e141_57, ↓e141_60, ↓e141_61, ↓e141_62, ↓e141_65, ↓e141_68, ↓e141_69, znl_i, znl_r, znl_n, zcs_0, zcs_1, zcs_2, zcs_3, zcat_0, zcat_1, zcat_2, zcat_3, zbl_0, zbl_1, true_and, and_true, ↓zret_some, ↓zret_none, Nat.reduceAdd, Nat.reduceLeDiff, Nat.reduceMul, eq_self, Int.reduceToNat, Int.reduceLE, Int.reduceLT, Int.reduceNeg, and_self]
  exact h9
