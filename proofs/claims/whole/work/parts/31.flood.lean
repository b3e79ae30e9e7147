/-! ### the reference's search: floods -/
theorem s_nbR (d : Nat) (Q : zQ) (M : zM) (c k : Int) (hc : 0 ≤ c) (hc2 : c < 120) (hk : 0 ≤ k) (hk2 : k < 4) : Sp (d + 2) 123 [.inl c, .inl k] M Q = Q (some (.inl (nbR c k))) M := s_beside d Q M c k ⟨hc, hc2⟩ ⟨hk, hk2⟩
/-- the search of row r (from cell s) under way: D is that row of 'far' -/
def FR (w : Nat → Int) (M N : zM) (r s len t k : Nat) : Prop :=
  (∀ b, b ≠ 376 → b ≠ 377 → N b = M b) ∧ (∀ j, j < 120 * r ∨ 120 * r + 120 ≤ j → N 376 j = M 376 j) ∧ Bf w (fun c => N 376 (120 * r + c)) (N 377) s len t k ∧ (∀ c : Nat, c < 120 → N 376 (120 * r + c) < 0 → N 376 (120 * r + c) = -1)
theorem FR_end {w : Nat → Int} {M N : zM} {r s len : Nat} (h : FR w M N r s len len 0) : (∀ c : Nat, c < 120 → N 376 (120 * r + c) = dst w s c) := by
  obtain ⟨h1, h2, h3, h4⟩ := h
  intro c hc
  have h5 := bf_done h3 c hc
  have h6 := h4 c hc
  rcases Int.lt_or_le (N 376 (120 * r + c)) 0 with z | z
  · rw [h5.2 z]; exact h6 z
  · exact h5.1 z
theorem s_floods (d : Nat) (Q : zQ) (M S : zM) (r s : Nat) (hr : r < 12) (hs : s < 120) (hR : RelR M 0 S) (hW : WfS S)
    (hQ : ∀ M', (∀ c : Nat, c < 120 → M' 376 (120 * r + c) = dst (S 0) s c) → (∀ b, b ≠ 376 → b ≠ 377 → M' b = M b) → (∀ j, j < 120 * r ∨ 120 * r + 120 ≤ j → M' 376 j = M 376 j) → Q none M') : Sp (d + 3) 124 [.inr (.inr 374), .inl (r : Int), .inl (s : Int)] M Q := by
  have tn : ∀ c : Nat, (120 * (r : Int) + c).toNat = 120 * r + c := fun c => by omega
  have tb : ∀ c : Nat, c < 120 → 0 ≤ 120 * (r : Int) + c ∧ 120 * (r : Int) + c < 1440 := fun c hc => ⟨by omega, by omega⟩
  have relOf : ∀ N : zM, (∀ b, b ≠ 376 → b ≠ 377 → N b = M b) → RelR N 0 S := by
    intro N h
    have h375 : N 375 = M 375 := h 375 (by omega) (by omega)
    unfold RelR
    rw [h375]
    exact hR
  have cl120 : ∀ {w D q : Nat → Int} {a len t k : Nat}, Bf w D q a len t k → len ≤ 120 := by
    intro w D q a len t k hB
    have := pig 120 len (fun i => (q i).toNat) (fun i hi => by
      obtain ⟨c0, u1, u2, -⟩ := hB.2.1 i hi
      show (q i).toNat < 120
      omega) (fun i j hi hj z => by
      have z : (q i).toNat = (q j).toNat := z
      obtain ⟨c0, u1, u2, -⟩ := hB.2.1 i hi
      obtain ⟨c1, v1, v2, -⟩ := hB.2.1 j hj
      exact hB.2.2.1 i j hi hj (by omega))
    exact this
  have inner : ∀ n k : Nat, k + n = 4 → ∀ (N : zM) (len t : Nat) (w8 : Option zV), FR (S 0) M N r s len t k → t < len →
      (∀ (N' : zM) (len' : Nat) (x6 x7 x8 : Option zV), FR (S 0) M N' r s len' (t + 1) 0 → RT (Sp (d + 2)) 124 Q 62 [some (.inr (.inr 374)), some (.inl (r : Int)), some (.inl (s : Int)), some (.inl (120 * (r : Int))), some (.inl (len' : Int)), some (.inl ((t + 1 : Nat) : Int)), x6, x7, x8] [] N') →
      RT (Sp (d + 2)) 124 Q 81 [some (.inr (.inr 374)), some (.inl (r : Int)), some (.inl (s : Int)), some (.inl (120 * (r : Int))), some (.inl (len : Int)), some (.inl (t : Int)), some (.inl (N 377 t)), some (.inl (k : Int)), w8] [] N := by
    intro n
    induction n with
    | zero =>
      intro k hk N len t w8 hF ht hO
      obtain rfl : k = 4 := by omega
      rw [e124_81]
      simp only [↓e124, ↓e124_0, ↓e124_2, ↓e124_3, ↓e124_4, ↓e124_5, ↓e124_6, ↓e124_8, ↓e124_10, ↓e124_12, ↓e124_15, ↓e124_16, ↓e124_19, ↓e124_20, ↓e124_22, ↓e124_23, ↓e124_24, ↓e124_25, ↓e124_28, ↓e124_31, ↓e124_32, ↓e124_33, ↓e124_36, ↓e124_39, ↓e124_40, ↓e124_41, ↓e124_44, ↓e124_45, ↓e124_46, ↓e124_47, ↓e124_48, ↓e124_49, ↓e124_50, ↓e124_53, ↓e124_54, ↓e124_55, ↓e124_56, ↓e124_57, ↓e124_59, ↓e124_60, ↓e124_64, ↓e124_66, ↓e124_69, ↓e124_70, ↓e124_73, ↓e124_75, ↓e124_76, ↓e124_78, ↓e124_79, ↓e124_83, ↓e124_84, ↓e124_87, ↓e124_89, ↓e124_91, ↓e124_94, ↓e124_96, ↓e124_98, ↓e124_101, ↓e124_102, ↓e124_104, ↓e124_107, ↓e124_110, ↓e124_111, ↓e124_114, ↓e124_115, ↓e124_117, ↓e124_118, ↓e124_119, ↓e124_122, ↓e124_125, ↓e124_126, ↓e124_129, ↓e124_130, ↓e124_132, ↓e124_133, ↓e124_134, ↓e124_137, ↓e124_138, ↓e124_140, ↓e124_141, ↓e124_142, ↓e124_143, ↓e124_144, ↓e124_145, ↓e124_146, ↓e124_149, ↓e124_151, ↓e124_153, ↓e124_154, ↓e124_160, ↓e124_163, ↓e124_166, ↓e124_169, znl_i, znl_r, znl_n, zcs_0, zcs_1, zcs_2, zcs_3, zcat_0, zcat_1, zcat_2, zcat_3, zbl_0, zbl_1, true_and, and_true, ↓zret_some, ↓zret_none, Nat.reduceAdd, Nat.reduceLeDiff, Nat.reduceMul, eq_self, Int.reduceToNat, zrg]
      have h9 := hO N len (some (.inl (N 377 t))) (some (.inl 4)) w8 ⟨hF.1, hF.2.1, bf_next hF.2.2.1 ht, hF.2.2.2⟩
      simp
      exact h9
    | succ n ih =>
      intro k hk N len t w8 hF ht hO
      obtain ⟨f1, f2, f3, f4⟩ := id hF
      obtain ⟨c, c1, c2, c3, c4, c5⟩ := f3.2.1 t ht
      have hk0 : 0 ≤ (k : Int) ∧ (k : Int) < 4 := ⟨by omega, by omega⟩
      have hk1 : ¬ (k : Int) ≥ 4 := by omega
      have hk2 : -2147483648 ≤ (k : Int) ∧ (k : Int) < 2147483648 := ⟨by omega, by omega⟩
      have hc0 : 0 ≤ (c : Int) ∧ (c : Int) < 120 := ⟨by omega, by omega⟩
      have hl120 := cl120 f3
      have hnr : -2147483648 ≤ nbR c k ∧ nbR c k < 2147483648 := by unfold nbR nb; constructor <;> (repeat' split) <;> omega
      have join : ∀ (N' : zM) (len' : Nat) (w8' : Option zV), FR (S 0) M N' r s len' t (k + 1) → t < len' → N' 377 t = N 377 t → RT (Sp (d + 2)) 124 Q 157 [some (.inr (.inr 374)), some (.inl (r : Int)), some (.inl (s : Int)), some (.inl (120 * (r : Int))), some (.inl (len' : Int)), some (.inl (t : Int)), some (.inl (N 377 t)), some (.inl (k : Int)), w8'] [] N' := by
        intro N' len' w8' hF' ht' hq
        have h9 := ih (k + 1) (by omega) N' len' t w8' hF' ht' hO
        rw [hq] at h9
        simp only [↓e124, ↓e124_0, ↓e124_2, ↓e124_3, ↓e124_4, ↓e124_5, ↓e124_6, ↓e124_8, ↓e124_10, ↓e124_12, ↓e124_15, ↓e124_16, ↓e124_19, ↓e124_20, ↓e124_22, ↓e124_23, ↓e124_24, ↓e124_25, ↓e124_28, ↓e124_31, ↓e124_32, ↓e124_33, ↓e124_36, ↓e124_39, ↓e124_40, ↓e124_41, ↓e124_44, ↓e124_45, ↓e124_46, ↓e124_47, ↓e124_48, ↓e124_49, ↓e124_50, ↓e124_53, ↓e124_54, ↓e124_55, ↓e124_56, ↓e124_57, ↓e124_59, ↓e124_60, ↓e124_64, ↓e124_66, ↓e124_69, ↓e124_70, ↓e124_73, ↓e124_75, ↓e124_76, ↓e124_78, ↓e124_79, ↓e124_83, ↓e124_84, ↓e124_87, ↓e124_89, ↓e124_91, ↓e124_94, ↓e124_96, ↓e124_98, ↓e124_101, ↓e124_102, ↓e124_104, ↓e124_107, ↓e124_110, ↓e124_111, ↓e124_114, ↓e124_115, ↓e124_117, ↓e124_118, ↓e124_119, ↓e124_122, ↓e124_125, ↓e124_126, ↓e124_129, ↓e124_130, ↓e124_132, ↓e124_133, ↓e124_134, ↓e124_137, ↓e124_138, ↓e124_140, ↓e124_141, ↓e124_142, ↓e124_143, ↓e124_144, ↓e124_145, ↓e124_146, ↓e124_149, ↓e124_151, ↓e124_153, ↓e124_154, ↓e124_157, ↓e124_160, ↓e124_163, ↓e124_166, ↓e124_169, znl_i, znl_r, znl_n, zcs_0, zcs_1, zcs_2, zcs_3, zcat_0, zcat_1, zcat_2, zcat_3, zbl_0, zbl_1, true_and, and_true, ↓zret_some, ↓zret_none, Nat.reduceAdd, Nat.reduceLeDiff, Nat.reduceMul, eq_self, Int.reduceToNat]
        exact h9
      rw [c1] at join ⊢
      rw [e124_81]
      simp only [↓e124, ↓e124_0, ↓e124_2, ↓e124_3, ↓e124_4, ↓e124_5, ↓e124_6, ↓e124_8, ↓e124_10, ↓e124_12, ↓e124_15, ↓e124_16, ↓e124_19, ↓e124_20, ↓e124_22, ↓e124_23, ↓e124_24, ↓e124_25, ↓e124_28, ↓e124_31, ↓e124_32, ↓e124_33, ↓e124_36, ↓e124_39, ↓e124_40, ↓e124_41, ↓e124_44, ↓e124_45, ↓e124_46, ↓e124_47, ↓e124_48, ↓e124_49, ↓e124_50, ↓e124_53, ↓e124_54, ↓e124_55, ↓e124_56, ↓e124_57, ↓e124_59, ↓e124_60, ↓e124_64, ↓e124_66, ↓e124_69, ↓e124_70, ↓e124_73, ↓e124_75, ↓e124_76, ↓e124_78, ↓e124_79, ↓e124_83, ↓e124_84, ↓e124_87, ↓e124_89, ↓e124_91, ↓e124_94, ↓e124_96, ↓e124_98, ↓e124_101, ↓e124_102, ↓e124_104, ↓e124_110, ↓e124_111, ↓e124_114, ↓e124_115, ↓e124_117, ↓e124_118, ↓e124_119, ↓e124_122, ↓e124_125, ↓e124_126, ↓e124_129, ↓e124_130, ↓e124_132, ↓e124_133, ↓e124_134, ↓e124_137, ↓e124_138, ↓e124_140, ↓e124_141, ↓e124_142, ↓e124_143, ↓e124_144, ↓e124_145, ↓e124_146, ↓e124_149, ↓e124_151, ↓e124_153, ↓e124_154, ↓e124_160, ↓e124_163, ↓e124_166, ↓e124_169, znl_i, znl_r, znl_n, zcs_0, zcs_1, zcs_2, zcs_3, zcat_0, zcat_1, zcat_2, zcat_3, zbl_0, zbl_1, true_and, and_true, ↓zret_some, ↓zret_none, Nat.reduceAdd, Nat.reduceLeDiff, Nat.reduceMul, eq_self, Int.reduceToNat, zrg, zkc_0, zin_1, zin_2, zin_3, zin_4, zin_5, zin_6, zin_7, zin_8, zin_9, zaa_9, zkc_10, zin_11, zin_12, zkc_13, zin_14, zin_15, zkc_16, zin_17, zin_18, zkc_19, zin_20, zin_21, zin_22, zin_23, zin_24, zin_25, zin_26, zin_27, zin_28, zaa_28, zkc_29, zin_30, zin_31, zkc_32, zin_33, zin_34, zkc_35, zin_36, zin_37, zkc_38, zin_39, zin_40, zin_41, zin_42, zin_43, zin_44, zin_45, zin_46, zin_47, zaa_47, zkc_48, zin_49, zin_50, zkc_51, zin_52, zin_53, zkc_54, zin_55, zin_56, zkc_209, zkc_210, zin_211, zaa_211, zkc_212, zin_213, zkc_214, zkc_215, zin_216, zin_217, zkc_218, zin_219, zin_220, zin_221, zkc_222, zin_223, zaa_223, zin_224, zin_225, zkc_226, zin_227, zin_228, zin_229, zin_230, zin_231, zin_232, zkc_233, zin_234, zaa_234, zin_235, zin_236, zin_237, zin_238, zin_239, zin_240, zin_241, zin_242, zin_243, zin_244, zin_245, zin_246, zin_247, zin_248, zin_249, zin_250, zkc_251, zin_252, zin_253, zkc_374, zin_375, zin_376, zin_377, zin_378, zin_379, zin_380, zin_381, zin_382, zin_383, zin_384, zin_385, zin_386, zin_387, hk1, hk2, ↓reduceIte, ↓s_nbR d _ N c k hc0.1 hc0.2 hk0.1 hk0.2, hnr]
      by_cases h1 : nb c k < 0
      · have h2 := join N len (some (.inl (nbR c k))) ⟨f1, f2, bf_skip f3 ht (by omega) (fun e he => by rw [c1] at he; omega), f4⟩ ht c1
        have h3 : nbR c k = -1 := by unfold nbR; rw [if_neg (by omega)]
        simp only [h3] at h2 ⊢
        simp
        exact h2
      · obtain ⟨x, hx⟩ : ∃ x : Nat, nb c k = x := ⟨(nb c k).toNat, by omega⟩
        have hx1 : x < 120 := by have := nb_rng hc0 (k := k) (by omega); omega
        have hx0 : 0 ≤ (x : Int) ∧ (x : Int) < 120 := ⟨by omega, by omega⟩
        have h3 : nbR c k = x := by unfold nbR; rw [if_pos (by omega), hx]
        have hb01 := hW.1 x hx1
        have hbr : -2147483648 ≤ S 0 x ∧ S 0 x < 2147483648 := by omega
        have hDr : -2147483648 ≤ N 376 (120 * r + x) ∧ N 376 (120 * r + x) < 2147483648 := by
          rcases Int.lt_or_le (N 376 (120 * r + x)) 0 with z | z
          · have := f4 x hx1 z; omega
          · obtain ⟨i0, u1, u2⟩ := f3.2.2.2.1 x hx1 z
            obtain ⟨c0, v1, v2, v3, v4, v5⟩ := f3.2.1 i0 u1
            have : c0 = x := by omega
            subst this
            have := dst_lt (w := S 0) (c := c0) hs
            have v4 : N 376 (120 * r + c0) = dst (S 0) s c0 := v4
            omega
        rw [h3]
        simp only [show ¬ (x : Int) < 0 by omega, ↓reduceIte, ↓s_isBlocked (d + 1) _ N S x hx1 (relOf N f1) hW, ↓e124_107, hbr, true_and, zrg]
        simp only [↓e124, ↓e124_0, ↓e124_2, ↓e124_3, ↓e124_4, ↓e124_5, ↓e124_6, ↓e124_8, ↓e124_10, ↓e124_12, ↓e124_15, ↓e124_16, ↓e124_19, ↓e124_20, ↓e124_22, ↓e124_23, ↓e124_24, ↓e124_25, ↓e124_28, ↓e124_31, ↓e124_32, ↓e124_33, ↓e124_36, ↓e124_39, ↓e124_40, ↓e124_41, ↓e124_44, ↓e124_45, ↓e124_46, ↓e124_47, ↓e124_48, ↓e124_49, ↓e124_50, ↓e124_53, ↓e124_54, ↓e124_55, ↓e124_56, ↓e124_57, ↓e124_59, ↓e124_60, ↓e124_64, ↓e124_66, ↓e124_69, ↓e124_70, ↓e124_73, ↓e124_75, ↓e124_76, ↓e124_78, ↓e124_79, ↓e124_83, ↓e124_84, ↓e124_87, ↓e124_89, ↓e124_91, ↓e124_94, ↓e124_96, ↓e124_98, ↓e124_101, ↓e124_102, ↓e124_104, ↓e124_107, ↓e124_110, ↓e124_111, ↓e124_114, ↓e124_115, ↓e124_117, ↓e124_118, ↓e124_119, ↓e124_122, ↓e124_125, ↓e124_126, ↓e124_129, ↓e124_130, ↓e124_132, ↓e124_133, ↓e124_134, ↓e124_137, ↓e124_138, ↓e124_140, ↓e124_141, ↓e124_142, ↓e124_143, ↓e124_144, ↓e124_145, ↓e124_146, ↓e124_149, ↓e124_151, ↓e124_153, ↓e124_154, ↓e124_160, ↓e124_163, ↓e124_166, ↓e124_169, znl_i, znl_r, znl_n, zcs_0, zcs_1, zcs_2, zcs_3, zcat_0, zcat_1, zcat_2, zcat_3, zbl_0, zbl_1, true_and, and_true, ↓zret_some, ↓zret_none, Nat.reduceAdd, Nat.reduceLeDiff, Nat.reduceMul, eq_self, Int.reduceToNat, zrg, zkc_0, zin_1, zin_2, zin_3, zin_4, zin_5, zin_6, zin_7, zin_8, zin_9, zaa_9, zkc_10, zin_11, zin_12, zkc_13, zin_14, zin_15, zkc_16, zin_17, zin_18, zkc_19, zin_20, zin_21, zin_22, zin_23, zin_24, zin_25, zin_26, zin_27, zin_28, zaa_28, zkc_29, zin_30, zin_31, zkc_32, zin_33, zin_34, zkc_35, zin_36, zin_37, zkc_38, zin_39, zin_40, zin_41, zin_42, zin_43, zin_44, zin_45, zin_46, zin_47, zaa_47, zkc_48, zin_49, zin_50, zkc_51, zin_52, zin_53, zkc_54, zin_55, zin_56, zkc_209, zkc_210, zin_211, zaa_211, zkc_212, zin_213, zkc_214, zkc_215, zin_216, zin_217, zkc_218, zin_219, zin_220, zin_221, zkc_222, zin_223, zaa_223, zin_224, zin_225, zkc_226, zin_227, zin_228, zin_229, zin_230, zin_231, zin_232, zkc_233, zin_234, zaa_234, zin_235, zin_236, zin_237, zin_238, zin_239, zin_240, zin_241, zin_242, zin_243, zin_244, zin_245, zin_246, zin_247, zin_248, zin_249, zin_250, zkc_251, zin_252, zin_253, zkc_374, zin_375, zin_376, zin_377, zin_378, zin_379, zin_380, zin_381, zin_382, zin_383, zin_384, zin_385, zin_386, zin_387, tn, tb x hx1, tb c c2, hDr, Int.toNat_natCast]
        by_cases h4 : S 0 x = 1
        · have h2 := join N len (some (.inl (x : Int))) ⟨f1, f2, bf_skip f3 ht (by omega) (fun e he hw => by rw [c1] at he; have : e = x := (by omega); subst this; exact absurd h4 hw), f4⟩ ht c1
          simp [h4]
          exact h2
        · have h40 : S 0 x = 0 := by omega
          by_cases h5 : N 376 (120 * r + x) < 0
          · have hxe : nb (N 377 t) k = x := by rw [c1]; exact hx
            have hxx := bf_exact f3 ht (by omega) hxe h4 h5
            have hll : 0 ≤ (len : Int) ∧ (len : Int) < 120 := ⟨by omega, by omega⟩
            have hF2 : FR (S 0) M (zup (zup N 376 (120 * r + x) (N 376 (120 * r + c) + 1)) 377 len x) r s (len + 1) t (k + 1) := by
              have g1 : ∀ c0 : Nat, (zup (zup N 376 (120 * r + x) (N 376 (120 * r + c) + 1)) 377 len x) 376 (120 * r + c0) = if c0 = x then N 376 (120 * r + c) + 1 else N 376 (120 * r + c0) := fun c0 => by
                rw [zup_ne _ _ _ (by omega)]; simp [zup]
              have g2 : ∀ i0 : Nat, (zup (zup N 376 (120 * r + x) (N 376 (120 * r + c) + 1)) 377 len x) 377 i0 = if i0 = len then (x : Int) else N 377 i0 := fun i0 => by
                simp [zup]
              refine ⟨fun b b1 b2 => ?_, fun j hj => ?_, bf_add f3 ht (by omega) hxe h4 h5 (fun c0 => ?_) g2, fun c0 hc1 h6 => ?_⟩
              · rw [zup_ne _ _ _ b2, zup_ne _ _ _ b1]; exact f1 b b1 b2
              · have : ¬ j = 120 * r + x := by omega
                rw [zup_ne _ _ _ (by omega)]
                simp only [zup, this, and_false, if_false]
                exact f2 j hj
              · rw [c1]
                simp only [Int.toNat_natCast]
                exact g1 c0
              · rw [g1 c0] at h6 ⊢
                split at h6
                · have c4 : N 376 (120 * r + c) = dst (S 0) s c := c4
                  omega
                · rw [if_neg (by assumption)]; exact f4 c0 hc1 h6
            have h2 := join _ (len + 1) (some (.inl (x : Int))) hF2 (by omega) (by
              have : ¬ t = len := by omega
              simp [zup, *])
            simp [h40, h5, hll]
            rw [show ((len : Int) + 1) = ((len + 1 : Nat) : Int) by omega]
            exact h2
          · have h2 := join N len (some (.inl (x : Int))) ⟨f1, f2, bf_skip f3 ht (by omega) (fun e he _ => by rw [c1] at he; have : e = x := (by omega); subst this; show 0 ≤ N 376 (120 * r + e); omega), f4⟩ ht c1
            simp [h40, h5]
            exact h2
  have outer : ∀ n t : Nat, t + n = 120 → ∀ (N : zM) (len : Nat) (x6 x7 x8 : Option zV), FR (S 0) M N r s len t 0 → RT (Sp (d + 2)) 124 Q 62 [some (.inr (.inr 374)), some (.inl (r : Int)), some (.inl (s : Int)), some (.inl (120 * (r : Int))), some (.inl (len : Int)), some (.inl (t : Int)), x6, x7, x8] [] N := by
    intro n
    induction n with
    | zero =>
      intro t ht N len x6 x7 x8 hF
      have hl := hF.2.2.1.1
      have h120 := cl120 hF.2.2.1
      obtain rfl : t = len := by omega
      have hr0 : -2147483648 ≤ (t : Int) ∧ (t : Int) < 2147483648 := ⟨by omega, by omega⟩
      simp only [↓e124, ↓e124_0, ↓e124_2, ↓e124_3, ↓e124_4, ↓e124_5, ↓e124_6, ↓e124_8, ↓e124_10, ↓e124_12, ↓e124_15, ↓e124_16, ↓e124_19, ↓e124_20, ↓e124_22, ↓e124_23, ↓e124_24, ↓e124_25, ↓e124_28, ↓e124_31, ↓e124_32, ↓e124_33, ↓e124_36, ↓e124_39, ↓e124_40, ↓e124_41, ↓e124_44, ↓e124_45, ↓e124_46, ↓e124_47, ↓e124_48, ↓e124_49, ↓e124_50, ↓e124_53, ↓e124_54, ↓e124_55, ↓e124_56, ↓e124_57, ↓e124_59, ↓e124_60, ↓e124_62, ↓e124_64, ↓e124_66, ↓e124_69, ↓e124_70, ↓e124_73, ↓e124_75, ↓e124_76, ↓e124_78, ↓e124_79, ↓e124_81, ↓e124_83, ↓e124_84, ↓e124_87, ↓e124_89, ↓e124_91, ↓e124_94, ↓e124_96, ↓e124_98, ↓e124_101, ↓e124_102, ↓e124_104, ↓e124_107, ↓e124_110, ↓e124_111, ↓e124_114, ↓e124_115, ↓e124_117, ↓e124_118, ↓e124_119, ↓e124_122, ↓e124_125, ↓e124_126, ↓e124_129, ↓e124_130, ↓e124_132, ↓e124_133, ↓e124_134, ↓e124_137, ↓e124_138, ↓e124_140, ↓e124_141, ↓e124_142, ↓e124_143, ↓e124_144, ↓e124_145, ↓e124_146, ↓e124_149, ↓e124_151, ↓e124_153, ↓e124_154, ↓e124_157, ↓e124_160, ↓e124_163, ↓e124_166, ↓e124_169, znl_i, znl_r, znl_n, zcs_0, zcs_1, zcs_2, zcs_3, zcat_0, zcat_1, zcat_2, zcat_3, zbl_0, zbl_1, true_and, and_true, ↓zret_some, ↓zret_none, Nat.reduceAdd, Nat.reduceLeDiff, Nat.reduceMul, eq_self, Int.reduceToNat, zrg, hr0, ge_iff_le, Int.le_refl, ↓reduceIte]
      exact hQ N (FR_end hF) hF.1 hF.2.1
    | succ n ih =>
      intro t ht N len x6 x7 x8 hF
      have hl := hF.2.2.1.1
      have h120 := cl120 hF.2.2.1
      have hr0 : -2147483648 ≤ (t : Int) ∧ (t : Int) < 2147483648 := ⟨by omega, by omega⟩
      have hr2 : -2147483648 ≤ (len : Int) ∧ (len : Int) < 2147483648 := ⟨by omega, by omega⟩
      by_cases hq : t = len
      · subst hq
        rw [e124_62]
        simp only [↓e124, ↓e124_0, ↓e124_2, ↓e124_3, ↓e124_4, ↓e124_5, ↓e124_6, ↓e124_8, ↓e124_10, ↓e124_12, ↓e124_15, ↓e124_16, ↓e124_19, ↓e124_20, ↓e124_22, ↓e124_23, ↓e124_24, ↓e124_25, ↓e124_28, ↓e124_31, ↓e124_32, ↓e124_33, ↓e124_36, ↓e124_39, ↓e124_40, ↓e124_41, ↓e124_44, ↓e124_45, ↓e124_46, ↓e124_47, ↓e124_48, ↓e124_49, ↓e124_50, ↓e124_53, ↓e124_54, ↓e124_55, ↓e124_56, ↓e124_57, ↓e124_59, ↓e124_60, ↓e124_64, ↓e124_66, ↓e124_69, ↓e124_70, ↓e124_73, ↓e124_75, ↓e124_76, ↓e124_78, ↓e124_79, ↓e124_81, ↓e124_83, ↓e124_84, ↓e124_87, ↓e124_89, ↓e124_91, ↓e124_94, ↓e124_96, ↓e124_98, ↓e124_101, ↓e124_102, ↓e124_104, ↓e124_107, ↓e124_110, ↓e124_111, ↓e124_114, ↓e124_115, ↓e124_117, ↓e124_118, ↓e124_119, ↓e124_122, ↓e124_125, ↓e124_126, ↓e124_129, ↓e124_130, ↓e124_132, ↓e124_133, ↓e124_134, ↓e124_137, ↓e124_138, ↓e124_140, ↓e124_141, ↓e124_142, ↓e124_143, ↓e124_144, ↓e124_145, ↓e124_146, ↓e124_149, ↓e124_151, ↓e124_153, ↓e124_154, ↓e124_157, ↓e124_160, ↓e124_163, ↓e124_166, ↓e124_169, znl_i, znl_r, znl_n, zcs_0, zcs_1, zcs_2, zcs_3, zcat_0, zcat_1, zcat_2, zcat_3, zbl_0, zbl_1, true_and, and_true, ↓zret_some, ↓zret_none, Nat.reduceAdd, Nat.reduceLeDiff, Nat.reduceMul, eq_self, Int.reduceToNat, zrg, hr0, ge_iff_le, Int.le_refl, ↓reduceIte]
        exact hQ N (FR_end hF) hF.1 hF.2.1
      · have ht2 : t < len := by omega
        have h1 : ¬ (t : Int) ≥ len := by omega
        have h3 : 0 ≤ (t : Int) ∧ (t : Int) < 120 := ⟨by omega, by omega⟩
        have h9 := inner 4 0 rfl N len t x8 hF ht2 (fun N' len' y6 y7 y8 hF' => ih (t + 1) (by omega) N' len' y6 y7 y8 hF')
        rw [e124_62]
        simp only [↓e124, ↓e124_0, ↓e124_2, ↓e124_3, ↓e124_4, ↓e124_5, ↓e124_6, ↓e124_8, ↓e124_10, ↓e124_12, ↓e124_15, ↓e124_16, ↓e124_19, ↓e124_20, ↓e124_22, ↓e124_23, ↓e124_24, ↓e124_25, ↓e124_28, ↓e124_31, ↓e124_32, ↓e124_33, ↓e124_36, ↓e124_39, ↓e124_40, ↓e124_41, ↓e124_44, ↓e124_45, ↓e124_46, ↓e124_47, ↓e124_48, ↓e124_49, ↓e124_50, ↓e124_53, ↓e124_54, ↓e124_55, ↓e124_56, ↓e124_57, ↓e124_59, ↓e124_60, ↓e124_64, ↓e124_66, ↓e124_69, ↓e124_70, ↓e124_73, ↓e124_75, ↓e124_76, ↓e124_78, ↓e124_79, ↓e124_83, ↓e124_84, ↓e124_87, ↓e124_89, ↓e124_91, ↓e124_94, ↓e124_96, ↓e124_98, ↓e124_101, ↓e124_102, ↓e124_104, ↓e124_107, ↓e124_110, ↓e124_111, ↓e124_114, ↓e124_115, ↓e124_117, ↓e124_118, ↓e124_119, ↓e124_122, ↓e124_125, ↓e124_126, ↓e124_129, ↓e124_130, ↓e124_132, ↓e124_133, ↓e124_134, ↓e124_137, ↓e124_138, ↓e124_140, ↓e124_141, ↓e124_142, ↓e124_143, ↓e124_144, ↓e124_145, ↓e124_146, ↓e124_149, ↓e124_151, ↓e124_153, ↓e124_154, ↓e124_157, ↓e124_160, ↓e124_163, ↓e124_166, ↓e124_169, znl_i, znl_r, znl_n, zcs_0, zcs_1, zcs_2, zcs_3, zcat_0, zcat_1, zcat_2, zcat_3, zbl_0, zbl_1, true_and, and_true, ↓zret_some, ↓zret_none, Nat.reduceAdd, Nat.reduceLeDiff, Nat.reduceMul, eq_self, Int.reduceToNat, zrg, hr0, hr2, h1, h3, ↓reduceIte, zkc_0, zin_1, zin_2, zin_3, zin_4, zin_5, zin_6, zin_7, zin_8, zin_9, zaa_9, zkc_10, zin_11, zin_12, zkc_13, zin_14, zin_15, zkc_16, zin_17, zin_18, zkc_19, zin_20, zin_21, zin_22, zin_23, zin_24, zin_25, zin_26, zin_27, zin_28, zaa_28, zkc_29, zin_30, zin_31, zkc_32, zin_33, zin_34, zkc_35, zin_36, zin_37, zkc_38, zin_39, zin_40, zin_41, zin_42, zin_43, zin_44, zin_45, zin_46, zin_47, zaa_47, zkc_48, zin_49, zin_50, zkc_51, zin_52, zin_53, zkc_54, zin_55, zin_56, zkc_209, zkc_210, zin_211, zaa_211, zkc_212, zin_213, zkc_214, zkc_215, zin_216, zin_217, zkc_218, zin_219, zin_220, zin_221, zkc_222, zin_223, zaa_223, zin_224, zin_225, zkc_226, zin_227, zin_228, zin_229, zin_230, zin_231, zin_232, zkc_233, zin_234, zaa_234, zin_235, zin_236, zin_237, zin_238, zin_239, zin_240, zin_241, zin_242, zin_243, zin_244, zin_245, zin_246, zin_247, zin_248, zin_249, zin_250, zkc_251, zin_252, zin_253, zkc_374, zin_375, zin_376, zin_377, zin_378, zin_379, zin_380, zin_381, zin_382, zin_383, zin_384, zin_385, zin_386, zin_387, Int.toNat_natCast]
        exact h9
  have hsI : 0 ≤ (s : Int) ∧ (s : Int) < 120 := ⟨by omega, by omega⟩
  have hb01 := hW.1 s hs
  have hbr : -2147483648 ≤ S 0 s ∧ S 0 s < 2147483648 := by omega
  -- the row is emptied
  have fill : ∀ n i : Nat, i + n = 120 → ∀ N : zM, (∀ b, b ≠ 376 → N b = M b) → (∀ j, N 376 j = if 120 * r ≤ j ∧ j < 120 * r + i then -1 else M 376 j) →
      RT (Sp (d + 2)) 124 Q 8 [some (.inr (.inr 374)), some (.inl (r : Int)), some (.inl (s : Int)), some (.inl (120 * (r : Int))), some (.inl (i : Int)), none, none, none, none] [] N := by
    intro n
    induction n with
    | zero =>
      intro i hi N h1 h2
      obtain rfl : i = 120 := by omega
      have h3 := hR
      have hRN : RelR N 0 S := relOf N (fun b b1 b2 => h1 b b1)
      rw [e124_8]
      simp only [↓e124, ↓e124_0, ↓e124_2, ↓e124_3, ↓e124_4, ↓e124_5, ↓e124_6, ↓e124_10, ↓e124_12, ↓e124_15, ↓e124_16, ↓e124_19, ↓e124_20, ↓e124_22, ↓e124_23, ↓e124_24, ↓e124_25, ↓e124_28, ↓e124_31, ↓e124_32, ↓e124_33, ↓e124_39, ↓e124_40, ↓e124_41, ↓e124_44, ↓e124_45, ↓e124_46, ↓e124_47, ↓e124_48, ↓e124_49, ↓e124_50, ↓e124_53, ↓e124_54, ↓e124_55, ↓e124_56, ↓e124_57, ↓e124_59, ↓e124_60, ↓e124_64, ↓e124_66, ↓e124_69, ↓e124_70, ↓e124_73, ↓e124_75, ↓e124_76, ↓e124_78, ↓e124_79, ↓e124_81, ↓e124_83, ↓e124_84, ↓e124_87, ↓e124_89, ↓e124_91, ↓e124_94, ↓e124_96, ↓e124_98, ↓e124_101, ↓e124_102, ↓e124_104, ↓e124_107, ↓e124_110, ↓e124_111, ↓e124_114, ↓e124_115, ↓e124_117, ↓e124_118, ↓e124_119, ↓e124_122, ↓e124_125, ↓e124_126, ↓e124_129, ↓e124_130, ↓e124_132, ↓e124_133, ↓e124_134, ↓e124_137, ↓e124_138, ↓e124_140, ↓e124_141, ↓e124_142, ↓e124_143, ↓e124_144, ↓e124_145, ↓e124_146, ↓e124_149, ↓e124_151, ↓e124_153, ↓e124_154, ↓e124_157, ↓e124_160, ↓e124_163, ↓e124_166, ↓e124_169, znl_i, znl_r, znl_n, zcs_0, zcs_1, zcs_2, zcs_3, zcat_0, zcat_1, zcat_2, zcat_3, zbl_0, zbl_1, true_and, and_true, ↓zret_some, ↓zret_none, Nat.reduceAdd, Nat.reduceLeDiff, Nat.reduceMul, eq_self, Int.reduceToNat, zrg, zkc_0, zin_1, zin_2, zin_3, zin_4, zin_5, zin_6, zin_7, zin_8, zin_9, zaa_9, zkc_10, zin_11, zin_12, zkc_13, zin_14, zin_15, zkc_16, zin_17, zin_18, zkc_19, zin_20, zin_21, zin_22, zin_23, zin_24, zin_25, zin_26, zin_27, zin_28, zaa_28, zkc_29, zin_30, zin_31, zkc_32, zin_33, zin_34, zkc_35, zin_36, zin_37, zkc_38, zin_39, zin_40, zin_41, zin_42, zin_43, zin_44, zin_45, zin_46, zin_47, zaa_47, zkc_48, zin_49, zin_50, zkc_51, zin_52, zin_53, zkc_54, zin_55, zin_56, zkc_209, zkc_210, zin_211, zaa_211, zkc_212, zin_213, zkc_214, zkc_215, zin_216, zin_217, zkc_218, zin_219, zin_220, zin_221, zkc_222, zin_223, zaa_223, zin_224, zin_225, zkc_226, zin_227, zin_228, zin_229, zin_230, zin_231, zin_232, zkc_233, zin_234, zaa_234, zin_235, zin_236, zin_237, zin_238, zin_239, zin_240, zin_241, zin_242, zin_243, zin_244, zin_245, zin_246, zin_247, zin_248, zin_249, zin_250, zkc_251, zin_252, zin_253, zkc_374, zin_375, zin_376, zin_377, zin_378, zin_379, zin_380, zin_381, zin_382, zin_383, zin_384, zin_385, zin_386, zin_387]
      simp only [Int.reduceLE, Int.reduceLT, ge_iff_le, Int.cast_ofNat_Int, ↓reduceIte, and_self, true_and, ↓s_isBlocked (d + 1) _ N S s hs hRN hW, ↓e124_36, hbr, zrg]
      simp only [↓e124, ↓e124_0, ↓e124_2, ↓e124_3, ↓e124_4, ↓e124_5, ↓e124_6, ↓e124_8, ↓e124_10, ↓e124_12, ↓e124_15, ↓e124_16, ↓e124_19, ↓e124_20, ↓e124_22, ↓e124_23, ↓e124_24, ↓e124_25, ↓e124_28, ↓e124_31, ↓e124_32, ↓e124_33, ↓e124_36, ↓e124_39, ↓e124_40, ↓e124_41, ↓e124_44, ↓e124_45, ↓e124_46, ↓e124_47, ↓e124_48, ↓e124_49, ↓e124_50, ↓e124_53, ↓e124_54, ↓e124_55, ↓e124_56, ↓e124_57, ↓e124_59, ↓e124_60, ↓e124_64, ↓e124_66, ↓e124_69, ↓e124_70, ↓e124_73, ↓e124_75, ↓e124_76, ↓e124_78, ↓e124_79, ↓e124_81, ↓e124_83, ↓e124_84, ↓e124_87, ↓e124_89, ↓e124_91, ↓e124_94, ↓e124_96, ↓e124_98, ↓e124_101, ↓e124_102, ↓e124_104, ↓e124_107, ↓e124_110, ↓e124_111, ↓e124_114, ↓e124_115, ↓e124_117, ↓e124_118, ↓e124_119, ↓e124_122, ↓e124_125, ↓e124_126, ↓e124_129, ↓e124_130, ↓e124_132, ↓e124_133, ↓e124_134, ↓e124_137, ↓e124_138, ↓e124_140, ↓e124_141, ↓e124_142, ↓e124_143, ↓e124_144, ↓e124_145, ↓e124_146, ↓e124_149, ↓e124_151, ↓e124_153, ↓e124_154, ↓e124_157, ↓e124_160, ↓e124_163, ↓e124_166, ↓e124_169, znl_i, znl_r, znl_n, zcs_0, zcs_1, zcs_2, zcs_3, zcat_0, zcat_1, zcat_2, zcat_3, zbl_0, zbl_1, true_and, and_true, ↓zret_some, ↓zret_none, Nat.reduceAdd, Nat.reduceLeDiff, Nat.reduceMul, eq_self, Int.reduceToNat, zrg, zkc_0, zin_1, zin_2, zin_3, zin_4, zin_5, zin_6, zin_7, zin_8, zin_9, zaa_9, zkc_10, zin_11, zin_12, zkc_13, zin_14, zin_15, zkc_16, zin_17, zin_18, zkc_19, zin_20, zin_21, zin_22, zin_23, zin_24, zin_25, zin_26, zin_27, zin_28, zaa_28, zkc_29, zin_30, zin_31, zkc_32, zin_33, zin_34, zkc_35, zin_36, zin_37, zkc_38, zin_39, zin_40, zin_41, zin_42, zin_43, zin_44, zin_45, zin_46, zin_47, zaa_47, zkc_48, zin_49, zin_50, zkc_51, zin_52, zin_53, zkc_54, zin_55, zin_56, zkc_209, zkc_210, zin_211, zaa_211, zkc_212, zin_213, zkc_214, zkc_215, zin_216, zin_217, zkc_218, zin_219, zin_220, zin_221, zkc_222, zin_223, zaa_223, zin_224, zin_225, zkc_226, zin_227, zin_228, zin_229, zin_230, zin_231, zin_232, zkc_233, zin_234, zaa_234, zin_235, zin_236, zin_237, zin_238, zin_239, zin_240, zin_241, zin_242, zin_243, zin_244, zin_245, zin_246, zin_247, zin_248, zin_249, zin_250, zkc_251, zin_252, zin_253, zkc_374, zin_375, zin_376, zin_377, zin_378, zin_379, zin_380, zin_381, zin_382, zin_383, zin_384, zin_385, zin_386, zin_387, tn, tb s hs, hsI, Int.toNat_natCast]
      by_cases h4 : S 0 s = 1
      · simp [h4]
        refine hQ N (fun c hc => ?_) (fun b b1 b2 => h1 b b1) (fun j hj => ?_)
        · rw [h2, if_pos ⟨by omega, by omega⟩, dst_wall h4]
        · rw [h2, if_neg (by omega)]
      · have h40 : S 0 s = 0 := by omega
        have hF : FR (S 0) M (zup (zup N 376 (120 * r + s) 0) 377 0 s) r s 1 0 0 := by
          refine ⟨fun b b1 b2 => ?_, fun j hj => ?_, bf_init hs h4 ?_ (fun c hc hcs => ?_) ?_, fun c hc h5 => ?_⟩
          · rw [zup_ne _ _ _ b2, zup_ne _ _ _ b1]; exact h1 b b1
          · have : ¬ j = 120 * r + s := by omega
            rw [zup_ne _ _ _ (by omega)]
            simp only [zup, this, and_false, if_false]
            rw [h2, if_neg (by omega)]
          · rw [zup_ne _ _ _ (by omega)]; simp [zup]
          · rw [zup_ne _ _ _ (by omega)]
            have : ¬ 120 * r + c = 120 * r + s := by omega
            simp only [zup, this, and_false, if_false]
            rw [h2, if_pos ⟨by omega, by omega⟩]; omega
          · simp [zup]
          · rw [zup_ne _ _ _ (by omega)] at h5 ⊢
            by_cases q : c = s
            · subst q; simp [zup] at h5
            · have : ¬ 120 * r + c = 120 * r + s := by omega
              simp only [zup, this, and_false, if_false]
              rw [h2, if_pos ⟨by omega, by omega⟩]
        have h9 := outer 120 0 rfl _ 1 none none none hF
        simp [h40]
        exact h9
    | succ n ih =>
      intro i hi N h1 h2
      have hi0 : -2147483648 ≤ (i : Int) ∧ (i : Int) < 2147483648 := ⟨by omega, by omega⟩
      have hi1 : ¬ (i : Int) ≥ 120 := by omega
      have h9 := ih (i + 1) (by omega) (zup N 376 (120 * r + i) (-1)) (fun b b1 => by rw [zup_ne _ _ _ b1]; exact h1 b b1) (fun j => by
        by_cases q : j = 120 * r + i
        · subst q; simp [zup]
        · simp only [zup, q, and_false, if_false]
          rw [h2]
          by_cases z : 120 * r ≤ j ∧ j < 120 * r + i
          · rw [if_pos z, if_pos (by omega)]
          · rw [if_neg z, if_neg (by omega)])
      rw [e124_8]
      simp only [↓e124, ↓e124_0, ↓e124_2, ↓e124_3, ↓e124_4, ↓e124_5, ↓e124_6, ↓e124_10, ↓e124_12, ↓e124_15, ↓e124_16, ↓e124_19, ↓e124_20, ↓e124_22, ↓e124_23, ↓e124_24, ↓e124_25, ↓e124_28, ↓e124_31, ↓e124_32, ↓e124_33, ↓e124_36, ↓e124_39, ↓e124_40, ↓e124_41, ↓e124_44, ↓e124_45, ↓e124_46, ↓e124_47, ↓e124_48, ↓e124_49, ↓e124_50, ↓e124_53, ↓e124_54, ↓e124_55, ↓e124_56, ↓e124_57, ↓e124_59, ↓e124_60, ↓e124_62, ↓e124_64, ↓e124_66, ↓e124_69, ↓e124_70, ↓e124_73, ↓e124_75, ↓e124_76, ↓e124_78, ↓e124_79, ↓e124_81, ↓e124_83, ↓e124_84, ↓e124_87, ↓e124_89, ↓e124_91, ↓e124_94, ↓e124_96, ↓e124_98, ↓e124_101, ↓e124_102, ↓e124_104, ↓e124_107, ↓e124_110, ↓e124_111, ↓e124_114, ↓e124_115, ↓e124_117, ↓e124_118, ↓e124_119, ↓e124_122, ↓e124_125, ↓e124_126, ↓e124_129, ↓e124_130, ↓e124_132, ↓e124_133, ↓e124_134, ↓e124_137, ↓e124_138, ↓e124_140, ↓e124_141, ↓e124_142, ↓e124_143, ↓e124_144, ↓e124_145, ↓e124_146, ↓e124_149, ↓e124_151, ↓e124_153, ↓e124_154, ↓e124_157, ↓e124_160, ↓e124_163, ↓e124_166, ↓e124_169, znl_i, znl_r, znl_n, zcs_0, zcs_1, zcs_2, zcs_3, zcat_0, zcat_1, zcat_2, zcat_3, zbl_0, zbl_1, true_and, and_true, ↓zret_some, ↓zret_none, Nat.reduceAdd, Nat.reduceLeDiff, Nat.reduceMul, eq_self, Int.reduceToNat, zrg, zkc_0, zin_1, zin_2, zin_3, zin_4, zin_5, zin_6, zin_7, zin_8, zin_9, zaa_9, zkc_10, zin_11, zin_12, zkc_13, zin_14, zin_15, zkc_16, zin_17, zin_18, zkc_19, zin_20, zin_21, zin_22, zin_23, zin_24, zin_25, zin_26, zin_27, zin_28, zaa_28, zkc_29, zin_30, zin_31, zkc_32, zin_33, zin_34, zkc_35, zin_36, zin_37, zkc_38, zin_39, zin_40, zin_41, zin_42, zin_43, zin_44, zin_45, zin_46, zin_47, zaa_47, zkc_48, zin_49, zin_50, zkc_51, zin_52, zin_53, zkc_54, zin_55, zin_56, zkc_209, zkc_210, zin_211, zaa_211, zkc_212, zin_213, zkc_214, zkc_215, zin_216, zin_217, zkc_218, zin_219, zin_220, zin_221, zkc_222, zin_223, zaa_223, zin_224, zin_225, zkc_226, zin_227, zin_228, zin_229, zin_230, zin_231, zin_232, zkc_233, zin_234, zaa_234, zin_235, zin_236, zin_237, zin_238, zin_239, zin_240, zin_241, zin_242, zin_243, zin_244, zin_245, zin_246, zin_247, zin_248, zin_249, zin_250, zkc_251, zin_252, zin_253, zkc_374, zin_375, zin_376, zin_377, zin_378, zin_379, zin_380, zin_381, zin_382, zin_383, zin_384, zin_385, zin_386, zin_387, hi0, hi1, ↓reduceIte, tn, tb i (by omega)]
      rw [show ((i : Int) + 1) = ((i + 1 : Nat) : Int) by omega]
      exact ⟨⟨by omega, by omega⟩, h9⟩
  have h9 := fill 120 0 rfl M (fun _ _ => rfl) (fun j => by rw [if_neg (by omega)])
  simp only [↓e124, ↓e124_0, ↓e124_2, ↓e124_3, ↓e124_4, ↓e124_5, ↓e124_6, ↓e124_10, ↓e124_12, ↓e124_15, ↓e124_16, ↓e124_19, ↓e124_20, ↓e124_22, ↓e124_23, ↓e124_24, ↓e124_25, ↓e124_28, ↓e124_31, ↓e124_32, ↓e124_33, ↓e124_36, ↓e124_39, ↓e124_40, ↓e124_41, ↓e124_44, ↓e124_45, ↓e124_46, ↓e124_47, ↓e124_48, ↓e124_49, ↓e124_50, ↓e124_53, ↓e124_54, ↓e124_55, ↓e124_56, ↓e124_57, ↓e124_59, ↓e124_60, ↓e124_62, ↓e124_64, ↓e124_66, ↓e124_69, ↓e124_70, ↓e124_73, ↓e124_75, ↓e124_76, ↓e124_78, ↓e124_79, ↓e124_81, ↓e124_83, ↓e124_84, ↓e124_87, ↓e124_89, ↓e124_91, ↓e124_94, ↓e124_96, ↓e124_98, ↓e124_101, ↓e124_102, ↓e124_104, ↓e124_107, ↓e124_110, ↓e124_111, ↓e124_114, ↓e124_115, ↓e124_117, ↓e124_118, ↓e124_119, ↓e124_122, ↓e124_125, ↓e124_126, ↓e124_129, ↓e124_130, ↓e124_132, ↓e124_133, ↓e124_134, ↓e124_137, ↓e124_138, ↓e124_140, ↓e124_141, ↓e124_142, ↓e124_143, ↓e124_144, ↓e124_145, ↓e124_146, ↓e124_149, ↓e124_151, ↓e124_153, ↓e124_154, ↓e124_157, ↓e124_160, ↓e124_163, ↓e124_166, ↓e124_169, znl_i, znl_r, znl_n, zcs_0, zcs_1, zcs_2, zcs_3, zcat_0, zcat_1, zcat_2, zcat_3, zbl_0, zbl_1, true_and, and_true, ↓zret_some, ↓zret_none, Nat.reduceAdd, Nat.reduceLeDiff, Nat.reduceMul, eq_self, Int.reduceToNat]
  exact h9
