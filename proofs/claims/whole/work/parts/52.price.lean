/-! ### Giving.priceChoices -/
noncomputable def dm (S : zM) (m s : Nat) : Int := dst (S 0) (plc S s).toNat (S 1 m).toNat
noncomputable def prc (S : zM) (k i m s : Nat) : Int := if dm S m s < 0 then 1125899906842624 else dm S m s * 2357947691 + (s : Int) * (11 : Int) ^ (k - i)
theorem Hw_of {M S : zM} (hR : RelC M 0 S) (hW : WfS S) : Hw M (S 0) := by
  intro c hc
  have h := hR.1 c hc
  simp only [Nat.zero_add] at h
  have hon : -1 ≤ onS S (c : Int) ∧ onS S (c : Int) < 10 := by
    unfold onS
    rcases zfst_rng (fun m => decide (S 1 m = (c : Int))) 10 0 with h | ⟨m, h, h2, h3, -⟩ <;> omega
  rw [h]
  by_cases q : S 0 c = 1
  · rw [if_pos q]; exact ⟨⟨fun _ => q, fun _ => rfl⟩, by omega⟩
  · rw [if_neg q]; exact ⟨⟨fun z => by omega, fun z => absurd z q⟩, by omega⟩
theorem fol_mem {S : zM} (hW : WfS S) {i m : Nat} (h : (folN S 10)[i]? = some m) : m < 10 ∧ (m : Int) ≠ ldr S ∧ 0 ≤ S 1 m ∧ S 1 m < 120 ∧ 0 ≤ ldr S := by
  have h1 := List.mem_of_getElem? h
  obtain ⟨h2, h3⟩ := List.mem_filter.mp h1
  have h4 := List.mem_range.mp h2
  unfold isF at h3
  have h5 := of_decide_eq_true h3
  refine ⟨h4, h5.1, h5.2, (hW.2.1 m h4).2, ?_⟩
  unfold ldr
  split
  · rename_i q; exact q.1
  · rcases zfst_rng (fun m => decide (0 ≤ S 1 m)) 10 0 with q | ⟨x, q, -⟩
    · have := zfst_none _ 10 0 q m (by omega) (by omega)
      simp at this
      omega
    · omega
theorem opn_mem {S : zM} (hW : WfS S) {i s : Nat} (h : (opnN S (nsl S).toNat)[i]? = some s) : (s : Int) < nsl S ∧ s < 10 ∧ (s : Int) ≠ anc S ∧ 0 ≤ plc S s ∧ plc S s < 120 := by
  have h1 := List.mem_of_getElem? h
  obtain ⟨h2, h3⟩ := List.mem_filter.mp h1
  have h4 := List.mem_range.mp h2
  unfold isO at h3
  have h5 := of_decide_eq_true h3
  have h6 := hW.2.2.2.2.2.2.2.2.2 (pj S) (pj_rng hW).1
  have h7 : nsl S = S (9 + pj S) 0 := rfl
  exact ⟨by omega, by omega, h5.1, h5.2, (plc_rng h5.2).1⟩
/-- the memory while choices are priced: Ways right, the lists as they were, rows above r priced -/
def PrI (S M N : zM) (k p r : Nat) : Prop :=
  (∀ b, b ≠ 224 → b ≠ 225 → (b < 254 ∨ 374 ≤ b) → (b < 241 ∨ 250 ≤ b) → N b = M b) ∧ Wv N (S 0) ∧
  (∀ i m : Nat, r < i → i ≤ k → (folN S 10)[i - 1]? = some m → (∀ c s : Nat, 1 ≤ c → c ≤ p → (opnN S (nsl S).toNat)[c - 1]? = some s → N (240 + i) c = prc S k i m s) ∧ ∀ c : Nat, p < c → c ≤ p + k → N (240 + i) c = 2593742460100 + 10 * (11 : Int) ^ (k - i))
theorem s_price (d : Nat) (Q : zQ) (M S : zM) (k p : Nat) (hR : RelC M 0 S) (hW : WfS S) (hV : Wv M (S 0)) (hk : k = (folN S 10).length) (hp : p = (opnN S (nsl S).toNat).length) (hk9 : k < 10) (hp9 : p < 10)
    (hF : M 226 10 = k ∧ ∀ i m : Nat, (folN S 10)[i]? = some m → M 230 i = m) (hO : M 226 3 = p ∧ (∀ s : Nat, (s : Int) < nsl S → M 229 s = if plc S s < 0 then -5 else plc S s) ∧ ∀ i s : Nat, (opnN S (nsl S).toNat)[i]? = some s → M 231 i = s)
    (hQ : ∀ N, PrI S M N k p 0 → Q none N) : Sp (d + 3) 10 [.inr (.inr 226)] M Q := by
  obtain ⟨hF1, hF2⟩ := hF
  obtain ⟨hO1, hO2, hO3⟩ := hO
  have hkr : -2147483648 ≤ (k : Int) ∧ (k : Int) < 2147483648 := ⟨by omega, by omega⟩
  have hpr : -2147483648 ≤ (p : Int) ∧ (p : Int) < 2147483648 := ⟨by omega, by omega⟩
  have e240 : ∀ r : Nat, 240 + 1 * r = 240 + r := fun r => by omega
  have outer : ∀ r : Nat, r ≤ k → ∀ (N : zM) (w4 w5 w6 w7 : Option zV), PrI S M N k p r →
      RT (Sp (d + 2)) 10 Q 7 [some (.inr (.inr 226)), some (.inr (.inl ((11 : Int) ^ (k - r)))), none, some (.inl (r : Int)), w4, w5, w6, w7] [] N := by
    intro r
    induction r with
    | zero =>
      intro hr N w4 w5 w6 w7 hN
      have z0 : ((0 : Nat) : Int) < 1 := by omega
      have z1 : -2147483648 ≤ ((0 : Nat) : Int) ∧ ((0 : Nat) : Int) < 2147483648 := ⟨by omega, by omega⟩
      rw [e10_7]
      simp only [↓e10, ↓e10_0, ↓e10_1, ↓e10_2, ↓e10_3, ↓e10_6, ↓e10_8, ↓e10_9, ↓e10_12, ↓e10_13, ↓e10_16, ↓e10_19, ↓e10_20, ↓e10_23, ↓e10_24, ↓e10_25, ↓e10_26, ↓e10_27, ↓e10_28, ↓e10_30, ↓e10_31, ↓e10_33, ↓e10_35, ↓e10_36, ↓e10_39, ↓e10_42, ↓e10_43, ↓e10_46, ↓e10_48, ↓e10_49, ↓e10_50, ↓e10_51, ↓e10_53, ↓e10_54, ↓e10_57, ↓e10_58, ↓e10_61, ↓e10_63, ↓e10_64, ↓e10_67, ↓e10_69, ↓e10_70, ↓e10_72, ↓e10_73, ↓e10_76, ↓e10_79, ↓e10_80, ↓e10_81, ↓e10_83, ↓e10_85, ↓e10_88, ↓e10_91, ↓e10_94, ↓e10_96, ↓e10_97, ↓e10_100, ↓e10_101, ↓e10_103, ↓e10_104, ↓e10_105, ↓e10_106, ↓e10_107, ↓e10_108, ↓e10_111, ↓e10_114, ↓e10_115, ↓e10_117, ↓e10_119, ↓e10_120, ↓e10_123, ↓e10_126, ↓e10_127, ↓e10_130, ↓e10_133, ↓e10_134, ↓e10_135, ↓e10_136, ↓e10_139, ↓e10_141, ↓e10_142, ↓e10_145, ↓e10_148, ↓e10_149, ↓e10_150, ↓e10_151, ↓e10_152, ↓e10_155, ↓e10_158, ↓e10_159, ↓e10_162, ↓e10_163, ↓e10_164, ↓e10_167, ↓e10_170, znl_i, znl_r, znl_n, zcs_0, zcs_1, zcs_2, zcs_3, zcat_0, zcat_1, zcat_2, zcat_3, zbl_0, zbl_1, true_and, and_true, ↓zret_some, ↓zret_none, Nat.reduceAdd, Nat.reduceLeDiff, Nat.reduceMul, eq_self, Int.reduceToNat, Int.reduceLE, Int.reduceLT, Int.reduceNeg, and_self, zrg, z0, z1, ↓reduceIte]
      exact hQ N hN
    | succ r ih =>
      intro hr N w4 w5 w6 w7 hN
      obtain ⟨n1, n2, n3⟩ := id hN
      obtain ⟨m, hm⟩ : ∃ m, (folN S 10)[r]? = some m := ⟨_, List.getElem?_eq_getElem (by omega)⟩
      obtain ⟨m1, m2, m3, m4, m5⟩ := fol_mem hW hm
      obtain ⟨cm, hcm⟩ : ∃ cm : Nat, S 1 m = cm := ⟨(S 1 m).toNat, by omega⟩
      have hrr : -2147483648 ≤ ((r + 1 : Nat) : Int) ∧ ((r + 1 : Nat) : Int) < 2147483648 := ⟨by omega, by omega⟩
      have e1 : ¬ ((r + 1 : Nat) : Int) < 1 := by omega
      have hr0 : 0 ≤ ((r + 1 : Nat) : Int) - 1 ∧ ((r + 1 : Nat) : Int) - 1 < 10 := ⟨by omega, by omega⟩
      have e2 : (((r + 1 : Nat) : Int) - 1).toNat = r := by omega
      have hr1 : 0 ≤ ((r + 1 : Nat) : Int) ∧ ((r + 1 : Nat) : Int) < 10 := ⟨by omega, by omega⟩
      have hm0 : 0 ≤ (m : Int) ∧ (m : Int) < 10 := ⟨by omega, by omega⟩
      have hc0 : 0 ≤ (cm : Int) ∧ (cm : Int) < 120 := ⟨by omega, by omega⟩
      have hzr : ∀ i : Int, zin 2 (240 + (r + 1)) i = (0 ≤ i ∧ i < 20) := fun i => zin_of (n := 20) (zkP (by omega))
      have hdig : (11 : Int) ^ (k - (r + 1)) * 11 = (11 : Int) ^ (k - r) := by
        rw [show k - r = (k - (r + 1)) + 1 by omega, Int.pow_succ]
      -- second half of the row
      have in2 : ∀ n c : Nat, c + n = k + 1 → 1 ≤ c → ∀ (N2 : zM) (w6' w7' : Option zV), PrI S M N2 k p (r + 1) → (∀ c' s : Nat, 1 ≤ c' → c' ≤ p → (opnN S (nsl S).toNat)[c' - 1]? = some s → N2 (240 + (r + 1)) c' = prc S k (r + 1) m s) → (∀ c' : Nat, p < c' → c' < p + c → N2 (240 + (r + 1)) c' = 2593742460100 + 10 * (11 : Int) ^ (k - (r + 1))) →
          RT (Sp (d + 2)) 10 Q 117 [some (.inr (.inr 226)), some (.inr (.inl ((11 : Int) ^ (k - (r + 1))))), none, some (.inl ((r + 1 : Nat) : Int)), some (.inl (cm : Int)), some (.inl (c : Int)), w6', w7'] [] N2 := by
        intro n
        induction n with
        | zero =>
          intro c hc hc1 N2 w6' w7' h1 h2 h3
          obtain rfl : c = k + 1 := by omega
          have a1 := h1.1 226 (by omega) (by omega) (by omega) (by omega)
          have a2 : -2147483648 ≤ ((k + 1 : Nat) : Int) ∧ ((k + 1 : Nat) : Int) < 2147483648 := ⟨by omega, by omega⟩
          have a3 : ((k + 1 : Nat) : Int) > k := by omega
          have h9 := ih (by omega) N2 (some (.inl (cm : Int))) (some (.inl ((k + 1 : Nat) : Int))) w6' w7' ⟨h1.1, h1.2.1, fun i m' i1 i2 hi => by
            by_cases z : i = r + 1
            · subst z
              have hmm : m' = m := by
                rw [Nat.add_sub_cancel, hm] at hi
                exact (Option.some.inj hi).symm
              subst hmm
              exact ⟨h2, fun c' c1 c2 => h3 c' c1 (by omega)⟩
            · exact h1.2.2 i m' (by omega) i2 hi⟩
          rw [e10_117]
          simp only [↓e10, ↓e10_0, ↓e10_1, ↓e10_2, ↓e10_3, ↓e10_6, ↓e10_8, ↓e10_9, ↓e10_12, ↓e10_13, ↓e10_16, ↓e10_19, ↓e10_20, ↓e10_23, ↓e10_24, ↓e10_25, ↓e10_26, ↓e10_27, ↓e10_28, ↓e10_30, ↓e10_31, ↓e10_33, ↓e10_35, ↓e10_36, ↓e10_39, ↓e10_42, ↓e10_43, ↓e10_46, ↓e10_48, ↓e10_49, ↓e10_50, ↓e10_51, ↓e10_53, ↓e10_54, ↓e10_57, ↓e10_58, ↓e10_61, ↓e10_63, ↓e10_64, ↓e10_67, ↓e10_69, ↓e10_70, ↓e10_72, ↓e10_73, ↓e10_76, ↓e10_79, ↓e10_80, ↓e10_81, ↓e10_83, ↓e10_85, ↓e10_88, ↓e10_91, ↓e10_94, ↓e10_96, ↓e10_97, ↓e10_100, ↓e10_101, ↓e10_103, ↓e10_104, ↓e10_105, ↓e10_106, ↓e10_107, ↓e10_108, ↓e10_111, ↓e10_114, ↓e10_115, ↓e10_119, ↓e10_120, ↓e10_123, ↓e10_126, ↓e10_127, ↓e10_130, ↓e10_133, ↓e10_134, ↓e10_135, ↓e10_136, ↓e10_139, ↓e10_141, ↓e10_142, ↓e10_145, ↓e10_148, ↓e10_149, ↓e10_150, ↓e10_151, ↓e10_152, ↓e10_155, ↓e10_158, ↓e10_159, ↓e10_162, ↓e10_163, ↓e10_164, ↓e10_167, ↓e10_170, znl_i, znl_r, znl_n, zcs_0, zcs_1, zcs_2, zcs_3, zcat_0, zcat_1, zcat_2, zcat_3, zbl_0, zbl_1, true_and, and_true, ↓zret_some, ↓zret_none, Nat.reduceAdd, Nat.reduceLeDiff, Nat.reduceMul, eq_self, Int.reduceToNat, Int.reduceLE, Int.reduceLT, Int.reduceNeg, and_self, zrg, zkc_0, zin_1, zin_2, zin_3, zin_4, zin_5, zin_6, zin_7, zin_8, zin_9, zaa_9, zkc_10, zin_11, zin_12, zkc_13, zin_14, zin_15, zkc_16, zin_17, zin_18, zkc_19, zin_20, zin_21, zin_22, zin_23, zin_24, zin_25, zin_26, zin_27, zin_28, zaa_28, zkc_29, zin_30, zin_31, zkc_32, zin_33, zin_34, zkc_35, zin_36, zin_37, zkc_38, zin_39, zin_40, zin_41, zin_42, zin_43, zin_44, zin_45, zin_46, zin_47, zaa_47, zkc_48, zin_49, zin_50, zkc_51, zin_52, zin_53, zkc_54, zin_55, zin_56, zkc_209, zkc_210, zin_211, zaa_211, zkc_212, zin_213, zkc_214, zkc_215, zin_216, zin_217, zkc_218, zin_219, zin_220, zin_221, zkc_222, zin_223, zaa_223, zin_224, zin_225, zkc_226, zin_227, zin_228, zin_229, zin_230, zin_231, zin_232, zkc_233, zin_234, zaa_234, zin_235, zin_236, zin_237, zin_238, zin_239, zin_240, zin_241, zin_242, zin_243, zin_244, zin_245, zin_246, zin_247, zin_248, zin_249, zin_250, zkc_251, zin_252, zin_253, zkc_374, zin_375, zin_376, zin_377, zin_378, zin_379, zin_380, zin_381, zin_382, zin_383, zin_384, zin_385, zin_386, zin_387, a1, hF1, hkr, a2, a3, ↓reduceIte, hdig]
          rw [show ((r + 1 : Nat) : Int) + -1 = (r : Int) by omega]
          exact h9
        | succ n ihn =>
          intro c hc hc1 N2 w6' w7' h1 h2 h3
          have a1 := h1.1 226 (by omega) (by omega) (by omega) (by omega)
          have a2 : -2147483648 ≤ (c : Int) ∧ (c : Int) < 2147483648 := ⟨by omega, by omega⟩
          have a3 : ¬ (c : Int) > k := by omega
          have a4 : 0 ≤ (p : Int) + c ∧ (p : Int) + c < 20 := ⟨by omega, by omega⟩
          have a5 : ((p : Int) + c).toNat = p + c := by omega
          have hoth : ∀ b, b ≠ 240 + (r + 1) → zup N2 (240 + (r + 1)) (p + c) (2593742460100 + 10 * (11 : Int) ^ (k - (r + 1))) b = N2 b := fun b hb => zup_ne _ _ _ hb
          have h9 := ihn (c + 1) (by omega) (by omega) (zup N2 (240 + (r + 1)) (p + c) (2593742460100 + 10 * (11 : Int) ^ (k - (r + 1)))) w6' w7' ⟨fun b b1 b2 b3 b4 => by rw [hoth b (by omega)]; exact h1.1 b b1 b2 b3 b4, fun s hs => by
              rw [hoth 224 (by omega), hoth (254 + s) (by omega)]
              exact h1.2.1 s hs, fun i m' i1 i2 hi => by
              rw [hoth (240 + i) (by omega)]
              exact h1.2.2 i m' i1 i2 hi⟩ (fun c' s c1 c2 hs => by
              have : ¬ c' = p + c := by omega
              simp only [zup, this, and_false, if_false]
              exact h2 c' s c1 c2 hs) (fun c' c1 c2 => by
              by_cases z : c' = p + c
              · subst z; simp [zup]
              · simp only [zup, z, and_false, if_false]
                exact h3 c' c1 (by omega))
          rw [e10_117]
          simp only [↓e10, ↓e10_0, ↓e10_1, ↓e10_2, ↓e10_3, ↓e10_6, ↓e10_8, ↓e10_9, ↓e10_12, ↓e10_13, ↓e10_16, ↓e10_19, ↓e10_20, ↓e10_23, ↓e10_24, ↓e10_25, ↓e10_26, ↓e10_27, ↓e10_28, ↓e10_30, ↓e10_31, ↓e10_33, ↓e10_35, ↓e10_36, ↓e10_39, ↓e10_42, ↓e10_43, ↓e10_46, ↓e10_48, ↓e10_49, ↓e10_50, ↓e10_51, ↓e10_53, ↓e10_54, ↓e10_57, ↓e10_58, ↓e10_61, ↓e10_63, ↓e10_64, ↓e10_67, ↓e10_69, ↓e10_70, ↓e10_72, ↓e10_73, ↓e10_76, ↓e10_79, ↓e10_80, ↓e10_81, ↓e10_83, ↓e10_85, ↓e10_88, ↓e10_91, ↓e10_94, ↓e10_96, ↓e10_97, ↓e10_100, ↓e10_101, ↓e10_103, ↓e10_104, ↓e10_105, ↓e10_106, ↓e10_107, ↓e10_108, ↓e10_111, ↓e10_114, ↓e10_115, ↓e10_119, ↓e10_120, ↓e10_123, ↓e10_126, ↓e10_127, ↓e10_130, ↓e10_133, ↓e10_134, ↓e10_135, ↓e10_136, ↓e10_139, ↓e10_141, ↓e10_142, ↓e10_145, ↓e10_148, ↓e10_149, ↓e10_150, ↓e10_151, ↓e10_152, ↓e10_155, ↓e10_158, ↓e10_159, ↓e10_162, ↓e10_163, ↓e10_164, ↓e10_167, ↓e10_170, znl_i, znl_r, znl_n, zcs_0, zcs_1, zcs_2, zcs_3, zcat_0, zcat_1, zcat_2, zcat_3, zbl_0, zbl_1, true_and, and_true, ↓zret_some, ↓zret_none, Nat.reduceAdd, Nat.reduceLeDiff, Nat.reduceMul, eq_self, Int.reduceToNat, Int.reduceLE, Int.reduceLT, Int.reduceNeg, and_self, zrg, zkc_0, zin_1, zin_2, zin_3, zin_4, zin_5, zin_6, zin_7, zin_8, zin_9, zaa_9, zkc_10, zin_11, zin_12, zkc_13, zin_14, zin_15, zkc_16, zin_17, zin_18, zkc_19, zin_20, zin_21, zin_22, zin_23, zin_24, zin_25, zin_26, zin_27, zin_28, zaa_28, zkc_29, zin_30, zin_31, zkc_32, zin_33, zin_34, zkc_35, zin_36, zin_37, zkc_38, zin_39, zin_40, zin_41, zin_42, zin_43, zin_44, zin_45, zin_46, zin_47, zaa_47, zkc_48, zin_49, zin_50, zkc_51, zin_52, zin_53, zkc_54, zin_55, zin_56, zkc_209, zkc_210, zin_211, zaa_211, zkc_212, zin_213, zkc_214, zkc_215, zin_216, zin_217, zkc_218, zin_219, zin_220, zin_221, zkc_222, zin_223, zaa_223, zin_224, zin_225, zkc_226, zin_227, zin_228, zin_229, zin_230, zin_231, zin_232, zkc_233, zin_234, zaa_234, zin_235, zin_236, zin_237, zin_238, zin_239, zin_240, zin_241, zin_242, zin_243, zin_244, zin_245, zin_246, zin_247, zin_248, zin_249, zin_250, zkc_251, zin_252, zin_253, zkc_374, zin_375, zin_376, zin_377, zin_378, zin_379, zin_380, zin_381, zin_382, zin_383, zin_384, zin_385, zin_386, zin_387, a1, hF1, hO1, hkr, a2, a3, a4, a5, hr1, ↓reduceIte, Int.toNat_natCast, e240, hzr]
          rw [show ((c : Int) + 1) = ((c + 1 : Nat) : Int) by omega]
          exact h9
      -- first half of the row
      have in1 : ∀ n c : Nat, c + n = p + 1 → 1 ≤ c → ∀ (N2 : zM) (w6' w7' : Option zV), PrI S M N2 k p (r + 1) → (∀ c' s : Nat, 1 ≤ c' → c' < c → (opnN S (nsl S).toNat)[c' - 1]? = some s → N2 (240 + (r + 1)) c' = prc S k (r + 1) m s) →
          RT (Sp (d + 2)) 10 Q 33 [some (.inr (.inr 226)), some (.inr (.inl ((11 : Int) ^ (k - (r + 1))))), none, some (.inl ((r + 1 : Nat) : Int)), some (.inl (cm : Int)), some (.inl (c : Int)), w6', w7'] [] N2 := by
        intro n
        induction n with
        | zero =>
          intro c hc hc1 N2 w6' w7' h1 h2
          obtain rfl : c = p + 1 := by omega
          have a1 := h1.1 226 (by omega) (by omega) (by omega) (by omega)
          have a2 : -2147483648 ≤ ((p + 1 : Nat) : Int) ∧ ((p + 1 : Nat) : Int) < 2147483648 := ⟨by omega, by omega⟩
          have a3 : ((p + 1 : Nat) : Int) > p := by omega
          have h9 := in2 k 1 (by omega) (by omega) N2 w6' w7' h1 (fun c' s c1 c2 hs => h2 c' s c1 (by omega) hs) (fun c' c1 c2 => by omega)
          rw [e10_33]
          simp only [↓e10, ↓e10_0, ↓e10_1, ↓e10_2, ↓e10_3, ↓e10_6, ↓e10_7, ↓e10_8, ↓e10_9, ↓e10_12, ↓e10_13, ↓e10_16, ↓e10_19, ↓e10_20, ↓e10_23, ↓e10_24, ↓e10_25, ↓e10_26, ↓e10_27, ↓e10_28, ↓e10_30, ↓e10_31, ↓e10_35, ↓e10_36, ↓e10_39, ↓e10_42, ↓e10_43, ↓e10_46, ↓e10_48, ↓e10_49, ↓e10_50, ↓e10_51, ↓e10_53, ↓e10_54, ↓e10_57, ↓e10_58, ↓e10_61, ↓e10_63, ↓e10_64, ↓e10_67, ↓e10_69, ↓e10_70, ↓e10_72, ↓e10_73, ↓e10_76, ↓e10_79, ↓e10_80, ↓e10_81, ↓e10_83, ↓e10_85, ↓e10_88, ↓e10_91, ↓e10_94, ↓e10_96, ↓e10_97, ↓e10_100, ↓e10_101, ↓e10_103, ↓e10_104, ↓e10_105, ↓e10_106, ↓e10_107, ↓e10_108, ↓e10_111, ↓e10_114, ↓e10_115, ↓e10_119, ↓e10_120, ↓e10_123, ↓e10_126, ↓e10_127, ↓e10_130, ↓e10_133, ↓e10_134, ↓e10_135, ↓e10_136, ↓e10_139, ↓e10_141, ↓e10_142, ↓e10_145, ↓e10_148, ↓e10_149, ↓e10_150, ↓e10_151, ↓e10_152, ↓e10_155, ↓e10_158, ↓e10_159, ↓e10_162, ↓e10_163, ↓e10_164, ↓e10_167, ↓e10_170, znl_i, znl_r, znl_n, zcs_0, zcs_1, zcs_2, zcs_3, zcat_0, zcat_1, zcat_2, zcat_3, zbl_0, zbl_1, true_and, and_true, ↓zret_some, ↓zret_none, Nat.reduceAdd, Nat.reduceLeDiff, Nat.reduceMul, eq_self, Int.reduceToNat, Int.reduceLE, Int.reduceLT, Int.reduceNeg, and_self, zrg, zkc_0, zin_1, zin_2, zin_3, zin_4, zin_5, zin_6, zin_7, zin_8, zin_9, zaa_9, zkc_10, zin_11, zin_12, zkc_13, zin_14, zin_15, zkc_16, zin_17, zin_18, zkc_19, zin_20, zin_21, zin_22, zin_23, zin_24, zin_25, zin_26, zin_27, zin_28, zaa_28, zkc_29, zin_30, zin_31, zkc_32, zin_33, zin_34, zkc_35, zin_36, zin_37, zkc_38, zin_39, zin_40, zin_41, zin_42, zin_43, zin_44, zin_45, zin_46, zin_47, zaa_47, zkc_48, zin_49, zin_50, zkc_51, zin_52, zin_53, zkc_54, zin_55, zin_56, zkc_209, zkc_210, zin_211, zaa_211, zkc_212, zin_213, zkc_214, zkc_215, zin_216, zin_217, zkc_218, zin_219, zin_220, zin_221, zkc_222, zin_223, zaa_223, zin_224, zin_225, zkc_226, zin_227, zin_228, zin_229, zin_230, zin_231, zin_232, zkc_233, zin_234, zaa_234, zin_235, zin_236, zin_237, zin_238, zin_239, zin_240, zin_241, zin_242, zin_243, zin_244, zin_245, zin_246, zin_247, zin_248, zin_249, zin_250, zkc_251, zin_252, zin_253, zkc_374, zin_375, zin_376, zin_377, zin_378, zin_379, zin_380, zin_381, zin_382, zin_383, zin_384, zin_385, zin_386, zin_387, a1, hO1, hpr, a2, a3, ↓reduceIte]
          exact h9
        | succ n ihn =>
          intro c hc hc1 N2 w6' w7' h1 h2
          obtain ⟨s, hs⟩ : ∃ s, (opnN S (nsl S).toNat)[c - 1]? = some s := ⟨_, List.getElem?_eq_getElem (by omega)⟩
          obtain ⟨s1, s2, s3, s4, s5⟩ := opn_mem hW hs
          obtain ⟨pl, hpl⟩ : ∃ pl : Nat, plc S s = pl := ⟨(plc S s).toNat, by omega⟩
          have a1 := h1.1 226 (by omega) (by omega) (by omega) (by omega)
          have a229 := h1.1 229 (by omega) (by omega) (by omega) (by omega)
          have a231 := h1.1 231 (by omega) (by omega) (by omega) (by omega)
          have a2 : -2147483648 ≤ (c : Int) ∧ (c : Int) < 2147483648 := ⟨by omega, by omega⟩
          have a3 : ¬ (c : Int) > p := by omega
          have a4 : 0 ≤ (c : Int) - 1 ∧ (c : Int) - 1 < 10 := ⟨by omega, by omega⟩
          have a5 : ((c : Int) - 1).toNat = c - 1 := by omega
          have a6 : 0 ≤ (c : Int) ∧ (c : Int) < 20 := ⟨by omega, by omega⟩
          have a7 := hO3 (c - 1) s hs
          have a8 := hO2 s s1
          rw [if_neg (by omega), hpl] at a8
          have a9 : 0 ≤ (s : Int) ∧ (s : Int) < 10 := ⟨by omega, by omega⟩
          have a10 : -2147483648 ≤ (s : Int) ∧ (s : Int) < 2147483648 := ⟨by omega, by omega⟩
          rw [e10_33]
          simp only [↓e10, ↓e10_0, ↓e10_1, ↓e10_2, ↓e10_3, ↓e10_6, ↓e10_7, ↓e10_8, ↓e10_9, ↓e10_12, ↓e10_13, ↓e10_16, ↓e10_19, ↓e10_20, ↓e10_23, ↓e10_24, ↓e10_25, ↓e10_26, ↓e10_27, ↓e10_28, ↓e10_30, ↓e10_31, ↓e10_35, ↓e10_36, ↓e10_39, ↓e10_42, ↓e10_43, ↓e10_46, ↓e10_48, ↓e10_49, ↓e10_50, ↓e10_51, ↓e10_53, ↓e10_54, ↓e10_57, ↓e10_58, ↓e10_61, ↓e10_63, ↓e10_64, ↓e10_69, ↓e10_70, ↓e10_72, ↓e10_73, ↓e10_76, ↓e10_79, ↓e10_80, ↓e10_81, ↓e10_83, ↓e10_85, ↓e10_88, ↓e10_91, ↓e10_94, ↓e10_96, ↓e10_97, ↓e10_100, ↓e10_101, ↓e10_103, ↓e10_104, ↓e10_105, ↓e10_106, ↓e10_107, ↓e10_108, ↓e10_111, ↓e10_114, ↓e10_115, ↓e10_119, ↓e10_120, ↓e10_123, ↓e10_126, ↓e10_127, ↓e10_130, ↓e10_133, ↓e10_134, ↓e10_135, ↓e10_136, ↓e10_139, ↓e10_141, ↓e10_142, ↓e10_145, ↓e10_148, ↓e10_149, ↓e10_150, ↓e10_151, ↓e10_152, ↓e10_155, ↓e10_158, ↓e10_159, ↓e10_162, ↓e10_163, ↓e10_164, ↓e10_167, ↓e10_170, znl_i, znl_r, znl_n, zcs_0, zcs_1, zcs_2, zcs_3, zcat_0, zcat_1, zcat_2, zcat_3, zbl_0, zbl_1, true_and, and_true, ↓zret_some, ↓zret_none, Nat.reduceAdd, Nat.reduceLeDiff, Nat.reduceMul, eq_self, Int.reduceToNat, Int.reduceLE, Int.reduceLT, Int.reduceNeg, and_self, zrg, zkc_0, zin_1, zin_2, zin_3, zin_4, zin_5, zin_6, zin_7, zin_8, zin_9, zaa_9, zkc_10, zin_11, zin_12, zkc_13, zin_14, zin_15, zkc_16, zin_17, zin_18, zkc_19, zin_20, zin_21, zin_22, zin_23, zin_24, zin_25, zin_26, zin_27, zin_28, zaa_28, zkc_29, zin_30, zin_31, zkc_32, zin_33, zin_34, zkc_35, zin_36, zin_37, zkc_38, zin_39, zin_40, zin_41, zin_42, zin_43, zin_44, zin_45, zin_46, zin_47, zaa_47, zkc_48, zin_49, zin_50, zkc_51, zin_52, zin_53, zkc_54, zin_55, zin_56, zkc_209, zkc_210, zin_211, zaa_211, zkc_212, zin_213, zkc_214, zkc_215, zin_216, zin_217, zkc_218, zin_219, zin_220, zin_221, zkc_222, zin_223, zaa_223, zin_224, zin_225, zkc_226, zin_227, zin_228, zin_229, zin_230, zin_231, zin_232, zkc_233, zin_234, zaa_234, zin_235, zin_236, zin_237, zin_238, zin_239, zin_240, zin_241, zin_242, zin_243, zin_244, zin_245, zin_246, zin_247, zin_248, zin_249, zin_250, zkc_251, zin_252, zin_253, zkc_374, zin_375, zin_376, zin_377, zin_378, zin_379, zin_380, zin_381, zin_382, zin_383, zin_384, zin_385, zin_386, zin_387, a1, a229, a231, hO1, hpr, a2, a3, a4, a5, a7, a8, a9, ↓reduceIte, Int.toNat_natCast]
          refine s_from d _ N2 (S 0) pl (by omega) (Hw_of (RelC_congr (fun b hb => h1.1 b (by omega) (by omega) (by omega) (by omega)) hR) hW) h1.2.1 (fun N3 v1 v2 v3 => ?_)
          have b1 : N3 234 = N2 234 := v3 _ (by omega) (by omega) (by omega)
          have hdv : N3 (254 + pl) cm = dd (S 0) pl cm := v2 cm (by omega)
          have hdm : dst (S 0) pl cm = dm S m s := by unfold dm; rw [hpl, hcm]; simp
          have hzD : ∀ i : Int, zin 0 (254 + pl) i = (0 ≤ i ∧ i < 120) := fun i => zin_of (n := 120) (zkD (by omega))
          have hdb := dst_rng (S 0) pl cm
          have hdl := dst_lt (w := S 0) (a := pl) (c := cm) (by omega)
          have hddr : -2147483648 ≤ dd (S 0) pl cm ∧ dd (S 0) pl cm < 2147483648 := by unfold dd; constructor <;> split <;> omega
          have cont : ∀ v : Int, v = prc S k (r + 1) m s → ∀ w7'' : Option zV, RT (Sp (d + 2)) 10 Q 108 [some (.inr (.inr 226)), some (.inr (.inl ((11 : Int) ^ (k - (r + 1))))), none, some (.inl ((r + 1 : Nat) : Int)), some (.inl (cm : Int)), some (.inl (c : Int)), some (.inl (s : Int)), w7''] [] (zup N3 (240 + (r + 1)) c v) := by
            intro v hv w7''
            have hoth : ∀ b, b ≠ 240 + (r + 1) → zup N3 (240 + (r + 1)) c v b = N3 b := fun b hb => zup_ne _ _ _ hb
            have hN3 : ∀ i : Nat, 1 ≤ i → i < 10 → N3 (240 + i) = N2 (240 + i) := fun i i1 i2 => v3 _ (by omega) (by omega) (by omega)
            have h9 := ihn (c + 1) (by omega) (by omega) (zup N3 (240 + (r + 1)) c v) (some (.inl (s : Int))) w7'' ⟨fun b b1 b2 b3 b4 => by rw [hoth b (by omega), v3 b b1 b2 b3]; exact h1.1 b b1 b2 b3 b4, fun x hx => by
                rw [hoth 224 (by omega), hoth (254 + x) (by omega)]
                exact v1 x hx, fun i m' i1 i2 hi => by
                rw [hoth (240 + i) (by omega), hN3 i (by omega) (by omega)]
                exact h1.2.2 i m' i1 i2 hi⟩ (fun c' s' c1 c2 hs' => by
                by_cases z : c' = c
                · subst z
                  have : s' = s := by rw [hs] at hs'; exact (Option.some.inj hs').symm
                  subst this
                  simp [zup, hv]
                · simp only [zup, z, and_false, if_false]
                  rw [hN3 (r + 1) (by omega) (by omega)]
                  exact h2 c' s' c1 (by omega) hs')
            simp only [↓e10, ↓e10_0, ↓e10_1, ↓e10_2, ↓e10_3, ↓e10_6, ↓e10_7, ↓e10_8, ↓e10_9, ↓e10_12, ↓e10_13, ↓e10_16, ↓e10_19, ↓e10_20, ↓e10_23, ↓e10_24, ↓e10_25, ↓e10_26, ↓e10_27, ↓e10_28, ↓e10_30, ↓e10_31, ↓e10_35, ↓e10_36, ↓e10_39, ↓e10_42, ↓e10_43, ↓e10_46, ↓e10_48, ↓e10_49, ↓e10_50, ↓e10_51, ↓e10_53, ↓e10_54, ↓e10_57, ↓e10_58, ↓e10_61, ↓e10_63, ↓e10_64, ↓e10_67, ↓e10_69, ↓e10_70, ↓e10_72, ↓e10_73, ↓e10_76, ↓e10_79, ↓e10_80, ↓e10_81, ↓e10_83, ↓e10_85, ↓e10_88, ↓e10_91, ↓e10_94, ↓e10_96, ↓e10_97, ↓e10_100, ↓e10_101, ↓e10_103, ↓e10_104, ↓e10_105, ↓e10_106, ↓e10_107, ↓e10_108, ↓e10_111, ↓e10_114, ↓e10_115, ↓e10_117, ↓e10_119, ↓e10_120, ↓e10_123, ↓e10_126, ↓e10_127, ↓e10_130, ↓e10_133, ↓e10_134, ↓e10_135, ↓e10_136, ↓e10_139, ↓e10_141, ↓e10_142, ↓e10_145, ↓e10_148, ↓e10_149, ↓e10_150, ↓e10_151, ↓e10_152, ↓e10_155, ↓e10_158, ↓e10_159, ↓e10_162, ↓e10_163, ↓e10_164, ↓e10_167, ↓e10_170, znl_i, znl_r, znl_n, zcs_0, zcs_1, zcs_2, zcs_3, zcat_0, zcat_1, zcat_2, zcat_3, zbl_0, zbl_1, true_and, and_true, ↓zret_some, ↓zret_none, Nat.reduceAdd, Nat.reduceLeDiff, Nat.reduceMul, eq_self, Int.reduceToNat, Int.reduceLE, Int.reduceLT, Int.reduceNeg, and_self]
            rw [show ((c : Int) + 1) = ((c + 1 : Nat) : Int) by omega]
            exact h9
          rw [zret_some]
          simp only [↓e10, ↓e10_0, ↓e10_1, ↓e10_2, ↓e10_3, ↓e10_6, ↓e10_7, ↓e10_8, ↓e10_9, ↓e10_12, ↓e10_13, ↓e10_16, ↓e10_19, ↓e10_20, ↓e10_23, ↓e10_24, ↓e10_25, ↓e10_26, ↓e10_27, ↓e10_28, ↓e10_30, ↓e10_31, ↓e10_35, ↓e10_36, ↓e10_39, ↓e10_42, ↓e10_43, ↓e10_46, ↓e10_48, ↓e10_49, ↓e10_50, ↓e10_51, ↓e10_53, ↓e10_54, ↓e10_57, ↓e10_58, ↓e10_61, ↓e10_63, ↓e10_64, ↓e10_67, ↓e10_69, ↓e10_70, ↓e10_72, ↓e10_73, ↓e10_76, ↓e10_79, ↓e10_80, ↓e10_81, ↓e10_83, ↓e10_85, ↓e10_88, ↓e10_91, ↓e10_94, ↓e10_96, ↓e10_97, ↓e10_100, ↓e10_101, ↓e10_103, ↓e10_104, ↓e10_105, ↓e10_106, ↓e10_107, ↓e10_111, ↓e10_114, ↓e10_115, ↓e10_119, ↓e10_120, ↓e10_123, ↓e10_126, ↓e10_127, ↓e10_130, ↓e10_133, ↓e10_134, ↓e10_135, ↓e10_136, ↓e10_139, ↓e10_141, ↓e10_142, ↓e10_145, ↓e10_148, ↓e10_149, ↓e10_150, ↓e10_151, ↓e10_152, ↓e10_155, ↓e10_158, ↓e10_159, ↓e10_162, ↓e10_163, ↓e10_164, ↓e10_167, ↓e10_170, znl_i, znl_r, znl_n, zcs_0, zcs_1, zcs_2, zcs_3, zcat_0, zcat_1, zcat_2, zcat_3, zbl_0, zbl_1, true_and, and_true, ↓zret_some, ↓zret_none, Nat.reduceAdd, Nat.reduceLeDiff, Nat.reduceMul, eq_self, Int.reduceToNat, Int.reduceLE, Int.reduceLT, Int.reduceNeg, and_self, zrg, zkc_0, zin_1, zin_2, zin_3, zin_4, zin_5, zin_6, zin_7, zin_8, zin_9, zaa_9, zkc_10, zin_11, zin_12, zkc_13, zin_14, zin_15, zkc_16, zin_17, zin_18, zkc_19, zin_20, zin_21, zin_22, zin_23, zin_24, zin_25, zin_26, zin_27, zin_28, zaa_28, zkc_29, zin_30, zin_31, zkc_32, zin_33, zin_34, zkc_35, zin_36, zin_37, zkc_38, zin_39, zin_40, zin_41, zin_42, zin_43, zin_44, zin_45, zin_46, zin_47, zaa_47, zkc_48, zin_49, zin_50, zkc_51, zin_52, zin_53, zkc_54, zin_55, zin_56, zkc_209, zkc_210, zin_211, zaa_211, zkc_212, zin_213, zkc_214, zkc_215, zin_216, zin_217, zkc_218, zin_219, zin_220, zin_221, zkc_222, zin_223, zaa_223, zin_224, zin_225, zkc_226, zin_227, zin_228, zin_229, zin_230, zin_231, zin_232, zkc_233, zin_234, zaa_234, zin_235, zin_236, zin_237, zin_238, zin_239, zin_240, zin_241, zin_242, zin_243, zin_244, zin_245, zin_246, zin_247, zin_248, zin_249, zin_250, zkc_251, zin_252, zin_253, zkc_374, zin_375, zin_376, zin_377, zin_378, zin_379, zin_380, zin_381, zin_382, zin_383, zin_384, zin_385, zin_386, zin_387, hc0, hzD, hdv, hddr, a10, hr1, a6, ↓reduceIte, Int.toNat_natCast, e240, hzr]
          by_cases hneg : dst (S 0) pl cm = -1
          · have hd5 : dd (S 0) pl cm = -5 := by unfold dd; rw [if_pos hneg]
            rw [hd5, if_neg (by omega)]
            refine cont _ ?_ _
            unfold prc
            rw [if_pos (by omega)]
          · have hd5 : dd (S 0) pl cm = dm S m s := by unfold dd; rw [if_neg hneg]; exact hdm
            rw [hd5, if_pos (by omega)]
            refine cont _ ?_ _
            unfold prc
            rw [if_neg (by omega)]
      have h9 := in1 p 1 (by omega) (by omega) N w6 w7 hN (fun c' s c1 c2 => by omega)
      have a230 := n1 230 (by omega) (by omega) (by omega) (by omega)
      have aF := hF2 r m hm
      have aC := (RelC_congr (fun b hb => n1 b (by omega) (by omega) (by omega) (by omega)) hR).2.1 m m1
      simp only [Nat.zero_add] at aC
      rw [if_neg (by omega), hcm] at aC
      rw [e10_7]
      simp only [↓e10, ↓e10_0, ↓e10_1, ↓e10_2, ↓e10_3, ↓e10_6, ↓e10_8, ↓e10_9, ↓e10_12, ↓e10_13, ↓e10_16, ↓e10_19, ↓e10_20, ↓e10_23, ↓e10_24, ↓e10_25, ↓e10_26, ↓e10_27, ↓e10_28, ↓e10_30, ↓e10_31, ↓e10_35, ↓e10_36, ↓e10_39, ↓e10_42, ↓e10_43, ↓e10_46, ↓e10_48, ↓e10_49, ↓e10_50, ↓e10_51, ↓e10_53, ↓e10_54, ↓e10_57, ↓e10_58, ↓e10_61, ↓e10_63, ↓e10_64, ↓e10_67, ↓e10_69, ↓e10_70, ↓e10_72, ↓e10_73, ↓e10_76, ↓e10_79, ↓e10_80, ↓e10_81, ↓e10_83, ↓e10_85, ↓e10_88, ↓e10_91, ↓e10_94, ↓e10_96, ↓e10_97, ↓e10_100, ↓e10_101, ↓e10_103, ↓e10_104, ↓e10_105, ↓e10_106, ↓e10_107, ↓e10_108, ↓e10_111, ↓e10_114, ↓e10_115, ↓e10_117, ↓e10_119, ↓e10_120, ↓e10_123, ↓e10_126, ↓e10_127, ↓e10_130, ↓e10_133, ↓e10_134, ↓e10_135, ↓e10_136, ↓e10_139, ↓e10_141, ↓e10_142, ↓e10_145, ↓e10_148, ↓e10_149, ↓e10_150, ↓e10_151, ↓e10_152, ↓e10_155, ↓e10_158, ↓e10_159, ↓e10_162, ↓e10_163, ↓e10_164, ↓e10_167, ↓e10_170, znl_i, znl_r, znl_n, zcs_0, zcs_1, zcs_2, zcs_3, zcat_0, zcat_1, zcat_2, zcat_3, zbl_0, zbl_1, true_and, and_true, ↓zret_some, ↓zret_none, Nat.reduceAdd, Nat.reduceLeDiff, Nat.reduceMul, eq_self, Int.reduceToNat, Int.reduceLE, Int.reduceLT, Int.reduceNeg, and_self, zrg, zkc_0, zin_1, zin_2, zin_3, zin_4, zin_5, zin_6, zin_7, zin_8, zin_9, zaa_9, zkc_10, zin_11, zin_12, zkc_13, zin_14, zin_15, zkc_16, zin_17, zin_18, zkc_19, zin_20, zin_21, zin_22, zin_23, zin_24, zin_25, zin_26, zin_27, zin_28, zaa_28, zkc_29, zin_30, zin_31, zkc_32, zin_33, zin_34, zkc_35, zin_36, zin_37, zkc_38, zin_39, zin_40, zin_41, zin_42, zin_43, zin_44, zin_45, zin_46, zin_47, zaa_47, zkc_48, zin_49, zin_50, zkc_51, zin_52, zin_53, zkc_54, zin_55, zin_56, zkc_209, zkc_210, zin_211, zaa_211, zkc_212, zin_213, zkc_214, zkc_215, zin_216, zin_217, zkc_218, zin_219, zin_220, zin_221, zkc_222, zin_223, zaa_223, zin_224, zin_225, zkc_226, zin_227, zin_228, zin_229, zin_230, zin_231, zin_232, zkc_233, zin_234, zaa_234, zin_235, zin_236, zin_237, zin_238, zin_239, zin_240, zin_241, zin_242, zin_243, zin_244, zin_245, zin_246, zin_247, zin_248, zin_249, zin_250, zkc_251, zin_252, zin_253, zkc_374, zin_375, zin_376, zin_377, zin_378, zin_379, zin_380, zin_381, zin_382, zin_383, zin_384, zin_385, zin_386, zin_387, hrr, e1, hr0, e2, a230, aF, hm0, aC, ↓reduceIte, Int.toNat_natCast]
      exact h9
  have h9 := outer k (Nat.le_refl k) M none none none none ⟨fun _ _ _ _ _ => rfl, hV, fun i m i1 i2 => by omega⟩
  rw [Nat.sub_self] at h9
  simp only [↓e10, ↓e10_0, ↓e10_1, ↓e10_2, ↓e10_3, ↓e10_6, ↓e10_8, ↓e10_9, ↓e10_12, ↓e10_13, ↓e10_16, ↓e10_19, ↓e10_20, ↓e10_23, ↓e10_24, ↓e10_25, ↓e10_26, ↓e10_27, ↓e10_28, ↓e10_30, ↓e10_31, ↓e10_33, ↓e10_35, ↓e10_36, ↓e10_39, ↓e10_42, ↓e10_43, ↓e10_46, ↓e10_48, ↓e10_49, ↓e10_50, ↓e10_51, ↓e10_53, ↓e10_54, ↓e10_57, ↓e10_58, ↓e10_61, ↓e10_63, ↓e10_64, ↓e10_67, ↓e10_69, ↓e10_70, ↓e10_72, ↓e10_73, ↓e10_76, ↓e10_79, ↓e10_80, ↓e10_81, ↓e10_83, ↓e10_85, ↓e10_88, ↓e10_91, ↓e10_94, ↓e10_96, ↓e10_97, ↓e10_100, ↓e10_101, ↓e10_103, ↓e10_104, ↓e10_105, ↓e10_106, ↓e10_107, ↓e10_108, ↓e10_111, ↓e10_114, ↓e10_115, ↓e10_117, ↓e10_119, ↓e10_120, ↓e10_123, ↓e10_126, ↓e10_127, ↓e10_130, ↓e10_133, ↓e10_134, ↓e10_135, ↓e10_136, ↓e10_139, ↓e10_141, ↓e10_142, ↓e10_145, ↓e10_148, ↓e10_149, ↓e10_150, ↓e10_151, ↓e10_152, ↓e10_155, ↓e10_158, ↓e10_159, ↓e10_162, ↓e10_163, ↓e10_164, ↓e10_167, ↓e10_170, znl_i, znl_r, znl_n, zcs_0, zcs_1, zcs_2, zcs_3, zcat_0, zcat_1, zcat_2, zcat_3, zbl_0, zbl_1, true_and, and_true, ↓zret_some, ↓zret_none, Nat.reduceAdd, Nat.reduceLeDiff, Nat.reduceMul, eq_self, Int.reduceToNat, Int.reduceLE, Int.reduceLT, Int.reduceNeg, and_self, zkc_0, zin_1, zin_2, zin_3, zin_4, zin_5, zin_6, zin_7, zin_8, zin_9, zaa_9, zkc_10, zin_11, zin_12, zkc_13, zin_14, zin_15, zkc_16, zin_17, zin_18, zkc_19, zin_20, zin_21, zin_22, zin_23, zin_24, zin_25, zin_26, zin_27, zin_28, zaa_28, zkc_29, zin_30, zin_31, zkc_32, zin_33, zin_34, zkc_35, zin_36, zin_37, zkc_38, zin_39, zin_40, zin_41, zin_42, zin_43, zin_44, zin_45, zin_46, zin_47, zaa_47, zkc_48, zin_49, zin_50, zkc_51, zin_52, zin_53, zkc_54, zin_55, zin_56, zkc_209, zkc_210, zin_211, zaa_211, zkc_212, zin_213, zkc_214, zkc_215, zin_216, zin_217, zkc_218, zin_219, zin_220, zin_221, zkc_222, zin_223, zaa_223, zin_224, zin_225, zkc_226, zin_227, zin_228, zin_229, zin_230, zin_231, zin_232, zkc_233, zin_234, zaa_234, zin_235, zin_236, zin_237, zin_238, zin_239, zin_240, zin_241, zin_242, zin_243, zin_244, zin_245, zin_246, zin_247, zin_248, zin_249, zin_250, zkc_251, zin_252, zin_253, zkc_374, zin_375, zin_376, zin_377, zin_378, zin_379, zin_380, zin_381, zin_382, zin_383, zin_384, zin_385, zin_386, zin_387, hF1]
  exact h9
