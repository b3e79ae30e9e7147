/-! ### Match.reachNext: one step of the search for a column -/
def rst (M : zM) (row c : Nat) : Int := M (240 + row) c - M 236 row - M 237 c
def sl1 (M : zM) (row c : Nat) : Int := if rst M row c < M 238 c then rst M row c else M 238 c
/-- the first loop's outcome up to column e -/
def R1 (M N : zM) (row n j e : Nat) (near : Nat) (least : Int) : Prop :=
  (∀ b, b ≠ 238 → b ≠ 239 → N b = M b) ∧
  (∀ c : Nat, N 238 c = if 1 ≤ c ∧ c < e ∧ M 250 c = 0 then sl1 M row c else M 238 c) ∧
  (∀ c : Nat, N 239 c = if 1 ≤ c ∧ c < e ∧ M 250 c = 0 ∧ rst M row c < M 238 c then (j : Int) else M 239 c) ∧
  ((near = 0 ∧ least = 1152921504606846976 ∧ ∀ c : Nat, 1 ≤ c → c < e → M 250 c ≠ 0) ∨
   (1 ≤ near ∧ near < e ∧ M 250 near = 0 ∧ least = sl1 M row near ∧ ∀ c : Nat, 1 ≤ c → c < e → M 250 c = 0 → least ≤ sl1 M row c))
/-- the second loop's outcome up to column e -/
def R2 (M N : zM) (least : Int) (e : Nat) : Prop :=
  (∀ b, b ≠ 236 → b ≠ 237 → b ≠ 238 → N b = M b) ∧
  (∀ i : Nat, (∃ c : Nat, c < e ∧ M 250 c = 1 ∧ M 235 c = i) → N 236 i = M 236 i + least) ∧
  (∀ i : Nat, (¬ ∃ c : Nat, c < e ∧ M 250 c = 1 ∧ M 235 c = i) → N 236 i = M 236 i) ∧
  (∀ c : Nat, N 237 c = if c < e ∧ M 250 c = 1 then M 237 c - least else M 237 c) ∧
  (∀ c : Nat, N 238 c = if c < e ∧ M 250 c = 0 then M 238 c - least else M 238 c)
theorem zkP {i : Nat} (hi : i < 10) : zk (240 + i) = (2, 20, []) := by
  rcases (show i = 0 ∨ i = 1 ∨ i = 2 ∨ i = 3 ∨ i = 4 ∨ i = 5 ∨ i = 6 ∨ i = 7 ∨ i = 8 ∨ i = 9 by omega) with rfl | rfl | rfl | rfl | rfl | rfl | rfl | rfl | rfl | rfl <;> decide +kernel
theorem s_reach (d : Nat) (Q : zQ) (M : zM) (j n row : Nat) (hj : j ≤ n) (hn : n < 20) (hrow : M 235 j = row) (hr1 : 1 ≤ row) (hr2 : row < 10)
    (hrc : ∀ c : Nat, c ≤ n → M 250 c = 0 ∨ M 250 c = 1)
    (hp : ∀ c : Nat, c ≤ n → M 250 c = 1 → 1 ≤ M 235 c ∧ M 235 c < 10)
    (hinj : ∀ c e : Nat, c ≤ n → e ≤ n → M 250 c = 1 → M 250 e = 1 → M 235 c = M 235 e → c = e)
    (hb : ∀ c : Nat, 1 ≤ c → c ≤ n → M 250 c = 0 → 0 ≤ rst M row c ∧ rst M row c < 1152921504606846976 ∧ 0 ≤ M 238 c ∧ M 238 c ≤ 1152921504606846976)
    (hfree : ∃ c : Nat, 1 ≤ c ∧ c ≤ n ∧ M 250 c = 0)
    (hQ : ∀ (N N2 : zM) (x : Nat) (least : Int), R1 M N row n j (n + 1) x least → 1 ≤ x → x ≤ n → M 250 x = 0 → least = sl1 M row x → (∀ c : Nat, 1 ≤ c → c ≤ n → M 250 c = 0 → least ≤ sl1 M row c) → R2 N N2 least (n + 1) → Q (some (.inl (x : Int))) N2) :
    Sp (d + 1) 16 [.inr (.inr 233), .inl (j : Int), .inl (n : Int)] M Q := by
  have hj0 : 0 ≤ (j : Int) ∧ (j : Int) < 20 := ⟨by omega, by omega⟩
  have hrow0 : 0 ≤ (row : Int) ∧ (row : Int) < 10 := ⟨by omega, by omega⟩
  have hnr : -2147483648 ≤ (n : Int) ∧ (n : Int) < 2147483648 := ⟨by omega, by omega⟩
  have hzP : ∀ i : Int, zin 2 (240 + row) i = (0 ≤ i ∧ i < 20) := fun i => zin_of (n := 20) (zkP hr2)
  -- second loop
  have loop2 : ∀ m e : Nat, e + m = n + 1 → ∀ (N N2 : zM) (x : Nat) (least : Int) (w8 w9 : Option zV), R1 M N row n j (n + 1) x least → 1 ≤ x → x ≤ n → M 250 x = 0 → least = sl1 M row x → (∀ c : Nat, 1 ≤ c → c ≤ n → M 250 c = 0 → least ≤ sl1 M row c) → R2 N N2 least e →
      RT (Sp d) 16 Q 125 [some (.inr (.inr 233)), some (.inl (j : Int)), some (.inl (n : Int)), some (.inl (row : Int)), some (.inl (x : Int)), some (.inr (.inl least)), none, some (.inl (e : Int)), w8, w9] [] N2 := by
    intro m
    induction m with
    | zero =>
      intro e he N N2 x least w8 w9 h1 h2 h3 h4 h5 h6 h7
      obtain rfl : e = n + 1 := by omega
      have e1 : ((n + 1 : Nat) : Int) > n := by omega
      have e2 : -2147483648 ≤ ((n + 1 : Nat) : Int) ∧ ((n + 1 : Nat) : Int) < 2147483648 := ⟨by omega, by omega⟩
      rw [e16_125]
      simp only [↓e16, ↓e16_0, ↓e16_1, ↓e16_4, ↓e16_5, ↓e16_6, ↓e16_7, ↓e16_8, ↓e16_10, ↓e16_13, ↓e16_15, ↓e16_16, ↓e16_18, ↓e16_20, ↓e16_21, ↓e16_24, ↓e16_25, ↓e16_28, ↓e16_30, ↓e16_31, ↓e16_34, ↓e16_35, ↓e16_38, ↓e16_39, ↓e16_40, ↓e16_42, ↓e16_43, ↓e16_44, ↓e16_47, ↓e16_48, ↓e16_49, ↓e16_50, ↓e16_51, ↓e16_54, ↓e16_56, ↓e16_57, ↓e16_58, ↓e16_60, ↓e16_62, ↓e16_63, ↓e16_66, ↓e16_68, ↓e16_69, ↓e16_70, ↓e16_73, ↓e16_74, ↓e16_77, ↓e16_79, ↓e16_81, ↓e16_82, ↓e16_83, ↓e16_86, ↓e16_88, ↓e16_89, ↓e16_90, ↓e16_91, ↓e16_94, ↓e16_96, ↓e16_97, ↓e16_99, ↓e16_100, ↓e16_103, ↓e16_104, ↓e16_107, ↓e16_109, ↓e16_110, ↓e16_112, ↓e16_114, ↓e16_116, ↓e16_119, ↓e16_122, ↓e16_123, ↓e16_127, ↓e16_128, ↓e16_131, ↓e16_132, ↓e16_135, ↓e16_137, ↓e16_138, ↓e16_141, ↓e16_142, ↓e16_145, ↓e16_146, ↓e16_149, ↓e16_151, ↓e16_152, ↓e16_153, ↓e16_154, ↓e16_156, ↓e16_157, ↓e16_158, ↓e16_159, ↓e16_162, ↓e16_164, ↓e16_165, ↓e16_166, ↓e16_168, ↓e16_169, ↓e16_170, ↓e16_173, ↓e16_174, ↓e16_177, ↓e16_179, ↓e16_180, ↓e16_181, ↓e16_183, ↓e16_184, ↓e16_185, ↓e16_188, ↓e16_191, ↓e16_193, znl_i, znl_r, znl_n, zcs_0, zcs_1, zcs_2, zcs_3, zcat_0, zcat_1, zcat_2, zcat_3, zbl_0, zbl_1, true_and, and_true, ↓zret_some, ↓zret_none, Nat.reduceAdd, Nat.reduceLeDiff, Nat.reduceMul, eq_self, Int.reduceToNat, zrg, hnr, e1, e2, ↓reduceIte]
      exact hQ N N2 x least h1 h2 h3 h4 h5 h6 h7
    | succ m ih =>
      intro e he N N2 x least w8 w9 h1 h2 h3 h4 h5 h6 h7
      have e1 : ¬ (e : Int) > n := by omega
      have e2 : -2147483648 ≤ (e : Int) ∧ (e : Int) < 2147483648 := ⟨by omega, by omega⟩
      have e3 : 0 ≤ (e : Int) ∧ (e : Int) < 20 := ⟨by omega, by omega⟩
      have hN250 : N2 250 = M 250 := (h7.1 250 (by omega) (by omega) (by omega)).trans (h1.1 250 (by omega) (by omega))
      have hN235 : N2 235 = M 235 := (h7.1 235 (by omega) (by omega) (by omega)).trans (h1.1 235 (by omega) (by omega))
      have hN0 : N 250 = M 250 := h1.1 250 (by omega) (by omega)
      have hN1 : N 235 = M 235 := h1.1 235 (by omega) (by omega)
      have join : ∀ (N3 : zM), R2 N N3 least (e + 1) → RT (Sp d) 16 Q 185 [some (.inr (.inr 233)), some (.inl (j : Int)), some (.inl (n : Int)), some (.inl (row : Int)), some (.inl (x : Int)), some (.inr (.inl least)), none, some (.inl (e : Int)), w8, w9] [] N3 := by
        intro N3 hR
        have h9 := ih (e + 1) (by omega) N N3 x least w8 w9 h1 h2 h3 h4 h5 h6 hR
        simp only [↓e16, ↓e16_0, ↓e16_1, ↓e16_4, ↓e16_5, ↓e16_6, ↓e16_7, ↓e16_8, ↓e16_10, ↓e16_13, ↓e16_15, ↓e16_16, ↓e16_18, ↓e16_20, ↓e16_21, ↓e16_24, ↓e16_25, ↓e16_28, ↓e16_30, ↓e16_31, ↓e16_34, ↓e16_35, ↓e16_38, ↓e16_39, ↓e16_40, ↓e16_42, ↓e16_43, ↓e16_44, ↓e16_47, ↓e16_48, ↓e16_49, ↓e16_50, ↓e16_51, ↓e16_54, ↓e16_56, ↓e16_57, ↓e16_58, ↓e16_60, ↓e16_62, ↓e16_63, ↓e16_66, ↓e16_68, ↓e16_69, ↓e16_70, ↓e16_73, ↓e16_74, ↓e16_77, ↓e16_79, ↓e16_81, ↓e16_82, ↓e16_83, ↓e16_86, ↓e16_88, ↓e16_89, ↓e16_90, ↓e16_91, ↓e16_94, ↓e16_96, ↓e16_97, ↓e16_99, ↓e16_100, ↓e16_103, ↓e16_104, ↓e16_107, ↓e16_109, ↓e16_110, ↓e16_112, ↓e16_114, ↓e16_116, ↓e16_119, ↓e16_122, ↓e16_123, ↓e16_127, ↓e16_128, ↓e16_131, ↓e16_132, ↓e16_135, ↓e16_137, ↓e16_138, ↓e16_141, ↓e16_142, ↓e16_145, ↓e16_146, ↓e16_149, ↓e16_151, ↓e16_152, ↓e16_153, ↓e16_154, ↓e16_156, ↓e16_157, ↓e16_158, ↓e16_159, ↓e16_162, ↓e16_164, ↓e16_165, ↓e16_166, ↓e16_168, ↓e16_169, ↓e16_170, ↓e16_173, ↓e16_174, ↓e16_177, ↓e16_179, ↓e16_180, ↓e16_181, ↓e16_183, ↓e16_184, ↓e16_185, ↓e16_188, ↓e16_191, ↓e16_193, znl_i, znl_r, znl_n, zcs_0, zcs_1, zcs_2, zcs_3, zcat_0, zcat_1, zcat_2, zcat_3, zbl_0, zbl_1, true_and, and_true, ↓zret_some, ↓zret_none, Nat.reduceAdd, Nat.reduceLeDiff, Nat.reduceMul, eq_self, Int.reduceToNat]
        exact h9
      rcases hrc e (by omega) with q | q
      · have h9 := join (zup N2 238 e (N2 238 e - least)) (by
          obtain ⟨a1, a2, a3, a4, a5⟩ := h7
          refine ⟨fun b b1 b2 b3 => by rw [zup_ne _ _ _ b3]; exact a1 b b1 b2 b3, fun i hi => ?_, fun i hi => ?_, fun c => ?_, fun c => ?_⟩
          · rw [zup_ne _ _ _ (by omega)]
            refine a2 i ?_
            obtain ⟨c, c1, c2, c3⟩ := hi
            exact ⟨c, by rcases Nat.lt_or_ge c e with z | z; exact z; exfalso; have : c = e := (by omega); subst this; rw [hN0] at c2; omega, c2, c3⟩
          · rw [zup_ne _ _ _ (by omega)]
            exact a3 i (fun ⟨c, c1, c2, c3⟩ => hi ⟨c, by omega, c2, c3⟩)
          · rw [zup_ne _ _ _ (by omega), a4 c]
            by_cases z : c = e
            · subst z
              rw [if_neg (by omega), if_neg (fun w => by have := w.2; rw [hN0] at this; omega)]
            · by_cases y : c < e ∧ N 250 c = 1
              · rw [if_pos y, if_pos ⟨by omega, y.2⟩]
              · rw [if_neg y, if_neg (fun w => y ⟨by omega, w.2⟩)]
          · by_cases z : c = e
            · subst z
              have := a5 c
              rw [if_neg (by omega)] at this
              rw [if_pos ⟨by omega, by rw [hN0]; exact q⟩]
              simp [zup, this]
            · simp only [zup, z, and_false, if_false]
              rw [a5 c]
              by_cases y : c < e ∧ N 250 c = 0
              · rw [if_pos y, if_pos ⟨by omega, y.2⟩]
              · rw [if_neg y, if_neg (fun w => y ⟨by omega, w.2⟩)])
        rw [e16_125]
        simp only [↓e16, ↓e16_0, ↓e16_1, ↓e16_4, ↓e16_5, ↓e16_6, ↓e16_7, ↓e16_8, ↓e16_10, ↓e16_13, ↓e16_15, ↓e16_16, ↓e16_18, ↓e16_20, ↓e16_21, ↓e16_24, ↓e16_25, ↓e16_28, ↓e16_30, ↓e16_31, ↓e16_34, ↓e16_35, ↓e16_38, ↓e16_39, ↓e16_40, ↓e16_42, ↓e16_43, ↓e16_44, ↓e16_47, ↓e16_48, ↓e16_49, ↓e16_50, ↓e16_51, ↓e16_54, ↓e16_56, ↓e16_57, ↓e16_58, ↓e16_60, ↓e16_62, ↓e16_63, ↓e16_66, ↓e16_68, ↓e16_69, ↓e16_70, ↓e16_73, ↓e16_74, ↓e16_77, ↓e16_79, ↓e16_81, ↓e16_82, ↓e16_83, ↓e16_86, ↓e16_88, ↓e16_89, ↓e16_90, ↓e16_91, ↓e16_94, ↓e16_96, ↓e16_97, ↓e16_99, ↓e16_100, ↓e16_103, ↓e16_104, ↓e16_107, ↓e16_109, ↓e16_110, ↓e16_112, ↓e16_114, ↓e16_116, ↓e16_119, ↓e16_122, ↓e16_123, ↓e16_127, ↓e16_128, ↓e16_131, ↓e16_132, ↓e16_135, ↓e16_137, ↓e16_138, ↓e16_141, ↓e16_142, ↓e16_145, ↓e16_146, ↓e16_149, ↓e16_151, ↓e16_152, ↓e16_153, ↓e16_154, ↓e16_156, ↓e16_157, ↓e16_158, ↓e16_159, ↓e16_162, ↓e16_164, ↓e16_165, ↓e16_166, ↓e16_168, ↓e16_169, ↓e16_170, ↓e16_173, ↓e16_174, ↓e16_177, ↓e16_179, ↓e16_180, ↓e16_181, ↓e16_183, ↓e16_184, ↓e16_188, ↓e16_191, ↓e16_193, znl_i, znl_r, znl_n, zcs_0, zcs_1, zcs_2, zcs_3, zcat_0, zcat_1, zcat_2, zcat_3, zbl_0, zbl_1, true_and, and_true, ↓zret_some, ↓zret_none, Nat.reduceAdd, Nat.reduceLeDiff, Nat.reduceMul, eq_self, Int.reduceToNat, zrg, hnr, e1, e2, e3, ↓reduceIte, zkc_0, zin_1, zin_2, zin_3, zin_4, zin_5, zin_6, zin_7, zin_8, zin_9, zaa_9, zkc_10, zin_11, zin_12, zkc_13, zin_14, zin_15, zkc_16, zin_17, zin_18, zkc_19, zin_20, zin_21, zin_22, zin_23, zin_24, zin_25, zin_26, zin_27, zin_28, zaa_28, zkc_29, zin_30, zin_31, zkc_32, zin_33, zin_34, zkc_35, zin_36, zin_37, zkc_38, zin_39, zin_40, zin_41, zin_42, zin_43, zin_44, zin_45, zin_46, zin_47, zaa_47, zkc_48, zin_49, zin_50, zkc_51, zin_52, zin_53, zkc_54, zin_55, zin_56, zkc_209, zkc_210, zin_211, zaa_211, zkc_212, zin_213, zkc_214, zkc_215, zin_216, zin_217, zkc_218, zin_219, zin_220, zin_221, zkc_222, zin_223, zaa_223, zin_224, zin_225, zkc_226, zin_227, zin_228, zin_229, zin_230, zin_231, zin_232, zkc_233, zin_234, zaa_234, zin_235, zin_236, zin_237, zin_238, zin_239, zin_240, zin_241, zin_242, zin_243, zin_244, zin_245, zin_246, zin_247, zin_248, zin_249, zin_250, zkc_251, zin_252, zin_253, zkc_374, zin_375, zin_376, zin_377, zin_378, zin_379, zin_380, zin_381, zin_382, zin_383, zin_384, zin_385, zin_386, zin_387, hN250, q, Int.toNat_natCast]
        simp
        exact h9
      · obtain ⟨p1, p2⟩ := hp e (by omega) q
        obtain ⟨y, hy⟩ : ∃ y : Nat, M 235 e = y := ⟨(M 235 e).toNat, by omega⟩
        have hy0 : 0 ≤ (y : Int) ∧ (y : Int) < 10 := ⟨by omega, by omega⟩
        have h9 := join (zup (zup N2 236 y (N2 236 y + least)) 237 e (N2 237 e - least)) (by
          obtain ⟨a1, a2, a3, a4, a5⟩ := h7
          have hno : ¬ ∃ c : Nat, c < e ∧ N 250 c = 1 ∧ N 235 c = y := fun ⟨c, c1, c2, c3⟩ => by
            rw [hN0] at c2
            rw [hN1] at c3
            have := hinj c e (by omega) (by omega) c2 q (by rw [c3, hy])
            omega
          refine ⟨fun b b1 b2 b3 => by rw [zup_ne _ _ _ b2, zup_ne _ _ _ b1]; exact a1 b b1 b2 b3, fun i hi => ?_, fun i hi => ?_, fun c => ?_, fun c => ?_⟩
          · rw [zup_ne _ _ _ (by omega)]
            by_cases z : i = y
            · subst z
              have := a3 i hno
              simp [zup, this]
            · simp only [zup, z, and_false, if_false]
              refine a2 i ?_
              obtain ⟨c, c1, c2, c3⟩ := hi
              exact ⟨c, by rcases Nat.lt_or_ge c e with z2 | z2; exact z2; exfalso; have : c = e := (by omega); subst this; rw [hN1] at c3; omega, c2, c3⟩
          · rw [zup_ne _ _ _ (by omega)]
            have z : ¬ i = y := fun z => hi ⟨e, by omega, by rw [hN0]; exact q, by rw [hN1, hy, z]⟩
            simp only [zup, z, and_false, if_false]
            exact a3 i (fun ⟨c, c1, c2, c3⟩ => hi ⟨c, by omega, c2, c3⟩)
          · by_cases z : c = e
            · subst z
              have := a4 c
              rw [if_neg (by omega)] at this
              rw [if_pos ⟨by omega, by rw [hN0]; exact q⟩]
              simp [zup, this]
            · have : ¬ 237 = 236 := by omega
              simp only [zup, z, and_false, if_false, this, false_and]
              rw [a4 c]
              by_cases y : c < e ∧ N 250 c = 1
              · rw [if_pos y, if_pos ⟨by omega, y.2⟩]
              · rw [if_neg y, if_neg (fun w => y ⟨by omega, w.2⟩)]
          · rw [zup_ne _ _ _ (by omega), zup_ne _ _ _ (by omega), a5 c]
            by_cases z : c = e
            · subst z
              rw [if_neg (by omega), if_neg (fun w => by have := w.2; rw [hN0] at this; omega)]
            · by_cases y : c < e ∧ N 250 c = 0
              · rw [if_pos y, if_pos ⟨by omega, y.2⟩]
              · rw [if_neg y, if_neg (fun w => y ⟨by omega, w.2⟩)])
        have h237 : ∀ z : Int, zup N2 236 y z 237 = N2 237 := fun z => zup_ne _ _ _ (by omega)
        rw [e16_125]
        simp only [↓e16, ↓e16_0, ↓e16_1, ↓e16_4, ↓e16_5, ↓e16_6, ↓e16_7, ↓e16_8, ↓e16_10, ↓e16_13, ↓e16_15, ↓e16_16, ↓e16_18, ↓e16_20, ↓e16_21, ↓e16_24, ↓e16_25, ↓e16_28, ↓e16_30, ↓e16_31, ↓e16_34, ↓e16_35, ↓e16_38, ↓e16_39, ↓e16_40, ↓e16_42, ↓e16_43, ↓e16_44, ↓e16_47, ↓e16_48, ↓e16_49, ↓e16_50, ↓e16_51, ↓e16_54, ↓e16_56, ↓e16_57, ↓e16_58, ↓e16_60, ↓e16_62, ↓e16_63, ↓e16_66, ↓e16_68, ↓e16_69, ↓e16_70, ↓e16_73, ↓e16_74, ↓e16_77, ↓e16_79, ↓e16_81, ↓e16_82, ↓e16_83, ↓e16_86, ↓e16_88, ↓e16_89, ↓e16_90, ↓e16_91, ↓e16_94, ↓e16_96, ↓e16_97, ↓e16_99, ↓e16_100, ↓e16_103, ↓e16_104, ↓e16_107, ↓e16_109, ↓e16_110, ↓e16_112, ↓e16_114, ↓e16_116, ↓e16_119, ↓e16_122, ↓e16_123, ↓e16_127, ↓e16_128, ↓e16_131, ↓e16_132, ↓e16_135, ↓e16_137, ↓e16_138, ↓e16_141, ↓e16_142, ↓e16_145, ↓e16_146, ↓e16_149, ↓e16_151, ↓e16_152, ↓e16_153, ↓e16_154, ↓e16_156, ↓e16_157, ↓e16_158, ↓e16_159, ↓e16_162, ↓e16_164, ↓e16_165, ↓e16_166, ↓e16_168, ↓e16_169, ↓e16_170, ↓e16_173, ↓e16_174, ↓e16_177, ↓e16_179, ↓e16_180, ↓e16_181, ↓e16_183, ↓e16_184, ↓e16_188, ↓e16_191, ↓e16_193, znl_i, znl_r, znl_n, zcs_0, zcs_1, zcs_2, zcs_3, zcat_0, zcat_1, zcat_2, zcat_3, zbl_0, zbl_1, true_and, and_true, ↓zret_some, ↓zret_none, Nat.reduceAdd, Nat.reduceLeDiff, Nat.reduceMul, eq_self, Int.reduceToNat, zrg, hnr, e1, e2, e3, ↓reduceIte, zkc_0, zin_1, zin_2, zin_3, zin_4, zin_5, zin_6, zin_7, zin_8, zin_9, zaa_9, zkc_10, zin_11, zin_12, zkc_13, zin_14, zin_15, zkc_16, zin_17, zin_18, zkc_19, zin_20, zin_21, zin_22, zin_23, zin_24, zin_25, zin_26, zin_27, zin_28, zaa_28, zkc_29, zin_30, zin_31, zkc_32, zin_33, zin_34, zkc_35, zin_36, zin_37, zkc_38, zin_39, zin_40, zin_41, zin_42, zin_43, zin_44, zin_45, zin_46, zin_47, zaa_47, zkc_48, zin_49, zin_50, zkc_51, zin_52, zin_53, zkc_54, zin_55, zin_56, zkc_209, zkc_210, zin_211, zaa_211, zkc_212, zin_213, zkc_214, zkc_215, zin_216, zin_217, zkc_218, zin_219, zin_220, zin_221, zkc_222, zin_223, zaa_223, zin_224, zin_225, zkc_226, zin_227, zin_228, zin_229, zin_230, zin_231, zin_232, zkc_233, zin_234, zaa_234, zin_235, zin_236, zin_237, zin_238, zin_239, zin_240, zin_241, zin_242, zin_243, zin_244, zin_245, zin_246, zin_247, zin_248, zin_249, zin_250, zkc_251, zin_252, zin_253, zkc_374, zin_375, zin_376, zin_377, zin_378, zin_379, zin_380, zin_381, zin_382, zin_383, zin_384, zin_385, zin_386, zin_387, hN250, hN235, q, hy, hy0, Int.toNat_natCast, h237]
        simp
        exact h9
  -- first loop
  have loop1 : ∀ m e : Nat, e + m = n + 1 → 1 ≤ e → ∀ (N : zM) (x : Nat) (least : Int) (w8 w9 : Option zV), R1 M N row n j e x least →
      RT (Sp d) 16 Q 18 [some (.inr (.inr 233)), some (.inl (j : Int)), some (.inl (n : Int)), some (.inl (row : Int)), some (.inl (x : Int)), some (.inr (.inl least)), none, some (.inl (e : Int)), w8, w9] [] N := by
    intro m
    induction m with
    | zero =>
      intro e he h1e N x least w8 w9 h1
      obtain rfl : e = n + 1 := by omega
      have e1 : ((n + 1 : Nat) : Int) > n := by omega
      have e2 : -2147483648 ≤ ((n + 1 : Nat) : Int) ∧ ((n + 1 : Nat) : Int) < 2147483648 := ⟨by omega, by omega⟩
      rcases h1.2.2.2 with ⟨-, -, q⟩ | ⟨q1, q2, q3, q4, q5⟩
      · obtain ⟨c, c1, c2, c3⟩ := hfree
        exact absurd c3 (q c c1 (by omega))
      · have h9 := loop2 (n + 1) 0 (by omega) N N x least w8 w9 h1 q1 (by omega) q3 q4 (fun c c1 c2 c3 => q5 c c1 (by omega) c3) ⟨fun _ _ _ _ => rfl, fun i ⟨c, c1, _⟩ => absurd c1 (Nat.not_lt_zero c), fun _ _ => rfl, fun c => by rw [if_neg (fun w => absurd w.1 (Nat.not_lt_zero c))], fun c => by rw [if_neg (fun w => absurd w.1 (Nat.not_lt_zero c))]⟩
        rw [e16_18]
        simp only [↓e16, ↓e16_0, ↓e16_1, ↓e16_4, ↓e16_5, ↓e16_6, ↓e16_7, ↓e16_8, ↓e16_10, ↓e16_13, ↓e16_15, ↓e16_16, ↓e16_20, ↓e16_21, ↓e16_24, ↓e16_25, ↓e16_28, ↓e16_30, ↓e16_31, ↓e16_34, ↓e16_35, ↓e16_38, ↓e16_39, ↓e16_40, ↓e16_42, ↓e16_43, ↓e16_44, ↓e16_47, ↓e16_48, ↓e16_49, ↓e16_50, ↓e16_51, ↓e16_54, ↓e16_56, ↓e16_57, ↓e16_58, ↓e16_60, ↓e16_62, ↓e16_63, ↓e16_66, ↓e16_68, ↓e16_69, ↓e16_70, ↓e16_73, ↓e16_74, ↓e16_77, ↓e16_79, ↓e16_81, ↓e16_82, ↓e16_83, ↓e16_86, ↓e16_88, ↓e16_89, ↓e16_90, ↓e16_91, ↓e16_94, ↓e16_96, ↓e16_97, ↓e16_99, ↓e16_100, ↓e16_103, ↓e16_104, ↓e16_107, ↓e16_109, ↓e16_110, ↓e16_112, ↓e16_114, ↓e16_116, ↓e16_119, ↓e16_122, ↓e16_123, ↓e16_127, ↓e16_128, ↓e16_131, ↓e16_132, ↓e16_135, ↓e16_137, ↓e16_138, ↓e16_141, ↓e16_142, ↓e16_145, ↓e16_146, ↓e16_149, ↓e16_151, ↓e16_152, ↓e16_153, ↓e16_154, ↓e16_156, ↓e16_157, ↓e16_158, ↓e16_159, ↓e16_162, ↓e16_164, ↓e16_165, ↓e16_166, ↓e16_168, ↓e16_169, ↓e16_170, ↓e16_173, ↓e16_174, ↓e16_177, ↓e16_179, ↓e16_180, ↓e16_181, ↓e16_183, ↓e16_184, ↓e16_185, ↓e16_188, ↓e16_191, ↓e16_193, znl_i, znl_r, znl_n, zcs_0, zcs_1, zcs_2, zcs_3, zcat_0, zcat_1, zcat_2, zcat_3, zbl_0, zbl_1, true_and, and_true, ↓zret_some, ↓zret_none, Nat.reduceAdd, Nat.reduceLeDiff, Nat.reduceMul, eq_self, Int.reduceToNat, zrg, hnr, e1, e2, ↓reduceIte]
        exact h9
    | succ m ih =>
      intro e he h1e N x least w8 w9 h1
      have e1 : ¬ (e : Int) > n := by omega
      have e2 : -2147483648 ≤ (e : Int) ∧ (e : Int) < 2147483648 := ⟨by omega, by omega⟩
      have e3 : 0 ≤ (e : Int) ∧ (e : Int) < 20 := ⟨by omega, by omega⟩
      have hN250 : N 250 = M 250 := h1.1 250 (by omega) (by omega)
      have hNp : N (240 + row) = M (240 + row) := h1.1 _ (by omega) (by omega)
      have hN236 : N 236 = M 236 := h1.1 _ (by omega) (by omega)
      have hN237 : N 237 = M 237 := h1.1 _ (by omega) (by omega)
      have hN238 : N 238 e = M 238 e := by rw [h1.2.1 e, if_neg (by omega)]
      have e4 : 240 + 1 * row = 240 + row := by omega
      have join : ∀ (N3 : zM) (x3 : Nat) (least3 : Int) (u8 u9 : Option zV), R1 M N3 row n j (e + 1) x3 least3 → RT (Sp d) 16 Q 116 [some (.inr (.inr 233)), some (.inl (j : Int)), some (.inl (n : Int)), some (.inl (row : Int)), some (.inl (x3 : Int)), some (.inr (.inl least3)), none, some (.inl (e : Int)), u8, u9] [] N3 := by
        intro N3 x3 least3 u8 u9 hR
        have h9 := ih (e + 1) (by omega) (by omega) N3 x3 least3 u8 u9 hR
        simp only [↓e16, ↓e16_0, ↓e16_1, ↓e16_4, ↓e16_5, ↓e16_6, ↓e16_7, ↓e16_8, ↓e16_10, ↓e16_13, ↓e16_15, ↓e16_16, ↓e16_20, ↓e16_21, ↓e16_24, ↓e16_25, ↓e16_28, ↓e16_30, ↓e16_31, ↓e16_34, ↓e16_35, ↓e16_38, ↓e16_39, ↓e16_40, ↓e16_42, ↓e16_43, ↓e16_44, ↓e16_47, ↓e16_48, ↓e16_49, ↓e16_50, ↓e16_51, ↓e16_54, ↓e16_56, ↓e16_57, ↓e16_58, ↓e16_60, ↓e16_62, ↓e16_63, ↓e16_66, ↓e16_68, ↓e16_69, ↓e16_70, ↓e16_73, ↓e16_74, ↓e16_77, ↓e16_79, ↓e16_81, ↓e16_82, ↓e16_83, ↓e16_86, ↓e16_88, ↓e16_89, ↓e16_90, ↓e16_91, ↓e16_94, ↓e16_96, ↓e16_97, ↓e16_99, ↓e16_100, ↓e16_103, ↓e16_104, ↓e16_107, ↓e16_109, ↓e16_110, ↓e16_112, ↓e16_114, ↓e16_116, ↓e16_119, ↓e16_122, ↓e16_123, ↓e16_125, ↓e16_127, ↓e16_128, ↓e16_131, ↓e16_132, ↓e16_135, ↓e16_137, ↓e16_138, ↓e16_141, ↓e16_142, ↓e16_145, ↓e16_146, ↓e16_149, ↓e16_151, ↓e16_152, ↓e16_153, ↓e16_154, ↓e16_156, ↓e16_157, ↓e16_158, ↓e16_159, ↓e16_162, ↓e16_164, ↓e16_165, ↓e16_166, ↓e16_168, ↓e16_169, ↓e16_170, ↓e16_173, ↓e16_174, ↓e16_177, ↓e16_179, ↓e16_180, ↓e16_181, ↓e16_183, ↓e16_184, ↓e16_185, ↓e16_188, ↓e16_191, ↓e16_193, znl_i, znl_r, znl_n, zcs_0, zcs_1, zcs_2, zcs_3, zcat_0, zcat_1, zcat_2, zcat_3, zbl_0, zbl_1, true_and, and_true, ↓zret_some, ↓zret_none, Nat.reduceAdd, Nat.reduceLeDiff, Nat.reduceMul, eq_self, Int.reduceToNat]
        exact h9
      have lift : ∀ c : Nat, c ≠ e → ((1 ≤ c ∧ c < e ∧ M 250 c = 0) ↔ (1 ≤ c ∧ c < e + 1 ∧ M 250 c = 0)) := fun c hc => ⟨fun w => ⟨w.1, by omega, w.2.2⟩, fun w => ⟨w.1, by omega, w.2.2⟩⟩
      have lift2 : ∀ c : Nat, c ≠ e → ((1 ≤ c ∧ c < e ∧ M 250 c = 0 ∧ rst M row c < M 238 c) ↔ (1 ≤ c ∧ c < e + 1 ∧ M 250 c = 0 ∧ rst M row c < M 238 c)) := fun c hc => ⟨fun w => ⟨w.1, by omega, w.2.2⟩, fun w => ⟨w.1, by omega, w.2.2⟩⟩
      rcases hrc e (by omega) with q | q
      · obtain ⟨b1, b2, b3, b4⟩ := hb e h1e (by omega) q
        have hr : M (240 + row) e - M 236 row - M 237 e = rst M row e := rfl
        have z1 : -9223372036854775808 ≤ rst M row e ∧ rst M row e < 9223372036854775808 := by omega
        have z2 : -9223372036854775808 ≤ M 238 e ∧ M 238 e < 9223372036854775808 := by omega
        have hs1 : 0 ≤ sl1 M row e ∧ sl1 M row e ≤ 1152921504606846976 ∧ sl1 M row e < 1152921504606846976 ∨ True := Or.inr trivial
        have hs2 : 0 ≤ sl1 M row e ∧ sl1 M row e < 1152921504606846976 := by unfold sl1; split <;> omega
        have hl : 0 ≤ least ∧ least ≤ 1152921504606846976 := by
          rcases h1.2.2.2 with ⟨-, q, -⟩ | ⟨q1, q2, q3, q4, q5⟩
          · omega
          · obtain ⟨g1, g2, g3, g4⟩ := hb x q1 (by omega) q3
            rw [q4]; unfold sl1; split <;> omega
        have z3 : -9223372036854775808 ≤ least ∧ least < 9223372036854775808 := by omega
        have z4 : -9223372036854775808 ≤ sl1 M row e ∧ sl1 M row e < 9223372036854775808 := by omega
        -- the memory behind the slack's row
        have two : ∀ N3 : zM, (∀ b, b ≠ 238 → b ≠ 239 → N3 b = M b) → (∀ c : Nat, N3 238 c = if 1 ≤ c ∧ c < e + 1 ∧ M 250 c = 0 then sl1 M row c else M 238 c) → (∀ c : Nat, N3 239 c = if 1 ≤ c ∧ c < e + 1 ∧ M 250 c = 0 ∧ rst M row c < M 238 c then (j : Int) else M 239 c) →
            RT (Sp d) 16 Q 90 [some (.inr (.inr 233)), some (.inl (j : Int)), some (.inl (n : Int)), some (.inl (row : Int)), some (.inl (x : Int)), some (.inr (.inl least)), none, some (.inl (e : Int)), some (.inr (.inl (rst M row e))), none] [] N3 := by
          intro N3 g1 g2 g3
          have g4 : N3 238 e = sl1 M row e := by rw [g2 e, if_pos ⟨h1e, by omega, q⟩]
          by_cases hc : sl1 M row e < least
          · have h9 := join N3 e (sl1 M row e) (some (.inr (.inl (rst M row e)))) none ⟨g1, g2, g3, Or.inr ⟨h1e, by omega, q, rfl, fun c c1 c2 c3 => by
              by_cases z : c = e
              · subst z; exact Int.le_refl _
              · rcases h1.2.2.2 with ⟨-, -, qq⟩ | ⟨q1, q2, q3, q4, q5⟩
                · exact absurd c3 (qq c c1 (by omega))
                · have := q5 c c1 (by omega) c3; omega⟩⟩
            have hc2 : ¬ ((if least < sl1 M row e then (1 : Int) else if sl1 M row e = least then 0 else -1) ≥ 0) := by
              rw [if_neg (by omega), if_neg (by omega)]; omega
            have hc3 : -2147483648 ≤ (if least < sl1 M row e then (1 : Int) else if sl1 M row e = least then 0 else -1) ∧ (if least < sl1 M row e then (1 : Int) else if sl1 M row e = least then 0 else -1) < 2147483648 := by
              constructor <;> (repeat' split) <;> omega
            simp only [↓e16, ↓e16_0, ↓e16_1, ↓e16_4, ↓e16_5, ↓e16_6, ↓e16_7, ↓e16_8, ↓e16_10, ↓e16_13, ↓e16_15, ↓e16_16, ↓e16_18, ↓e16_20, ↓e16_21, ↓e16_24, ↓e16_25, ↓e16_28, ↓e16_30, ↓e16_31, ↓e16_34, ↓e16_35, ↓e16_38, ↓e16_39, ↓e16_40, ↓e16_42, ↓e16_43, ↓e16_44, ↓e16_47, ↓e16_48, ↓e16_49, ↓e16_50, ↓e16_51, ↓e16_54, ↓e16_56, ↓e16_57, ↓e16_58, ↓e16_60, ↓e16_62, ↓e16_63, ↓e16_66, ↓e16_68, ↓e16_69, ↓e16_70, ↓e16_73, ↓e16_74, ↓e16_77, ↓e16_79, ↓e16_81, ↓e16_82, ↓e16_83, ↓e16_86, ↓e16_88, ↓e16_89, ↓e16_90, ↓e16_91, ↓e16_94, ↓e16_96, ↓e16_97, ↓e16_99, ↓e16_100, ↓e16_103, ↓e16_104, ↓e16_107, ↓e16_109, ↓e16_110, ↓e16_112, ↓e16_114, ↓e16_119, ↓e16_122, ↓e16_123, ↓e16_125, ↓e16_127, ↓e16_128, ↓e16_131, ↓e16_132, ↓e16_135, ↓e16_137, ↓e16_138, ↓e16_141, ↓e16_142, ↓e16_145, ↓e16_146, ↓e16_149, ↓e16_151, ↓e16_152, ↓e16_153, ↓e16_154, ↓e16_156, ↓e16_157, ↓e16_158, ↓e16_159, ↓e16_162, ↓e16_164, ↓e16_165, ↓e16_166, ↓e16_168, ↓e16_169, ↓e16_170, ↓e16_173, ↓e16_174, ↓e16_177, ↓e16_179, ↓e16_180, ↓e16_181, ↓e16_183, ↓e16_184, ↓e16_185, ↓e16_188, ↓e16_191, ↓e16_193, znl_i, znl_r, znl_n, zcs_0, zcs_1, zcs_2, zcs_3, zcat_0, zcat_1, zcat_2, zcat_3, zbl_0, zbl_1, true_and, and_true, ↓zret_some, ↓zret_none, Nat.reduceAdd, Nat.reduceLeDiff, Nat.reduceMul, eq_self, Int.reduceToNat, zrg, zrl, ↓reduceIte, zkc_0, zin_1, zin_2, zin_3, zin_4, zin_5, zin_6, zin_7, zin_8, zin_9, zaa_9, zkc_10, zin_11, zin_12, zkc_13, zin_14, zin_15, zkc_16, zin_17, zin_18, zkc_19, zin_20, zin_21, zin_22, zin_23, zin_24, zin_25, zin_26, zin_27, zin_28, zaa_28, zkc_29, zin_30, zin_31, zkc_32, zin_33, zin_34, zkc_35, zin_36, zin_37, zkc_38, zin_39, zin_40, zin_41, zin_42, zin_43, zin_44, zin_45, zin_46, zin_47, zaa_47, zkc_48, zin_49, zin_50, zkc_51, zin_52, zin_53, zkc_54, zin_55, zin_56, zkc_209, zkc_210, zin_211, zaa_211, zkc_212, zin_213, zkc_214, zkc_215, zin_216, zin_217, zkc_218, zin_219, zin_220, zin_221, zkc_222, zin_223, zaa_223, zin_224, zin_225, zkc_226, zin_227, zin_228, zin_229, zin_230, zin_231, zin_232, zkc_233, zin_234, zaa_234, zin_235, zin_236, zin_237, zin_238, zin_239, zin_240, zin_241, zin_242, zin_243, zin_244, zin_245, zin_246, zin_247, zin_248, zin_249, zin_250, zkc_251, zin_252, zin_253, zkc_374, zin_375, zin_376, zin_377, zin_378, zin_379, zin_380, zin_381, zin_382, zin_383, zin_384, zin_385, zin_386, zin_387, e3, g4, z3, z4, Int.toNat_natCast, hc2, hc3]
            exact h9
          · have h9 := join N3 x least (some (.inr (.inl (rst M row e)))) none ⟨g1, g2, g3, by
              rcases h1.2.2.2 with ⟨qq1, qq2, qq3⟩ | ⟨q1, q2, q3, q4, q5⟩
              · omega
              · exact Or.inr ⟨q1, by omega, q3, q4, fun c c1 c2 c3 => by
                  by_cases z : c = e
                  · subst z; omega
                  · exact q5 c c1 (by omega) c3⟩⟩
            have hc2 : (if least < sl1 M row e then (1 : Int) else if sl1 M row e = least then 0 else -1) ≥ 0 := by
              by_cases y : least < sl1 M row e
              · rw [if_pos y]; omega
              · rw [if_neg y, if_pos (by omega)]; omega
            have hc3 : -2147483648 ≤ (if least < sl1 M row e then (1 : Int) else if sl1 M row e = least then 0 else -1) ∧ (if least < sl1 M row e then (1 : Int) else if sl1 M row e = least then 0 else -1) < 2147483648 := by
              constructor <;> (repeat' split) <;> omega
            simp only [↓e16, ↓e16_0, ↓e16_1, ↓e16_4, ↓e16_5, ↓e16_6, ↓e16_7, ↓e16_8, ↓e16_10, ↓e16_13, ↓e16_15, ↓e16_16, ↓e16_18, ↓e16_20, ↓e16_21, ↓e16_24, ↓e16_25, ↓e16_28, ↓e16_30, ↓e16_31, ↓e16_34, ↓e16_35, ↓e16_38, ↓e16_39, ↓e16_40, ↓e16_42, ↓e16_43, ↓e16_44, ↓e16_47, ↓e16_48, ↓e16_49, ↓e16_50, ↓e16_51, ↓e16_54, ↓e16_56, ↓e16_57, ↓e16_58, ↓e16_60, ↓e16_62, ↓e16_63, ↓e16_66, ↓e16_68, ↓e16_69, ↓e16_70, ↓e16_73, ↓e16_74, ↓e16_77, ↓e16_79, ↓e16_81, ↓e16_82, ↓e16_83, ↓e16_86, ↓e16_88, ↓e16_89, ↓e16_90, ↓e16_91, ↓e16_94, ↓e16_96, ↓e16_97, ↓e16_99, ↓e16_100, ↓e16_103, ↓e16_104, ↓e16_107, ↓e16_109, ↓e16_110, ↓e16_112, ↓e16_114, ↓e16_119, ↓e16_122, ↓e16_123, ↓e16_125, ↓e16_127, ↓e16_128, ↓e16_131, ↓e16_132, ↓e16_135, ↓e16_137, ↓e16_138, ↓e16_141, ↓e16_142, ↓e16_145, ↓e16_146, ↓e16_149, ↓e16_151, ↓e16_152, ↓e16_153, ↓e16_154, ↓e16_156, ↓e16_157, ↓e16_158, ↓e16_159, ↓e16_162, ↓e16_164, ↓e16_165, ↓e16_166, ↓e16_168, ↓e16_169, ↓e16_170, ↓e16_173, ↓e16_174, ↓e16_177, ↓e16_179, ↓e16_180, ↓e16_181, ↓e16_183, ↓e16_184, ↓e16_185, ↓e16_188, ↓e16_191, ↓e16_193, znl_i, znl_r, znl_n, zcs_0, zcs_1, zcs_2, zcs_3, zcat_0, zcat_1, zcat_2, zcat_3, zbl_0, zbl_1, true_and, and_true, ↓zret_some, ↓zret_none, Nat.reduceAdd, Nat.reduceLeDiff, Nat.reduceMul, eq_self, Int.reduceToNat, zrg, zrl, ↓reduceIte, zkc_0, zin_1, zin_2, zin_3, zin_4, zin_5, zin_6, zin_7, zin_8, zin_9, zaa_9, zkc_10, zin_11, zin_12, zkc_13, zin_14, zin_15, zkc_16, zin_17, zin_18, zkc_19, zin_20, zin_21, zin_22, zin_23, zin_24, zin_25, zin_26, zin_27, zin_28, zaa_28, zkc_29, zin_30, zin_31, zkc_32, zin_33, zin_34, zkc_35, zin_36, zin_37, zkc_38, zin_39, zin_40, zin_41, zin_42, zin_43, zin_44, zin_45, zin_46, zin_47, zaa_47, zkc_48, zin_49, zin_50, zkc_51, zin_52, zin_53, zkc_54, zin_55, zin_56, zkc_209, zkc_210, zin_211, zaa_211, zkc_212, zin_213, zkc_214, zkc_215, zin_216, zin_217, zkc_218, zin_219, zin_220, zin_221, zkc_222, zin_223, zaa_223, zin_224, zin_225, zkc_226, zin_227, zin_228, zin_229, zin_230, zin_231, zin_232, zkc_233, zin_234, zaa_234, zin_235, zin_236, zin_237, zin_238, zin_239, zin_240, zin_241, zin_242, zin_243, zin_244, zin_245, zin_246, zin_247, zin_248, zin_249, zin_250, zkc_251, zin_252, zin_253, zkc_374, zin_375, zin_376, zin_377, zin_378, zin_379, zin_380, zin_381, zin_382, zin_383, zin_384, zin_385, zin_386, zin_387, e3, g4, z3, z4, Int.toNat_natCast, hc2, hc3]
            exact h9
        rw [e16_18]
        simp only [↓e16, ↓e16_0, ↓e16_1, ↓e16_4, ↓e16_5, ↓e16_6, ↓e16_7, ↓e16_8, ↓e16_10, ↓e16_13, ↓e16_15, ↓e16_16, ↓e16_20, ↓e16_21, ↓e16_24, ↓e16_25, ↓e16_28, ↓e16_30, ↓e16_31, ↓e16_34, ↓e16_35, ↓e16_38, ↓e16_39, ↓e16_40, ↓e16_42, ↓e16_43, ↓e16_44, ↓e16_47, ↓e16_48, ↓e16_49, ↓e16_50, ↓e16_51, ↓e16_54, ↓e16_56, ↓e16_57, ↓e16_58, ↓e16_60, ↓e16_62, ↓e16_63, ↓e16_66, ↓e16_68, ↓e16_69, ↓e16_70, ↓e16_73, ↓e16_74, ↓e16_77, ↓e16_79, ↓e16_81, ↓e16_82, ↓e16_83, ↓e16_86, ↓e16_88, ↓e16_89, ↓e16_91, ↓e16_94, ↓e16_96, ↓e16_97, ↓e16_99, ↓e16_100, ↓e16_103, ↓e16_104, ↓e16_107, ↓e16_109, ↓e16_110, ↓e16_112, ↓e16_114, ↓e16_119, ↓e16_122, ↓e16_123, ↓e16_125, ↓e16_127, ↓e16_128, ↓e16_131, ↓e16_132, ↓e16_135, ↓e16_137, ↓e16_138, ↓e16_141, ↓e16_142, ↓e16_145, ↓e16_146, ↓e16_149, ↓e16_151, ↓e16_152, ↓e16_153, ↓e16_154, ↓e16_156, ↓e16_157, ↓e16_158, ↓e16_159, ↓e16_162, ↓e16_164, ↓e16_165, ↓e16_166, ↓e16_168, ↓e16_169, ↓e16_170, ↓e16_173, ↓e16_174, ↓e16_177, ↓e16_179, ↓e16_180, ↓e16_181, ↓e16_183, ↓e16_184, ↓e16_185, ↓e16_188, ↓e16_191, ↓e16_193, znl_i, znl_r, znl_n, zcs_0, zcs_1, zcs_2, zcs_3, zcat_0, zcat_1, zcat_2, zcat_3, zbl_0, zbl_1, true_and, and_true, ↓zret_some, ↓zret_none, Nat.reduceAdd, Nat.reduceLeDiff, Nat.reduceMul, eq_self, Int.reduceToNat, zrg, zrl, hnr, e1, e2, e3, ↓reduceIte, zkc_0, zin_1, zin_2, zin_3, zin_4, zin_5, zin_6, zin_7, zin_8, zin_9, zaa_9, zkc_10, zin_11, zin_12, zkc_13, zin_14, zin_15, zkc_16, zin_17, zin_18, zkc_19, zin_20, zin_21, zin_22, zin_23, zin_24, zin_25, zin_26, zin_27, zin_28, zaa_28, zkc_29, zin_30, zin_31, zkc_32, zin_33, zin_34, zkc_35, zin_36, zin_37, zkc_38, zin_39, zin_40, zin_41, zin_42, zin_43, zin_44, zin_45, zin_46, zin_47, zaa_47, zkc_48, zin_49, zin_50, zkc_51, zin_52, zin_53, zkc_54, zin_55, zin_56, zkc_209, zkc_210, zin_211, zaa_211, zkc_212, zin_213, zkc_214, zkc_215, zin_216, zin_217, zkc_218, zin_219, zin_220, zin_221, zkc_222, zin_223, zaa_223, zin_224, zin_225, zkc_226, zin_227, zin_228, zin_229, zin_230, zin_231, zin_232, zkc_233, zin_234, zaa_234, zin_235, zin_236, zin_237, zin_238, zin_239, zin_240, zin_241, zin_242, zin_243, zin_244, zin_245, zin_246, zin_247, zin_248, zin_249, zin_250, zkc_251, zin_252, zin_253, zkc_374, zin_375, zin_376, zin_377, zin_378, zin_379, zin_380, zin_381, zin_382, zin_383, zin_384, zin_385, zin_386, zin_387, hN250, q, Int.toNat_natCast, hrow0, e4, hzP, hNp, hN236, hN237, hr, z1, z2, hN238]
        by_cases hc : rst M row e < M 238 e
        · have h9 := two (zup (zup N 238 e (rst M row e)) 239 e j) (fun b b1 b2 => by rw [zup_ne _ _ _ b2, zup_ne _ _ _ b1]; exact h1.1 b b1 b2) (fun c => by
            by_cases z : c = e
            · subst z
              rw [if_pos ⟨h1e, by omega, q⟩]
              unfold sl1
              rw [if_pos hc]
              simp [zup]
            · have : ¬ 238 = 239 := by omega
              simp only [zup, z, and_false, if_false, this, false_and]
              rw [h1.2.1 c]
              by_cases y : 1 ≤ c ∧ c < e ∧ M 250 c = 0
              · rw [if_pos y, if_pos ((lift c z).mp y)]
              · rw [if_neg y, if_neg (fun w => y ((lift c z).mpr w))]) (fun c => by
            by_cases z : c = e
            · subst z
              rw [if_pos ⟨h1e, by omega, q, hc⟩]
              simp [zup]
            · have : ¬ 239 = 238 := by omega
              simp only [zup, z, and_false, if_false, this, false_and]
              rw [h1.2.2.1 c]
              by_cases y : 1 ≤ c ∧ c < e ∧ M 250 c = 0 ∧ rst M row c < M 238 c
              · rw [if_pos y, if_pos ((lift2 c z).mp y)]
              · rw [if_neg y, if_neg (fun w => y ((lift2 c z).mpr w))])
          have hc2 : ¬ ((if M 238 e < rst M row e then (1 : Int) else if rst M row e = M 238 e then 0 else -1) ≥ 0) := by
            rw [if_neg (by omega), if_neg (by omega)]; omega
          simp [hc2]
          exact ⟨by constructor <;> (repeat' split) <;> omega, h9⟩
        · have hs : sl1 M row e = M 238 e := by unfold sl1; rw [if_neg hc]
          have h9 := two N h1.1 (fun c => by
            rw [h1.2.1 c]
            by_cases z : c = e
            · subst z
              rw [if_neg (by omega), if_pos ⟨h1e, by omega, q⟩, hs]
            · by_cases y : 1 ≤ c ∧ c < e ∧ M 250 c = 0
              · rw [if_pos y, if_pos ((lift c z).mp y)]
              · rw [if_neg y, if_neg (fun w => y ((lift c z).mpr w))]) (fun c => by
            rw [h1.2.2.1 c]
            by_cases z : c = e
            · subst z
              rw [if_neg (by omega), if_neg (fun w => hc w.2.2.2)]
            · by_cases y : 1 ≤ c ∧ c < e ∧ M 250 c = 0 ∧ rst M row c < M 238 c
              · rw [if_pos y, if_pos ((lift2 c z).mp y)]
              · rw [if_neg y, if_neg (fun w => y ((lift2 c z).mpr w))])
          have hc2 : (if M 238 e < rst M row e then (1 : Int) else if rst M row e = M 238 e then 0 else -1) ≥ 0 := by
            by_cases y : M 238 e < rst M row e
            · rw [if_pos y]; omega
            · rw [if_neg y, if_pos (by omega)]; omega
          refine ⟨⟨by omega, by omega⟩, ?_⟩
          rw [if_neg (by omega), if_pos hc2]
          exact ⟨by constructor <;> (repeat' split) <;> omega, h9⟩
      · have h9 := join N x least w8 w9 (by
          obtain ⟨a1, a2, a3, a4⟩ := h1
          refine ⟨a1, fun c => ?_, fun c => ?_, ?_⟩
          · rw [a2 c]
            by_cases z : c = e
            · subst z; rw [if_neg (by omega), if_neg (fun w => by omega)]
            · by_cases y : 1 ≤ c ∧ c < e ∧ M 250 c = 0
              · rw [if_pos y, if_pos ((lift c z).mp y)]
              · rw [if_neg y, if_neg (fun w => y ((lift c z).mpr w))]
          · rw [a3 c]
            by_cases z : c = e
            · subst z; rw [if_neg (by omega), if_neg (fun w => by omega)]
            · by_cases y : 1 ≤ c ∧ c < e ∧ M 250 c = 0 ∧ rst M row c < M 238 c
              · rw [if_pos y, if_pos ((lift2 c z).mp y)]
              · rw [if_neg y, if_neg (fun w => y ((lift2 c z).mpr w))]
          · rcases a4 with ⟨q1, q2, q3⟩ | ⟨q1, q2, q3, q4, q5⟩
            · refine Or.inl ⟨q1, q2, fun c c1 c2 => ?_⟩
              by_cases z : c = e
              · subst z; omega
              · exact q3 c c1 (by omega)
            · refine Or.inr ⟨q1, by omega, q3, q4, fun c c1 c2 c3 => ?_⟩
              by_cases z : c = e
              · subst z; omega
              · exact q5 c c1 (by omega) c3)
        rw [e16_18]
        simp only [↓e16, ↓e16_0, ↓e16_1, ↓e16_4, ↓e16_5, ↓e16_6, ↓e16_7, ↓e16_8, ↓e16_10, ↓e16_13, ↓e16_15, ↓e16_16, ↓e16_20, ↓e16_21, ↓e16_24, ↓e16_25, ↓e16_28, ↓e16_30, ↓e16_31, ↓e16_34, ↓e16_35, ↓e16_38, ↓e16_39, ↓e16_40, ↓e16_42, ↓e16_43, ↓e16_44, ↓e16_47, ↓e16_48, ↓e16_49, ↓e16_50, ↓e16_51, ↓e16_54, ↓e16_56, ↓e16_57, ↓e16_58, ↓e16_60, ↓e16_62, ↓e16_63, ↓e16_66, ↓e16_68, ↓e16_69, ↓e16_70, ↓e16_73, ↓e16_74, ↓e16_77, ↓e16_79, ↓e16_81, ↓e16_82, ↓e16_83, ↓e16_86, ↓e16_88, ↓e16_89, ↓e16_91, ↓e16_94, ↓e16_96, ↓e16_97, ↓e16_99, ↓e16_100, ↓e16_103, ↓e16_104, ↓e16_107, ↓e16_109, ↓e16_110, ↓e16_112, ↓e16_114, ↓e16_119, ↓e16_122, ↓e16_123, ↓e16_125, ↓e16_127, ↓e16_128, ↓e16_131, ↓e16_132, ↓e16_135, ↓e16_137, ↓e16_138, ↓e16_141, ↓e16_142, ↓e16_145, ↓e16_146, ↓e16_149, ↓e16_151, ↓e16_152, ↓e16_153, ↓e16_154, ↓e16_156, ↓e16_157, ↓e16_158, ↓e16_159, ↓e16_162, ↓e16_164, ↓e16_165, ↓e16_166, ↓e16_168, ↓e16_169, ↓e16_170, ↓e16_173, ↓e16_174, ↓e16_177, ↓e16_179, ↓e16_180, ↓e16_181, ↓e16_183, ↓e16_184, ↓e16_185, ↓e16_188, ↓e16_191, ↓e16_193, znl_i, znl_r, znl_n, zcs_0, zcs_1, zcs_2, zcs_3, zcat_0, zcat_1, zcat_2, zcat_3, zbl_0, zbl_1, true_and, and_true, ↓zret_some, ↓zret_none, Nat.reduceAdd, Nat.reduceLeDiff, Nat.reduceMul, eq_self, Int.reduceToNat, zrg, zrl, hnr, e1, e2, e3, ↓reduceIte, zkc_0, zin_1, zin_2, zin_3, zin_4, zin_5, zin_6, zin_7, zin_8, zin_9, zaa_9, zkc_10, zin_11, zin_12, zkc_13, zin_14, zin_15, zkc_16, zin_17, zin_18, zkc_19, zin_20, zin_21, zin_22, zin_23, zin_24, zin_25, zin_26, zin_27, zin_28, zaa_28, zkc_29, zin_30, zin_31, zkc_32, zin_33, zin_34, zkc_35, zin_36, zin_37, zkc_38, zin_39, zin_40, zin_41, zin_42, zin_43, zin_44, zin_45, zin_46, zin_47, zaa_47, zkc_48, zin_49, zin_50, zkc_51, zin_52, zin_53, zkc_54, zin_55, zin_56, zkc_209, zkc_210, zin_211, zaa_211, zkc_212, zin_213, zkc_214, zkc_215, zin_216, zin_217, zkc_218, zin_219, zin_220, zin_221, zkc_222, zin_223, zaa_223, zin_224, zin_225, zkc_226, zin_227, zin_228, zin_229, zin_230, zin_231, zin_232, zkc_233, zin_234, zaa_234, zin_235, zin_236, zin_237, zin_238, zin_239, zin_240, zin_241, zin_242, zin_243, zin_244, zin_245, zin_246, zin_247, zin_248, zin_249, zin_250, zkc_251, zin_252, zin_253, zkc_374, zin_375, zin_376, zin_377, zin_378, zin_379, zin_380, zin_381, zin_382, zin_383, zin_384, zin_385, zin_386, zin_387, hN250, q, Int.toNat_natCast]
        simp
        exact h9
  have h9 := loop1 n 1 (by omega) (by omega) M 0 1152921504606846976 none none ⟨fun _ _ _ => rfl, fun c => by rw [if_neg (by omega)], fun c => by rw [if_neg (by omega)], Or.inl ⟨rfl, rfl, fun c c1 c2 => by omega⟩⟩
  simp only [↓e16, ↓e16_0, ↓e16_1, ↓e16_4, ↓e16_5, ↓e16_6, ↓e16_7, ↓e16_8, ↓e16_10, ↓e16_13, ↓e16_15, ↓e16_16, ↓e16_20, ↓e16_21, ↓e16_24, ↓e16_25, ↓e16_28, ↓e16_30, ↓e16_31, ↓e16_34, ↓e16_35, ↓e16_38, ↓e16_39, ↓e16_40, ↓e16_42, ↓e16_43, ↓e16_44, ↓e16_47, ↓e16_48, ↓e16_49, ↓e16_50, ↓e16_51, ↓e16_54, ↓e16_56, ↓e16_57, ↓e16_58, ↓e16_60, ↓e16_62, ↓e16_63, ↓e16_66, ↓e16_68, ↓e16_69, ↓e16_70, ↓e16_73, ↓e16_74, ↓e16_77, ↓e16_79, ↓e16_81, ↓e16_82, ↓e16_83, ↓e16_86, ↓e16_88, ↓e16_89, ↓e16_90, ↓e16_91, ↓e16_94, ↓e16_96, ↓e16_97, ↓e16_99, ↓e16_100, ↓e16_103, ↓e16_104, ↓e16_107, ↓e16_109, ↓e16_110, ↓e16_112, ↓e16_114, ↓e16_116, ↓e16_119, ↓e16_122, ↓e16_123, ↓e16_125, ↓e16_127, ↓e16_128, ↓e16_131, ↓e16_132, ↓e16_135, ↓e16_137, ↓e16_138, ↓e16_141, ↓e16_142, ↓e16_145, ↓e16_146, ↓e16_149, ↓e16_151, ↓e16_152, ↓e16_153, ↓e16_154, ↓e16_156, ↓e16_157, ↓e16_158, ↓e16_159, ↓e16_162, ↓e16_164, ↓e16_165, ↓e16_166, ↓e16_168, ↓e16_169, ↓e16_170, ↓e16_173, ↓e16_174, ↓e16_177, ↓e16_179, ↓e16_180, ↓e16_181, ↓e16_183, ↓e16_184, ↓e16_185, ↓e16_188, ↓e16_191, ↓e16_193, znl_i, znl_r, znl_n, zcs_0, zcs_1, zcs_2, zcs_3, zcat_0, zcat_1, zcat_2, zcat_3, zbl_0, zbl_1, true_and, and_true, ↓zret_some, ↓zret_none, Nat.reduceAdd, Nat.reduceLeDiff, Nat.reduceMul, eq_self, Int.reduceToNat, zkc_0, zin_1, zin_2, zin_3, zin_4, zin_5, zin_6, zin_7, zin_8, zin_9, zaa_9, zkc_10, zin_11, zin_12, zkc_13, zin_14, zin_15, zkc_16, zin_17, zin_18, zkc_19, zin_20, zin_21, zin_22, zin_23, zin_24, zin_25, zin_26, zin_27, zin_28, zaa_28, zkc_29, zin_30, zin_31, zkc_32, zin_33, zin_34, zkc_35, zin_36, zin_37, zkc_38, zin_39, zin_40, zin_41, zin_42, zin_43, zin_44, zin_45, zin_46, zin_47, zaa_47, zkc_48, zin_49, zin_50, zkc_51, zin_52, zin_53, zkc_54, zin_55, zin_56, zkc_209, zkc_210, zin_211, zaa_211, zkc_212, zin_213, zkc_214, zkc_215, zin_216, zin_217, zkc_218, zin_219, zin_220, zin_221, zkc_222, zin_223, zaa_223, zin_224, zin_225, zkc_226, zin_227, zin_228, zin_229, zin_230, zin_231, zin_232, zkc_233, zin_234, zaa_234, zin_235, zin_236, zin_237, zin_238, zin_239, zin_240, zin_241, zin_242, zin_243, zin_244, zin_245, zin_246, zin_247, zin_248, zin_249, zin_250, zkc_251, zin_252, zin_253, zkc_374, zin_375, zin_376, zin_377, zin_378, zin_379, zin_380, zin_381, zin_382, zin_383, zin_384, zin_385, zin_386, zin_387, hj0, hrow, Int.toNat_natCast]
  exact h9
