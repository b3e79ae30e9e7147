/-! ### execute: the reference -/
theorem rsn_b {S : zM} {k a b c : Int} (hk : ltr k) (h : prl k → b = c) : rsn S k a b = rsn S k a c := by
  rcases hk with hk | rfl | rfl | rfl
  · rw [h hk]
  · rw [rsn_l, rsn_l]
  · rw [rsn_x, rsn_x]
  · rw [rsn_g, rsn_g]
theorem nw_b {S : zM} {k a b c : Int} (hk : ltr k) (h : prl k → b = c) : nwS S k a b = nwS S k a c := by
  rcases hk with hk | rfl | rfl | rfl
  · rw [h hk]
  · rw [nw_l, nw_l]
  · rw [nw_x, nw_x]
  · rw [nw_g, nw_g]
theorem IR_repl {B C : Int} {Y : zX} {M T : zM} {k : Nat} (hY : WX B Y) (hI : IR (push Y (Y 0)) M) (hk : ((k : Nat) : Int) = push Y (Y 0) 10 0 0) (hT : RelR' M 2580 T) (hW : Wb C T) : IR (push Y T) (cpR M 10 k 258) := by
  have hn := hY.2.1
  have hX2 := WX_push hY hY.1
  have hpn := push_n (Y 0) hn
  have hpn2 := push_n T hn
  have hk8 : 1 ≤ k ∧ k ≤ 8 := by
    rw [hpn] at hk
    split at hk <;> omega
  obtain ⟨h1, i2, i3, i4, i5, i6, i7, i8, i9⟩ := hI
  have z1 : ∀ b, b ≠ 375 → cpR M 10 k 258 b = M b := fun b hb => cpR_ne M 10 k 258 hb
  unfold IR
  rw [push_0, push_9 T hn, z1 374 (by omega), z1 385 (by omega), push_o T hn (show (0 : Nat) ≠ 0 ∨ 1 ≠ 0 by omega), push_o T hn (show (0 : Nat) ≠ 0 ∨ 2 ≠ 0 by omega), push_o T hn (show (0 : Nat) ≠ 0 ∨ 3 ≠ 0 by omega), push_o T hn (show (0 : Nat) ≠ 0 ∨ 4 ≠ 0 by omega), hpn2, ← hpn]
  rw [push_0] at h1
  rw [push_9 (Y 0) hn] at i5
  rw [push_o (Y 0) hn (show (0 : Nat) ≠ 0 ∨ 1 ≠ 0 by omega)] at i4 i5
  rw [push_o (Y 0) hn (show (0 : Nat) ≠ 0 ∨ 2 ≠ 0 by omega)] at i6 i7
  rw [push_o (Y 0) hn (show (0 : Nat) ≠ 0 ∨ 3 ≠ 0 by omega)] at i8 i9
  rw [push_o (Y 0) hn (show (0 : Nat) ≠ 0 ∨ 4 ≠ 0 by omega)] at i9
  refine ⟨RelR'_shift (o := 0) (p := 0) hY.1.1 (fun j hj => cpR_off M 10 k (by omega)) h1, i2, fun q q1 q2 => ?_, i4, fun z => RelR'_shift (hY.2.2.2.2.1 z).1 (fun j hj => cpR_off M 10 k (by omega)) (i5 z), i6, fun j hj => ?_, i8, i9⟩
  · have q3 : (q : Int) ≤ push Y T 10 0 0 := by rw [hpn2, ← hpn]; exact q2
    have p1 := push_k T hn q1 q3
    have p2 := push_k (Y 0) hn q1 q2
    rw [hpn2, ← hpn, ← hk] at p1
    rw [← hk] at p2 q2
    by_cases z : q = k
    · subst z
      rw [if_pos rfl] at p1
      rw [p1]
      exact RelR'_shift (o := 2580) hW.1 (fun j hj => cpR_to M 10 q j hj) hT
    · rw [if_neg (by omega)] at p1 p2
      have hw := hX2.2.2.1 q q1 (by rw [← hk]; exact q2)
      have h9 := i3 q q1 (by rw [← hk]; exact q2)
      rw [p1]
      rw [p2] at h9 hw
      exact RelR'_shift hw.1 (fun j hj => cpR_off M 10 k (by omega)) h9
  · rw [push_o T hn (Or.inl (by omega))]
    have := i7 j hj
    rw [push_o (Y 0) hn (Or.inl (by omega))] at this
    exact this
theorem s_rexec2 (d : Nat) (Q : zQ) (B : Int) (X : zX) (M N : zM) (n : Nat) (w1 w2 : Option zV) (hB : B ≤ 700000000) (hI : IR X M) (hX : WX B X) (hn : X 10 0 2 = n)
    (hk : per (X 10 1) n 30 0 = -1 → pct (X 10 1) n 30 0 ≤ 20 ∧ (∀ j, j < pct (X 10 1) n 30 0 → cok (X 10 1) n (pst (X 10 1) n j)))
    (hE : per (X 10 1) n 30 0 ≠ -1 → ∀ N, IR (tpX X) N → (∀ b, b < 374 → N b = M b) → Q (some (.inl (-100 - per (X 10 1) n 30 0))) N)
    (hF : per (X 10 1) n 30 0 = -1 → ∀ i, i < pct (X 10 1) n 30 0 → (∀ j, j < i → rk (X 0) (X 10 1) n j = 0) → rk (X 0) (X 10 1) n i ≠ 0 → ∀ N, IR (rfX (tpX X) i (rk (X 0) (X 10 1) n i)) N → (∀ b, b < 374 → N b = M b) → Q (some (.inl (-200 - rk (X 0) (X 10 1) n i))) N)
    (hS : per (X 10 1) n 30 0 = -1 → (∀ j, j < pct (X 10 1) n 30 0 → rk (X 0) (X 10 1) n j = 0) → ∀ N, IR (push (setX (tpX X) (Wk (X 0) (X 10 1) n (pct (X 10 1) n 30 0))) (X 0)) N → (∀ b, b < 374 → N b = M b) → Q (some (.inl ((pct (X 10 1) n 30 0 : Nat) : Int))) N)
    (hM : Fo M N) (h17 : N 374 17 = per (X 10 1) n 30 0) (h20 : per (X 10 1) n 30 0 = -1 → N 374 20 = ((pct (X 10 1) n 30 0 : Nat) : Int) ∧ ∀ i, i < pct (X 10 1) n 30 0 → Or1 N (X 10 1) n i) :
    RT (Sp (d + 9)) 163 Q 78 [some (.inr (.inr 374)), w1, w2] [] N := by
  have hX1 := WX_tp hX
  have e0 : tpX X 0 = X 0 := tp_k X (by omega)
  have hpr := per_rng (t := X 10 1) (n := n) 30 0 (Nat.zero_le n)
  have x6 := hX.2.2.2.2.2.1
  generalize ht : X 10 1 = t at *
  generalize hp : per t n 30 0 = pe at *
  generalize hm : pct t n 30 0 = m at *
  have hprr : -2147483648 ≤ pe ∧ pe < 2147483648 := by omega
  have hI1 : IR (tpX X) (zup N 374 15 0) := IR_tp hX hI (fun i _ => by rw [zup_ne _ _ _ (by omega), hM.1 375 (by omega) (by omega)]) (fun i hi => by rw [zup_off _ _ (by omega), hM.2 i (by omega) (by omega) (by omega)]) (zup_at _ _ _ _)
  have hlow : ∀ b, b < 374 → zup N 374 15 0 b = M b := fun b hb => by rw [zup_ne _ _ _ (by omega), hM.1 b (by omega) (by omega)]
  have e17 : zup N 374 15 0 374 17 = pe := by rw [zup_off _ _ (by omega), h17]
  by_cases hok : pe = -1
  · subst hok
    obtain ⟨g1, g2⟩ := h20 rfl
    obtain ⟨k20, hcok⟩ := hk rfl
    have hmr : -2147483648 ≤ (m : Int) ∧ (m : Int) < 2147483648 := ⟨by omega, by omega⟩
    have e20 : zup N 374 15 0 374 20 = ((m : Nat) : Int) := by rw [zup_off _ _ (by omega), g1]
    have eor : zup N 374 15 0 387 = N 387 := zup_ne _ _ _ (by omega)
    have hcp1 : ∀ Q, Sp (d + 9) 112 [.inr (.inr 374), .inl 0, .inl 10] (zup N 374 15 0) Q = Q none (cpR (zup N 374 15 0) 0 10 258) := fun Q => s_copies (d + 8) Q (zup N 374 15 0) 0 10 (by omega) (by omega) (by omega)
    have hR1 := hI1.1
    rw [e0] at hR1
    have hRt : RelR' (cpR (zup N 374 15 0) 0 10 258) 2580 (X 0) := RelR'_shift (o := 0) hX.1.1 (fun j hj => by have := cpR_to (zup N 374 15 0) 0 10 j hj; rw [show 258 * 0 + j = 0 + j by omega] at this; exact this) hR1
    have hR2 : RelR' (cpR (zup N 374 15 0) 0 10 258) 0 (X 0) := RelR'_shift (o := 0) (p := 0) hX.1.1 (fun j hj => cpR_off _ 0 10 (by omega)) hR1
    have hI2 : IR (tpX X) (cpR (zup N 374 15 0) 0 10 258) := by
      have := IR_set (S := tpX X 0) (N := cpR (zup N 374 15 0) 0 10 258) hX1 hI1 (by rw [e0]; exact hR2) (fun j j1 j2 => cpR_off _ 0 10 (by omega)) (fun j hj => by rw [cpR_ne _ 0 10 258 (by omega)]) (cpR_ne _ 0 10 258 (by omega))
      rw [setX_self] at this
      exact this
    have l2 : ∀ b, b < 374 → cpR (zup N 374 15 0) 0 10 258 b = M b := fun b hb => by rw [cpR_ne _ 0 10 258 (by omega), hlow b hb]
    have o2 : cpR (zup N 374 15 0) 0 10 258 387 = N 387 := by rw [cpR_ne _ 0 10 258 (by omega), eor]
    have c2 : cpR (zup N 374 15 0) 0 10 258 374 20 = ((m : Nat) : Int) := by rw [cpR_ne _ 0 10 258 (by omega), e20]
    simp only [↓e163, ↓e163_0, ↓e163_1, ↓e163_2, ↓e163_5, ↓e163_6, ↓e163_7, ↓e163_10, ↓e163_11, ↓e163_12, ↓e163_15, ↓e163_16, ↓e163_19, ↓e163_20, ↓e163_23, ↓e163_26, ↓e163_27, ↓e163_30, ↓e163_32, ↓e163_35, ↓e163_36, ↓e163_36i, ↓e163_37, ↓e163_40, ↓e163_41, ↓e163_42, ↓e163_45, ↓e163_46, ↓e163_49, ↓e163_52, ↓e163_53, ↓e163_56, ↓e163_59, ↓e163_60, ↓e163_63, ↓e163_64, ↓e163_67, ↓e163_70, ↓e163_71, ↓e163_72, ↓e163_75, ↓e163_78, ↓e163_79, ↓e163_80, ↓e163_83, ↓e163_84, ↓e163_87, ↓e163_90, ↓e163_92, ↓e163_93, ↓e163_96, ↓e163_97, ↓e163_98, ↓e163_99, ↓e163_100, ↓e163_102, ↓e163_105, ↓e163_106, ↓e163_108, ↓e163_109, ↓e163_112, ↓e163_115, ↓e163_116, ↓e163_117, ↓e163_120, ↓e163_121, ↓e163_122, ↓e163_123, ↓e163_124, ↓e163_125, ↓e163_128, ↓e163_129, ↓e163_130, ↓e163_131, ↓e163_132, ↓e163_133, ↓e163_134, ↓e163_135, ↓e163_138, ↓e163_139, ↓e163_140, ↓e163_141, ↓e163_142, ↓e163_143, ↓e163_144, ↓e163_147, ↓e163_148, ↓e163_149, ↓e163_152, ↓e163_153, ↓e163_155, ↓e163_156, ↓e163_159, ↓e163_160, ↓e163_161, ↓e163_164, ↓e163_165, ↓e163_166, ↓e163_169, ↓e163_172, ↓e163_173, ↓e163_174, ↓e163_175, ↓e163_176, ↓e163_177, ↓e163_180, ↓e163_181, ↓e163_182, ↓e163_183, ↓e163_184, ↓e163_185, ↓e163_188, ↓e163_189, ↓e163_190, ↓e163_191, ↓e163_192, ↓e163_193, ↓e163_194, ↓e163_195, ↓e163_198, ↓e163_199, ↓e163_200, ↓e163_201, ↓e163_202, ↓e163_203, ↓e163_204, ↓e163_207, ↓e163_210, ↓e163_213, ↓e163_214, ↓e163_217, ↓e163_218, ↓e163_220, ↓e163_221, ↓e163_224, ↓e163_227, ↓e163_228, ↓e163_231, znl_i, znl_r, znl_n, zcs_0, zcs_1, zcs_2, zcs_3, zcat_0, zcat_1, zcat_2, zcat_3, zbl_0, zbl_1, true_and, and_true, ↓zret_some, ↓zret_none, Nat.reduceAdd, Nat.reduceLeDiff, Nat.reduceMul, eq_self, Int.reduceToNat, Int.reduceLE, Int.reduceLT, Int.reduceNeg, and_self, zrg, zkc_0, zin_1, zin_2, zin_3, zin_4, zin_5, zin_6, zin_7, zin_8, zin_9, zaa_9, zkc_10, zin_11, zin_12, zkc_13, zin_14, zin_15, zkc_16, zin_17, zin_18, zkc_19, zin_20, zin_21, zin_22, zin_23, zin_24, zin_25, zin_26, zin_27, zin_28, zaa_28, zkc_29, zin_30, zin_31, zkc_32, zin_33, zin_34, zkc_35, zin_36, zin_37, zkc_38, zin_39, zin_40, zin_41, zin_42, zin_43, zin_44, zin_45, zin_46, zin_47, zaa_47, zkc_48, zin_49, zin_50, zkc_51, zin_52, zin_53, zkc_54, zin_55, zin_56, zkc_209, zkc_210, zin_211, zaa_211, zkc_212, zin_213, zkc_214, zkc_215, zin_216, zin_217, zkc_218, zin_219, zin_220, zin_221, zkc_222, zin_223, zaa_223, zin_224, zin_225, zkc_226, zin_227, zin_228, zin_229, zin_230, zin_231, zin_232, zkc_233, zin_234, zaa_234, zin_235, zin_236, zin_237, zin_238, zin_239, zin_240, zin_241, zin_242, zin_243, zin_244, zin_245, zin_246, zin_247, zin_248, zin_249, zin_250, zkc_251, zin_252, zin_253, zkc_374, zin_375, zin_376, zin_377, zin_378, zin_379, zin_380, zin_381, zin_382, zin_383, zin_384, zin_385, zin_386, zin_387, e17, show (-1 : Int) < 0 by omega, ↓reduceIte, ↓hcp1]
    generalize cpR (zup N 374 15 0) 0 10 258 = N2 at *
    have loop : ∀ q i : Nat, i + q = m → (∀ j, j < i → rk (X 0) t n j = 0) → ∀ N w, RelR' N 0 (Wk (X 0) t n i) → Gn N2 N → RT (Sp (d + 9)) 163 Q 107 [some (.inr (.inr 374)), some (.inl (i : Int)), w] [] N := by
      intro q
      induction q with
      | zero =>
        intro i hi hrk P w r1 r2
        obtain rfl : i = m := by omega
        have hWk := Wk_ok hX.1 i hcok hrk
        have hWX := WX_set (WX_mono (C := B + 400 * i) (by omega) hX1) hWk
        have k3 : P 374 20 = (i : Int) := by rw [r2.2.2 20 (by omega) (by omega)]; exact c2
        have hI3 : IR (setX (tpX X) (Wk (X 0) t n i)) P := IR_set hX1 hI2 r1 (fun j j1 j2 => r2.2.1 j (by omega)) (fun j hj => r2.2.2 j (by omega) (by omega)) (r2.1 385 (by omega))
        have hRt3 : RelR' P 2580 (X 0) := RelR'_shift (o := 2580) hX.1.1 (fun j hj => r2.2.1 _ (by omega)) hRt
        rw [e163_107]
        simp only [↓e163, ↓e163_0, ↓e163_1, ↓e163_2, ↓e163_5, ↓e163_6, ↓e163_7, ↓e163_10, ↓e163_11, ↓e163_12, ↓e163_15, ↓e163_16, ↓e163_19, ↓e163_20, ↓e163_23, ↓e163_26, ↓e163_27, ↓e163_30, ↓e163_32, ↓e163_35, ↓e163_36, ↓e163_36i, ↓e163_37, ↓e163_40, ↓e163_41, ↓e163_42, ↓e163_45, ↓e163_46, ↓e163_49, ↓e163_52, ↓e163_53, ↓e163_56, ↓e163_59, ↓e163_60, ↓e163_63, ↓e163_64, ↓e163_67, ↓e163_70, ↓e163_71, ↓e163_72, ↓e163_75, ↓e163_78, ↓e163_79, ↓e163_80, ↓e163_83, ↓e163_84, ↓e163_87, ↓e163_90, ↓e163_92, ↓e163_93, ↓e163_96, ↓e163_97, ↓e163_98, ↓e163_99, ↓e163_100, ↓e163_102, ↓e163_105, ↓e163_106, ↓e163_108, ↓e163_109, ↓e163_112, ↓e163_115, ↓e163_116, ↓e163_117, ↓e163_120, ↓e163_121, ↓e163_122, ↓e163_123, ↓e163_124, ↓e163_125, ↓e163_128, ↓e163_129, ↓e163_130, ↓e163_131, ↓e163_132, ↓e163_133, ↓e163_134, ↓e163_135, ↓e163_138, ↓e163_139, ↓e163_140, ↓e163_141, ↓e163_142, ↓e163_143, ↓e163_144, ↓e163_147, ↓e163_148, ↓e163_149, ↓e163_152, ↓e163_153, ↓e163_155, ↓e163_156, ↓e163_159, ↓e163_160, ↓e163_161, ↓e163_164, ↓e163_165, ↓e163_166, ↓e163_169, ↓e163_172, ↓e163_173, ↓e163_174, ↓e163_175, ↓e163_176, ↓e163_177, ↓e163_180, ↓e163_181, ↓e163_182, ↓e163_183, ↓e163_184, ↓e163_185, ↓e163_188, ↓e163_189, ↓e163_190, ↓e163_191, ↓e163_192, ↓e163_193, ↓e163_194, ↓e163_195, ↓e163_198, ↓e163_199, ↓e163_200, ↓e163_201, ↓e163_202, ↓e163_203, ↓e163_204, ↓e163_207, ↓e163_210, ↓e163_213, ↓e163_214, ↓e163_217, ↓e163_218, ↓e163_220, ↓e163_221, ↓e163_224, ↓e163_227, ↓e163_228, ↓e163_231, znl_i, znl_r, znl_n, zcs_0, zcs_1, zcs_2, zcs_3, zcat_0, zcat_1, zcat_2, zcat_3, zbl_0, zbl_1, true_and, and_true, ↓zret_some, ↓zret_none, Nat.reduceAdd, Nat.reduceLeDiff, Nat.reduceMul, eq_self, Int.reduceToNat, Int.reduceLE, Int.reduceLT, Int.reduceNeg, and_self, zrg, zkc_0, zin_1, zin_2, zin_3, zin_4, zin_5, zin_6, zin_7, zin_8, zin_9, zaa_9, zkc_10, zin_11, zin_12, zkc_13, zin_14, zin_15, zkc_16, zin_17, zin_18, zkc_19, zin_20, zin_21, zin_22, zin_23, zin_24, zin_25, zin_26, zin_27, zin_28, zaa_28, zkc_29, zin_30, zin_31, zkc_32, zin_33, zin_34, zkc_35, zin_36, zin_37, zkc_38, zin_39, zin_40, zin_41, zin_42, zin_43, zin_44, zin_45, zin_46, zin_47, zaa_47, zkc_48, zin_49, zin_50, zkc_51, zin_52, zin_53, zkc_54, zin_55, zin_56, zkc_209, zkc_210, zin_211, zaa_211, zkc_212, zin_213, zkc_214, zkc_215, zin_216, zin_217, zkc_218, zin_219, zin_220, zin_221, zkc_222, zin_223, zaa_223, zin_224, zin_225, zkc_226, zin_227, zin_228, zin_229, zin_230, zin_231, zin_232, zkc_233, zin_234, zaa_234, zin_235, zin_236, zin_237, zin_238, zin_239, zin_240, zin_241, zin_242, zin_243, zin_244, zin_245, zin_246, zin_247, zin_248, zin_249, zin_250, zkc_251, zin_252, zin_253, zkc_374, zin_375, zin_376, zin_377, zin_378, zin_379, zin_380, zin_381, zin_382, zin_383, zin_384, zin_385, zin_386, zin_387, k3, hmr, ge_iff_le, Int.le_refl, ↓reduceIte]
        refine s_keeps (d + 7) _ P _ (B + 400 * i) hWX hI3 (fun P2 v1 v2 v3 v4 => ?_)
        rw [zret_none]
        have hpn := push_n (setX (tpX X) (Wk (X 0) t n i) 0) hWX.2.1
        obtain ⟨kk, hkk⟩ : ∃ kk : Nat, P2 374 1 = kk ∧ 1 ≤ kk ∧ kk ≤ 8 := by
          have h1 := v1.2.1
          have h2 := hWX.2.1
          rw [hpn] at h1
          refine ⟨(P2 374 1).toNat, ?_⟩
          split at h1 <;> omega
        have hRt4 : RelR' P2 2580 (X 0) := RelR'_shift (o := 2580) hX.1.1 (fun j hj => v4 _ (by omega)) hRt3
        have hcp2 : ∀ Q, Sp (d + 9) 112 [.inr (.inr 374), .inl 10, .inl (kk : Int)] P2 Q = Q none (cpR P2 10 kk 258) := fun Q => s_copies (d + 8) Q P2 10 kk (by omega) (by omega) (by omega)
        have k4 : cpR P2 10 kk 258 374 20 = (i : Int) := by rw [cpR_ne _ 10 kk 258 (by omega), v3 20 (by omega), k3]
        have hI4 := IR_repl hWX v1 (hkk.1.symm.trans v1.2.1) hRt4 hX.1
        simp only [↓e163, ↓e163_0, ↓e163_1, ↓e163_2, ↓e163_5, ↓e163_6, ↓e163_7, ↓e163_10, ↓e163_11, ↓e163_12, ↓e163_15, ↓e163_16, ↓e163_19, ↓e163_20, ↓e163_23, ↓e163_26, ↓e163_27, ↓e163_30, ↓e163_32, ↓e163_35, ↓e163_36, ↓e163_36i, ↓e163_37, ↓e163_40, ↓e163_41, ↓e163_42, ↓e163_45, ↓e163_46, ↓e163_49, ↓e163_52, ↓e163_53, ↓e163_56, ↓e163_59, ↓e163_60, ↓e163_63, ↓e163_64, ↓e163_67, ↓e163_70, ↓e163_71, ↓e163_72, ↓e163_75, ↓e163_78, ↓e163_79, ↓e163_80, ↓e163_83, ↓e163_84, ↓e163_87, ↓e163_90, ↓e163_92, ↓e163_93, ↓e163_96, ↓e163_97, ↓e163_98, ↓e163_99, ↓e163_100, ↓e163_102, ↓e163_105, ↓e163_106, ↓e163_108, ↓e163_109, ↓e163_112, ↓e163_115, ↓e163_116, ↓e163_117, ↓e163_120, ↓e163_121, ↓e163_122, ↓e163_123, ↓e163_124, ↓e163_125, ↓e163_128, ↓e163_129, ↓e163_130, ↓e163_131, ↓e163_132, ↓e163_133, ↓e163_134, ↓e163_135, ↓e163_138, ↓e163_139, ↓e163_140, ↓e163_141, ↓e163_142, ↓e163_143, ↓e163_144, ↓e163_147, ↓e163_148, ↓e163_149, ↓e163_152, ↓e163_153, ↓e163_155, ↓e163_156, ↓e163_159, ↓e163_160, ↓e163_161, ↓e163_164, ↓e163_165, ↓e163_166, ↓e163_169, ↓e163_172, ↓e163_173, ↓e163_174, ↓e163_175, ↓e163_176, ↓e163_177, ↓e163_180, ↓e163_181, ↓e163_182, ↓e163_183, ↓e163_184, ↓e163_185, ↓e163_188, ↓e163_189, ↓e163_190, ↓e163_191, ↓e163_192, ↓e163_193, ↓e163_194, ↓e163_195, ↓e163_198, ↓e163_199, ↓e163_200, ↓e163_201, ↓e163_202, ↓e163_203, ↓e163_204, ↓e163_207, ↓e163_210, ↓e163_213, ↓e163_214, ↓e163_217, ↓e163_218, ↓e163_220, ↓e163_221, ↓e163_224, ↓e163_227, ↓e163_228, ↓e163_231, znl_i, znl_r, znl_n, zcs_0, zcs_1, zcs_2, zcs_3, zcat_0, zcat_1, zcat_2, zcat_3, zbl_0, zbl_1, true_and, and_true, ↓zret_some, ↓zret_none, Nat.reduceAdd, Nat.reduceLeDiff, Nat.reduceMul, eq_self, Int.reduceToNat, Int.reduceLE, Int.reduceLT, Int.reduceNeg, and_self, zrg, zkc_0, zin_1, zin_2, zin_3, zin_4, zin_5, zin_6, zin_7, zin_8, zin_9, zaa_9, zkc_10, zin_11, zin_12, zkc_13, zin_14, zin_15, zkc_16, zin_17, zin_18, zkc_19, zin_20, zin_21, zin_22, zin_23, zin_24, zin_25, zin_26, zin_27, zin_28, zaa_28, zkc_29, zin_30, zin_31, zkc_32, zin_33, zin_34, zkc_35, zin_36, zin_37, zkc_38, zin_39, zin_40, zin_41, zin_42, zin_43, zin_44, zin_45, zin_46, zin_47, zaa_47, zkc_48, zin_49, zin_50, zkc_51, zin_52, zin_53, zkc_54, zin_55, zin_56, zkc_209, zkc_210, zin_211, zaa_211, zkc_212, zin_213, zkc_214, zkc_215, zin_216, zin_217, zkc_218, zin_219, zin_220, zin_221, zkc_222, zin_223, zaa_223, zin_224, zin_225, zkc_226, zin_227, zin_228, zin_229, zin_230, zin_231, zin_232, zkc_233, zin_234, zaa_234, zin_235, zin_236, zin_237, zin_238, zin_239, zin_240, zin_241, zin_242, zin_243, zin_244, zin_245, zin_246, zin_247, zin_248, zin_249, zin_250, zkc_251, zin_252, zin_253, zkc_374, zin_375, zin_376, zin_377, zin_378, zin_379, zin_380, zin_381, zin_382, zin_383, zin_384, zin_385, zin_386, zin_387, hkk.1, ↓hcp2, k4, hmr]
        exact hS rfl hrk _ hI4 (fun b hb => by rw [cpR_ne _ 10 kk 258 (by omega), v2 b (by omega) (by omega), r2.1 b (by omega)]; exact l2 b hb)
      | succ q ih =>
        intro i hi hrk P w r1 r2
        have hWk := Wk_ok hX.1 i (fun j hj => hcok j (by omega)) hrk
        have k3 : P 374 20 = (m : Int) := by rw [r2.2.2 20 (by omega) (by omega)]; exact c2
        have hk1 : ¬ (i : Int) ≥ (m : Int) := by omega
        have hk2 : -2147483648 ≤ (i : Int) ∧ (i : Int) < 2147483648 := ⟨by omega, by omega⟩
        have b0 : 0 ≤ 3 * (i : Int) ∧ 3 * (i : Int) < 180 := ⟨by omega, by omega⟩
        have b1 : 0 ≤ 3 * (i : Int) + 1 ∧ 3 * (i : Int) + 1 < 180 := ⟨by omega, by omega⟩
        have b2 : 0 ≤ 3 * (i : Int) + 2 ∧ 3 * (i : Int) + 2 < 180 := ⟨by omega, by omega⟩
        have d0 : (3 * (i : Int)).toNat = 3 * i := by omega
        have d1 : (3 * (i : Int) + 1).toNat = 3 * i + 1 := by omega
        have d2 : (3 * (i : Int) + 2).toNat = 3 * i + 2 := by omega
        have hco := hcok i (by omega)
        obtain ⟨o3, o4, o5⟩ := g2 i (by omega)
        have eP : P 387 = N 387 := by rw [r2.1 387 (by omega), o2]
        rw [← eP] at o3 o4 o5
        have hrb : rsn (Wk (X 0) t n i) (t (pst t n i)) (nv t n (pst t n i + 1)) (P 387 (3 * i + 2)) = rk (X 0) t n i := rsn_b hco.1.2 o5
        have hnb : nwS (Wk (X 0) t n i) (t (pst t n i)) (nv t n (pst t n i + 1)) (P 387 (3 * i + 2)) = Wk (X 0) t n (i + 1) := nw_b hco.1.2 o5
        have hrg := rsn_rng (Wk (X 0) t n i) (t (pst t n i)) (nv t n (pst t n i + 1)) (P 387 (3 * i + 2))
        rw [hrb] at hrg
        have hrr : -2147483648 ≤ rk (X 0) t n i ∧ rk (X 0) t n i < 2147483648 := ⟨by omega, by omega⟩
        have hbr : prl (t (pst t n i)) → -5 ≤ P 387 (3 * i + 2) ∧ P 387 (3 * i + 2) ≤ 99 := fun z => by rw [o5 z]; exact csn_rng
        have href := fun Q => s_rRefusal (d + 5) Q P (Wk (X 0) t n i) (t (pst t n i)) (nv t n (pst t n i + 1)) (P 387 (3 * i + 2)) hco.1.2 nv_rng hbr r1.1 hWk.1
        simp only [hrb] at href
        rw [e163_107]
        by_cases hne : rk (X 0) t n i = 0
        · simp only [↓e163, ↓e163_0, ↓e163_1, ↓e163_2, ↓e163_5, ↓e163_6, ↓e163_7, ↓e163_10, ↓e163_11, ↓e163_12, ↓e163_15, ↓e163_16, ↓e163_19, ↓e163_20, ↓e163_23, ↓e163_26, ↓e163_27, ↓e163_30, ↓e163_32, ↓e163_35, ↓e163_36, ↓e163_36i, ↓e163_37, ↓e163_40, ↓e163_41, ↓e163_42, ↓e163_45, ↓e163_46, ↓e163_49, ↓e163_52, ↓e163_53, ↓e163_56, ↓e163_59, ↓e163_60, ↓e163_63, ↓e163_64, ↓e163_67, ↓e163_70, ↓e163_71, ↓e163_72, ↓e163_75, ↓e163_78, ↓e163_79, ↓e163_80, ↓e163_83, ↓e163_84, ↓e163_87, ↓e163_90, ↓e163_92, ↓e163_93, ↓e163_96, ↓e163_97, ↓e163_98, ↓e163_99, ↓e163_100, ↓e163_102, ↓e163_105, ↓e163_106, ↓e163_108, ↓e163_109, ↓e163_112, ↓e163_115, ↓e163_116, ↓e163_117, ↓e163_120, ↓e163_121, ↓e163_122, ↓e163_123, ↓e163_124, ↓e163_125, ↓e163_128, ↓e163_129, ↓e163_130, ↓e163_131, ↓e163_132, ↓e163_133, ↓e163_134, ↓e163_135, ↓e163_138, ↓e163_139, ↓e163_140, ↓e163_141, ↓e163_142, ↓e163_143, ↓e163_144, ↓e163_147, ↓e163_148, ↓e163_149, ↓e163_152, ↓e163_153, ↓e163_155, ↓e163_156, ↓e163_159, ↓e163_160, ↓e163_161, ↓e163_164, ↓e163_165, ↓e163_166, ↓e163_169, ↓e163_172, ↓e163_173, ↓e163_174, ↓e163_175, ↓e163_176, ↓e163_177, ↓e163_180, ↓e163_181, ↓e163_182, ↓e163_183, ↓e163_184, ↓e163_185, ↓e163_188, ↓e163_189, ↓e163_190, ↓e163_191, ↓e163_192, ↓e163_193, ↓e163_194, ↓e163_195, ↓e163_198, ↓e163_199, ↓e163_200, ↓e163_201, ↓e163_202, ↓e163_203, ↓e163_204, ↓e163_207, ↓e163_210, ↓e163_213, ↓e163_214, ↓e163_217, ↓e163_218, ↓e163_220, ↓e163_221, ↓e163_224, ↓e163_227, ↓e163_228, ↓e163_231, znl_i, znl_r, znl_n, zcs_0, zcs_1, zcs_2, zcs_3, zcat_0, zcat_1, zcat_2, zcat_3, zbl_0, zbl_1, true_and, and_true, ↓zret_some, ↓zret_none, Nat.reduceAdd, Nat.reduceLeDiff, Nat.reduceMul, eq_self, Int.reduceToNat, Int.reduceLE, Int.reduceLT, Int.reduceNeg, and_self, zrg, zkc_0, zin_1, zin_2, zin_3, zin_4, zin_5, zin_6, zin_7, zin_8, zin_9, zaa_9, zkc_10, zin_11, zin_12, zkc_13, zin_14, zin_15, zkc_16, zin_17, zin_18, zkc_19, zin_20, zin_21, zin_22, zin_23, zin_24, zin_25, zin_26, zin_27, zin_28, zaa_28, zkc_29, zin_30, zin_31, zkc_32, zin_33, zin_34, zkc_35, zin_36, zin_37, zkc_38, zin_39, zin_40, zin_41, zin_42, zin_43, zin_44, zin_45, zin_46, zin_47, zaa_47, zkc_48, zin_49, zin_50, zkc_51, zin_52, zin_53, zkc_54, zin_55, zin_56, zkc_209, zkc_210, zin_211, zaa_211, zkc_212, zin_213, zkc_214, zkc_215, zin_216, zin_217, zkc_218, zin_219, zin_220, zin_221, zkc_222, zin_223, zaa_223, zin_224, zin_225, zkc_226, zin_227, zin_228, zin_229, zin_230, zin_231, zin_232, zkc_233, zin_234, zaa_234, zin_235, zin_236, zin_237, zin_238, zin_239, zin_240, zin_241, zin_242, zin_243, zin_244, zin_245, zin_246, zin_247, zin_248, zin_249, zin_250, zkc_251, zin_252, zin_253, zkc_374, zin_375, zin_376, zin_377, zin_378, zin_379, zin_380, zin_381, zin_382, zin_383, zin_384, zin_385, zin_386, zin_387, k3, hmr, hk1, hk2, b0, b1, b2, d0, d1, d2, ↓reduceIte, o3, o4, ↓href, hne]
          have hC0 := Wb_B0 hX.1
          refine s_carries d _ P (Wk (X 0) t n i) (B + 400 * i).toNat (t (pst t n i)) (nv t n (pst t n i + 1)) (P 387 (3 * i + 2)) (by omega) hco.1.2 nv_rng hbr (hrb.trans hne) r1 (by rw [show (((B + 400 * (i : Int)).toNat : Nat) : Int) = B + 400 * i by omega]; exact hWk) (fun P3 v1 v2 => ?_)
          rw [zret_none]
          rw [hnb] at v1
          have h9 := ih (i + 1) (by omega) (fun j hj => by
            by_cases z : j = i
            · subst z; exact hne
            · exact hrk j (by omega)) P3 (some (.inl 0)) v1 (Gn_trans r2 v2)
          simp only [↓e163, ↓e163_0, ↓e163_1, ↓e163_2, ↓e163_5, ↓e163_6, ↓e163_7, ↓e163_10, ↓e163_11, ↓e163_12, ↓e163_15, ↓e163_16, ↓e163_19, ↓e163_20, ↓e163_23, ↓e163_26, ↓e163_27, ↓e163_30, ↓e163_32, ↓e163_35, ↓e163_36, ↓e163_36i, ↓e163_37, ↓e163_40, ↓e163_41, ↓e163_42, ↓e163_45, ↓e163_46, ↓e163_49, ↓e163_52, ↓e163_53, ↓e163_56, ↓e163_59, ↓e163_60, ↓e163_63, ↓e163_64, ↓e163_67, ↓e163_70, ↓e163_71, ↓e163_72, ↓e163_75, ↓e163_78, ↓e163_79, ↓e163_80, ↓e163_83, ↓e163_84, ↓e163_87, ↓e163_90, ↓e163_92, ↓e163_93, ↓e163_96, ↓e163_97, ↓e163_98, ↓e163_99, ↓e163_100, ↓e163_102, ↓e163_105, ↓e163_106, ↓e163_108, ↓e163_109, ↓e163_112, ↓e163_115, ↓e163_116, ↓e163_117, ↓e163_120, ↓e163_121, ↓e163_122, ↓e163_123, ↓e163_124, ↓e163_125, ↓e163_128, ↓e163_129, ↓e163_130, ↓e163_131, ↓e163_132, ↓e163_133, ↓e163_134, ↓e163_135, ↓e163_138, ↓e163_139, ↓e163_140, ↓e163_141, ↓e163_142, ↓e163_143, ↓e163_144, ↓e163_147, ↓e163_148, ↓e163_149, ↓e163_152, ↓e163_153, ↓e163_155, ↓e163_156, ↓e163_159, ↓e163_160, ↓e163_161, ↓e163_164, ↓e163_165, ↓e163_166, ↓e163_169, ↓e163_172, ↓e163_173, ↓e163_174, ↓e163_175, ↓e163_176, ↓e163_177, ↓e163_180, ↓e163_181, ↓e163_182, ↓e163_183, ↓e163_184, ↓e163_185, ↓e163_188, ↓e163_189, ↓e163_190, ↓e163_191, ↓e163_192, ↓e163_193, ↓e163_194, ↓e163_195, ↓e163_198, ↓e163_199, ↓e163_200, ↓e163_201, ↓e163_202, ↓e163_203, ↓e163_204, ↓e163_207, ↓e163_210, ↓e163_213, ↓e163_214, ↓e163_217, ↓e163_218, ↓e163_220, ↓e163_221, ↓e163_224, ↓e163_227, ↓e163_228, ↓e163_231, znl_i, znl_r, znl_n, zcs_0, zcs_1, zcs_2, zcs_3, zcat_0, zcat_1, zcat_2, zcat_3, zbl_0, zbl_1, true_and, and_true, ↓zret_some, ↓zret_none, Nat.reduceAdd, Nat.reduceLeDiff, Nat.reduceMul, eq_self, Int.reduceToNat, Int.reduceLE, Int.reduceLT, Int.reduceNeg, and_self, zrg, zkc_0, zin_1, zin_2, zin_3, zin_4, zin_5, zin_6, zin_7, zin_8, zin_9, zaa_9, zkc_10, zin_11, zin_12, zkc_13, zin_14, zin_15, zkc_16, zin_17, zin_18, zkc_19, zin_20, zin_21, zin_22, zin_23, zin_24, zin_25, zin_26, zin_27, zin_28, zaa_28, zkc_29, zin_30, zin_31, zkc_32, zin_33, zin_34, zkc_35, zin_36, zin_37, zkc_38, zin_39, zin_40, zin_41, zin_42, zin_43, zin_44, zin_45, zin_46, zin_47, zaa_47, zkc_48, zin_49, zin_50, zkc_51, zin_52, zin_53, zkc_54, zin_55, zin_56, zkc_209, zkc_210, zin_211, zaa_211, zkc_212, zin_213, zkc_214, zkc_215, zin_216, zin_217, zkc_218, zin_219, zin_220, zin_221, zkc_222, zin_223, zaa_223, zin_224, zin_225, zkc_226, zin_227, zin_228, zin_229, zin_230, zin_231, zin_232, zkc_233, zin_234, zaa_234, zin_235, zin_236, zin_237, zin_238, zin_239, zin_240, zin_241, zin_242, zin_243, zin_244, zin_245, zin_246, zin_247, zin_248, zin_249, zin_250, zkc_251, zin_252, zin_253, zkc_374, zin_375, zin_376, zin_377, zin_378, zin_379, zin_380, zin_381, zin_382, zin_383, zin_384, zin_385, zin_386, zin_387, hk2]
          rw [show ((i : Int) + 1) = ((i + 1 : Nat) : Int) by omega]
          exact h9
        · have hcp3 : ∀ Q, Sp (d + 9) 112 [.inr (.inr 374), .inl 10, .inl 0] P Q = Q none (cpR P 10 0 258) := fun Q => s_copies (d + 8) Q P 10 0 (by omega) (by omega) (by omega)
          have hRt3 : RelR' P 2580 (X 0) := RelR'_shift (o := 2580) hX.1.1 (fun j hj => r2.2.1 _ (by omega)) hRt
          have hR5 : RelR' (cpR P 10 0 258) 0 (X 0) := RelR'_shift (o := 2580) hX.1.1 (fun j hj => by have := cpR_to P 10 0 j hj; rw [show 258 * 0 + j = 0 + j by omega] at this; exact this) hRt3
          have hI5 : IR (tpX X) (cpR P 10 0 258) := by
            have := IR_set (S := tpX X 0) (N := cpR P 10 0 258) hX1 hI2 (by rw [e0]; exact hR5) (fun j j1 j2 => by rw [cpR_off P 10 0 (by omega)]; exact r2.2.1 j (by omega)) (fun j hj => by rw [cpR_ne _ 10 0 258 (by omega)]; exact r2.2.2 j (by omega) (by omega)) (by rw [cpR_ne _ 10 0 258 (by omega)]; exact r2.1 385 (by omega))
            rw [setX_self] at this
            exact this
          simp only [↓e163, ↓e163_0, ↓e163_1, ↓e163_2, ↓e163_5, ↓e163_6, ↓e163_7, ↓e163_10, ↓e163_11, ↓e163_12, ↓e163_15, ↓e163_16, ↓e163_19, ↓e163_20, ↓e163_23, ↓e163_26, ↓e163_27, ↓e163_30, ↓e163_32, ↓e163_35, ↓e163_36, ↓e163_36i, ↓e163_37, ↓e163_40, ↓e163_41, ↓e163_42, ↓e163_45, ↓e163_46, ↓e163_49, ↓e163_52, ↓e163_53, ↓e163_56, ↓e163_59, ↓e163_60, ↓e163_63, ↓e163_64, ↓e163_67, ↓e163_70, ↓e163_71, ↓e163_72, ↓e163_75, ↓e163_78, ↓e163_79, ↓e163_80, ↓e163_83, ↓e163_84, ↓e163_87, ↓e163_90, ↓e163_92, ↓e163_93, ↓e163_96, ↓e163_97, ↓e163_98, ↓e163_99, ↓e163_100, ↓e163_102, ↓e163_105, ↓e163_106, ↓e163_108, ↓e163_109, ↓e163_112, ↓e163_115, ↓e163_116, ↓e163_117, ↓e163_120, ↓e163_121, ↓e163_122, ↓e163_123, ↓e163_124, ↓e163_125, ↓e163_128, ↓e163_129, ↓e163_130, ↓e163_131, ↓e163_132, ↓e163_133, ↓e163_134, ↓e163_135, ↓e163_138, ↓e163_139, ↓e163_140, ↓e163_141, ↓e163_142, ↓e163_143, ↓e163_144, ↓e163_147, ↓e163_148, ↓e163_149, ↓e163_152, ↓e163_153, ↓e163_155, ↓e163_156, ↓e163_159, ↓e163_160, ↓e163_161, ↓e163_164, ↓e163_165, ↓e163_166, ↓e163_169, ↓e163_172, ↓e163_173, ↓e163_174, ↓e163_175, ↓e163_176, ↓e163_177, ↓e163_180, ↓e163_181, ↓e163_182, ↓e163_183, ↓e163_184, ↓e163_185, ↓e163_188, ↓e163_189, ↓e163_190, ↓e163_191, ↓e163_192, ↓e163_193, ↓e163_194, ↓e163_195, ↓e163_198, ↓e163_199, ↓e163_200, ↓e163_201, ↓e163_202, ↓e163_203, ↓e163_204, ↓e163_207, ↓e163_210, ↓e163_213, ↓e163_214, ↓e163_217, ↓e163_218, ↓e163_220, ↓e163_221, ↓e163_224, ↓e163_227, ↓e163_228, ↓e163_231, znl_i, znl_r, znl_n, zcs_0, zcs_1, zcs_2, zcs_3, zcat_0, zcat_1, zcat_2, zcat_3, zbl_0, zbl_1, true_and, and_true, ↓zret_some, ↓zret_none, Nat.reduceAdd, Nat.reduceLeDiff, Nat.reduceMul, eq_self, Int.reduceToNat, Int.reduceLE, Int.reduceLT, Int.reduceNeg, and_self, zrg, zkc_0, zin_1, zin_2, zin_3, zin_4, zin_5, zin_6, zin_7, zin_8, zin_9, zaa_9, zkc_10, zin_11, zin_12, zkc_13, zin_14, zin_15, zkc_16, zin_17, zin_18, zkc_19, zin_20, zin_21, zin_22, zin_23, zin_24, zin_25, zin_26, zin_27, zin_28, zaa_28, zkc_29, zin_30, zin_31, zkc_32, zin_33, zin_34, zkc_35, zin_36, zin_37, zkc_38, zin_39, zin_40, zin_41, zin_42, zin_43, zin_44, zin_45, zin_46, zin_47, zaa_47, zkc_48, zin_49, zin_50, zkc_51, zin_52, zin_53, zkc_54, zin_55, zin_56, zkc_209, zkc_210, zin_211, zaa_211, zkc_212, zin_213, zkc_214, zkc_215, zin_216, zin_217, zkc_218, zin_219, zin_220, zin_221, zkc_222, zin_223, zaa_223, zin_224, zin_225, zkc_226, zin_227, zin_228, zin_229, zin_230, zin_231, zin_232, zkc_233, zin_234, zaa_234, zin_235, zin_236, zin_237, zin_238, zin_239, zin_240, zin_241, zin_242, zin_243, zin_244, zin_245, zin_246, zin_247, zin_248, zin_249, zin_250, zkc_251, zin_252, zin_253, zkc_374, zin_375, zin_376, zin_377, zin_378, zin_379, zin_380, zin_381, zin_382, zin_383, zin_384, zin_385, zin_386, zin_387, k3, hmr, hk1, hk2, b0, b1, b2, d0, d1, d2, ↓reduceIte, o3, o4, ↓href, hrr, hne, ↓hcp3]
          exact hF rfl i (by omega) hrk hne _ (IR_rf hX1 hI5) (fun b hb => by rw [zup_ne _ _ _ (by omega), zup_ne _ _ _ (by omega), cpR_ne _ 10 0 258 (by omega), r2.1 b (by omega)]; exact l2 b hb)
    have h9 := loop m 0 (by omega) (fun j hj => absurd hj (Nat.not_lt_zero j)) N2 w2 hR2 ⟨fun _ _ => rfl, fun _ _ => rfl, fun _ _ _ => rfl⟩
    exact h9
  · have hge : ¬ pe < 0 := by omega
    simp only [↓e163, ↓e163_0, ↓e163_1, ↓e163_2, ↓e163_5, ↓e163_6, ↓e163_7, ↓e163_10, ↓e163_11, ↓e163_12, ↓e163_15, ↓e163_16, ↓e163_19, ↓e163_20, ↓e163_23, ↓e163_26, ↓e163_27, ↓e163_30, ↓e163_32, ↓e163_35, ↓e163_36, ↓e163_36i, ↓e163_37, ↓e163_40, ↓e163_41, ↓e163_42, ↓e163_45, ↓e163_46, ↓e163_49, ↓e163_52, ↓e163_53, ↓e163_56, ↓e163_59, ↓e163_60, ↓e163_63, ↓e163_64, ↓e163_67, ↓e163_70, ↓e163_71, ↓e163_72, ↓e163_75, ↓e163_78, ↓e163_79, ↓e163_80, ↓e163_83, ↓e163_84, ↓e163_87, ↓e163_90, ↓e163_92, ↓e163_93, ↓e163_96, ↓e163_97, ↓e163_98, ↓e163_99, ↓e163_100, ↓e163_102, ↓e163_105, ↓e163_106, ↓e163_108, ↓e163_109, ↓e163_112, ↓e163_115, ↓e163_116, ↓e163_117, ↓e163_120, ↓e163_121, ↓e163_122, ↓e163_123, ↓e163_124, ↓e163_125, ↓e163_128, ↓e163_129, ↓e163_130, ↓e163_131, ↓e163_132, ↓e163_133, ↓e163_134, ↓e163_135, ↓e163_138, ↓e163_139, ↓e163_140, ↓e163_141, ↓e163_142, ↓e163_143, ↓e163_144, ↓e163_147, ↓e163_148, ↓e163_149, ↓e163_152, ↓e163_153, ↓e163_155, ↓e163_156, ↓e163_159, ↓e163_160, ↓e163_161, ↓e163_164, ↓e163_165, ↓e163_166, ↓e163_169, ↓e163_172, ↓e163_173, ↓e163_174, ↓e163_175, ↓e163_176, ↓e163_177, ↓e163_180, ↓e163_181, ↓e163_182, ↓e163_183, ↓e163_184, ↓e163_185, ↓e163_188, ↓e163_189, ↓e163_190, ↓e163_191, ↓e163_192, ↓e163_193, ↓e163_194, ↓e163_195, ↓e163_198, ↓e163_199, ↓e163_200, ↓e163_201, ↓e163_202, ↓e163_203, ↓e163_204, ↓e163_207, ↓e163_210, ↓e163_213, ↓e163_214, ↓e163_217, ↓e163_218, ↓e163_220, ↓e163_221, ↓e163_224, ↓e163_227, ↓e163_228, ↓e163_231, znl_i, znl_r, znl_n, zcs_0, zcs_1, zcs_2, zcs_3, zcat_0, zcat_1, zcat_2, zcat_3, zbl_0, zbl_1, true_and, and_true, ↓zret_some, ↓zret_none, Nat.reduceAdd, Nat.reduceLeDiff, Nat.reduceMul, eq_self, Int.reduceToNat, Int.reduceLE, Int.reduceLT, Int.reduceNeg, and_self, zrg, zkc_0, zin_1, zin_2, zin_3, zin_4, zin_5, zin_6, zin_7, zin_8, zin_9, zaa_9, zkc_10, zin_11, zin_12, zkc_13, zin_14, zin_15, zkc_16, zin_17, zin_18, zkc_19, zin_20, zin_21, zin_22, zin_23, zin_24, zin_25, zin_26, zin_27, zin_28, zaa_28, zkc_29, zin_30, zin_31, zkc_32, zin_33, zin_34, zkc_35, zin_36, zin_37, zkc_38, zin_39, zin_40, zin_41, zin_42, zin_43, zin_44, zin_45, zin_46, zin_47, zaa_47, zkc_48, zin_49, zin_50, zkc_51, zin_52, zin_53, zkc_54, zin_55, zin_56, zkc_209, zkc_210, zin_211, zaa_211, zkc_212, zin_213, zkc_214, zkc_215, zin_216, zin_217, zkc_218, zin_219, zin_220, zin_221, zkc_222, zin_223, zaa_223, zin_224, zin_225, zkc_226, zin_227, zin_228, zin_229, zin_230, zin_231, zin_232, zkc_233, zin_234, zaa_234, zin_235, zin_236, zin_237, zin_238, zin_239, zin_240, zin_241, zin_242, zin_243, zin_244, zin_245, zin_246, zin_247, zin_248, zin_249, zin_250, zkc_251, zin_252, zin_253, zkc_374, zin_375, zin_376, zin_377, zin_378, zin_379, zin_380, zin_381, zin_382, zin_383, zin_384, zin_385, zin_386, zin_387, e17, hprr, hge, ↓reduceIte]
    exact hE hok _ hI1 hlow
