/-! ### execute: the reference -/
theorem rsn_b {S : zM} {k a b c : Int} (hk : ltr k) (h : prl k → b = c) : rsn S k a b = rsn S k a c := by
  rcases hk with hk | rfl | rfl | rfl
  · rw [h hk]
  · rw [rsn_l, rsn_l]
  · rw [rsn_x, rsn_x]
  · rw [rsn_g, rsn_g]
theorem nw_b {S : zM} {k a b c : Int} (hk : ltr k) (h : prl k → b = c) : nwS S k a b = nwS S k a c := by
  rcases hk with hk | rfl | rfl | rfl
  · rw [h hk]
  · rw [nw_l, nw_l]
  · rw [nw_x, nw_x]
  · rw [nw_g, nw_g]
theorem IR_repl {B C : Int} {Y : zX} {M T : zM} {k : Nat} (hY : WX B Y) (hI : IR (push Y (Y 0)) M) (hk : ((k : Nat) : Int) = push Y (Y 0) 10 0 0) (hT : RelR' M 2580 T) (hW : Wb C T) : IR (push Y T) (cpR M 10 k 258) := by
  have hn := hY.2.1
  have hX2 := WX_push hY hY.1
  have hpn := push_n (Y 0) hn
  have hpn2 := push_n T hn
  have hk8 : 1 ≤ k ∧ k ≤ 8 := by
    rw [hpn] at hk
    split at hk <;> omega
  obtain ⟨h1, i2, i3, i4, i5, i6, i7, i8, i9⟩ := hI
  have z1 : ∀ b, b ≠ 375 → cpR M 10 k 258 b = M b := fun b hb => cpR_ne M 10 k 258 hb
  unfold IR
  rw [push_0, push_9 T hn, z1 374 (by omega), z1 385 (by omega), push_o T hn (show (0 : Nat) ≠ 0 ∨ 1 ≠ 0 by omega), push_o T hn (show (0 : Nat) ≠ 0 ∨ 2 ≠ 0 by omega), push_o T hn (show (0 : Nat) ≠ 0 ∨ 3 ≠ 0 by omega), push_o T hn (show (0 : Nat) ≠ 0 ∨ 4 ≠ 0 by omega), hpn2, ← hpn]
  rw [push_0] at h1
  rw [push_9 (Y 0) hn] at i5
  rw [push_o (Y 0) hn (show (0 : Nat) ≠ 0 ∨ 1 ≠ 0 by omega)] at i4 i5
  rw [push_o (Y 0) hn (show (0 : Nat) ≠ 0 ∨ 2 ≠ 0 by omega)] at i6 i7
  rw [push_o (Y 0) hn (show (0 : Nat) ≠ 0 ∨ 3 ≠ 0 by omega)] at i8 i9
  rw [push_o (Y 0) hn (show (0 : Nat) ≠ 0 ∨ 4 ≠ 0 by omega)] at i9
  refine ⟨RelR'_shift (o := 0) (p := 0) hY.1.1 (fun j hj => cpR_off M 10 k (by omega)) h1, i2, fun q q1 q2 => ?_, i4, fun z => RelR'_shift (hY.2.2.2.2.1 z).1 (fun j hj => cpR_off M 10 k (by omega)) (i5 z), i6, fun j hj => ?_, i8, i9⟩
  · have q3 : (q : Int) ≤ push Y T 10 0 0 := by rw [hpn2, ← hpn]; exact q2
    have p1 := push_k T hn q1 q3
    have p2 := push_k (Y 0) hn q1 q2
    rw [hpn2, ← hpn, ← hk] at p1
    rw [← hk] at p2 q2
    by_cases z : q = k
    · subst z
      rw [if_pos rfl] at p1
      rw [p1]
      exact RelR'_shift (o := 2580) hW.1 (fun j hj => cpR_to M 10 q j hj) hT
    · rw [if_neg (by omega)] at p1 p2
      have hw := hX2.2.2.1 q q1 (by rw [← hk]; exact q2)
      have h9 := i3 q q1 (by rw [← hk]; exact q2)
      rw [p1]
      rw [p2] at h9 hw
      exact RelR'_shift hw.1 (fun j hj => cpR_off M 10 k (by omega)) h9
  · rw [push_o T hn (Or.inl (by omega))]
    have := i7 j hj
    rw [push_o (Y 0) hn (Or.inl (by omega))] at this
    exact this
theorem s_rexec2 (d : Nat) (Q : zQ) (B : Int) (X : zX) (M N : zM) (n : Nat) (w1 w2 : Option zV) (hB : B ≤ 700000000) (hI : IR X M) (hX : WX B X) (hn : X 10 0 2 = n)
    (hk : per (X 10 1) n 30 0 = -1 → pct (X 10 1) n 30 0 ≤ 20 ∧ (∀ j, j < pct (X 10 1) n 30 0 → cok (X 10 1) n (pst (X 10 1) n j)))
    (hE : per (X 10 1) n 30 0 ≠ -1 → ∀ N, IR (tpX X) N → (∀ b, b < 374 → N b = M b) → Q (some (.inl (-100 - per (X 10 1) n 30 0))) N)
    (hF : per (X 10 1) n 30 0 = -1 → ∀ i, i < pct (X 10 1) n 30 0 → (∀ j, j < i → rk (X 0) (X 10 1) n j = 0) → rk (X 0) (X 10 1) n i ≠ 0 → ∀ N, IR (rfX (tpX X) i (rk (X 0) (X 10 1) n i)) N → (∀ b, b < 374 → N b = M b) → Q (some (.inl (-200 - rk (X 0) (X 10 1) n i))) N)
    (hS : per (X 10 1) n 30 0 = -1 → (∀ j, j < pct (X 10 1) n 30 0 → rk (X 0) (X 10 1) n j = 0) → ∀ N, IR (push (setX (tpX X) (Wk (X 0) (X 10 1) n (pct (X 10 1) n 30 0))) (X 0)) N → (∀ b, b < 374 → N b = M b) → Q (some (.inl ((pct (X 10 1) n 30 0 : Nat) : Int))) N)
    (hM : Fo M N) (h17 : N 374 17 = per (X 10 1) n 30 0) (h20 : per (X 10 1) n 30 0 = -1 → N 374 20 = ((pct (X 10 1) n 30 0 : Nat) : Int) ∧ ∀ i, i < pct (X 10 1) n 30 0 → Or1 N (X 10 1) n i) :
    RT (Sp (d + 9)) 164 Q 78 [some (.inr (.inr 374)), w1, w2] [] N := by
  have hX1 := WX_tp hX
  have e0 : tpX X 0 = X 0 := tp_k X (by omega)
  have hpr := per_rng (t := X 10 1) (n := n) 30 0 (Nat.zero_le n)
  have x6 := hX.2.2.2.2.2.1
  generalize ht : X 10 1 = t at *
  generalize hp : per t n 30 0 = pe at *
  generalize hm : pct t n 30 0 = m at *
  have hprr : -2147483648 ≤ pe ∧ pe < 2147483648 := by omega
  have hI1 : IR (tpX X) (zup N 374 15 0) := IR_tp hX hI (fun i _ => by rw [zup_ne _ _ _ (by omega), hM.1 375 (by omega) (by omega)]) (fun i hi => by rw [zup_off _ _ (by omega), hM.2 i (by omega) (by omega) (by omega)]) (zup_at _ _ _ _)
  have hlow : ∀ b, b < 374 → zup N 374 15 0 b = M b := fun b hb => by rw [zup_ne _ _ _ (by omega), hM.1 b (by omega) (by omega)]
  have e17 : zup N 374 15 0 374 17 = pe := by rw [zup_off _ _ (by omega), h17]
  by_cases hok : pe = -1
  · subst hok
    obtain ⟨g1, g2⟩ := h20 rfl
    obtain ⟨k20, hcok⟩ := hk rfl
    have hmr : -2147483648 ≤ (m : Int) ∧ (m : Int) < 2147483648 := ⟨by omega, by omega⟩
    have e20 : zup N 374 15 0 374 20 = ((m : Nat) : Int) := by rw [zup_off _ _ (by omega), g1]
    have eor : zup N 374 15 0 387 = N 387 := zup_ne _ _ _ (by omega)
    have hcp1 : ∀ Q, Sp (d + 9) 113 [.inr (.inr 374), .inl 0, .inl 10] (zup N 374 15 0) Q = Q none (cpR (zup N 374 15 0) 0 10 258) := fun Q => s_copies (d + 8) Q (zup N 374 15 0) 0 10 (by omega) (by omega) (by omega)
    have hR1 := hI1.1
    rw [e0] at hR1
    have hRt : RelR' (cpR (zup N 374 15 0) 0 10 258) 2580 (X 0) := RelR'_shift (o := 0) hX.1.1 (fun j hj => by have := cpR_to (zup N 374 15 0) 0 10 j hj; rw [show 258 * 0 + j = 0 + j by omega] at this; exact this) hR1
    have hR2 : RelR' (cpR (zup N 374 15 0) 0 10 258) 0 (X 0) := RelR'_shift (o := 0) (p := 0) hX.1.1 (fun j hj => cpR_off _ 0 10 (by omega)) hR1
    have hI2 : IR (tpX X) (cpR (zup N 374 15 0) 0 10 258) := by
      have := IR_set (S := tpX X 0) (N := cpR (zup N 374 15 0) 0 10 258) hX1 hI1 (by rw [e0]; exact hR2) (fun j j1 j2 => cpR_off _ 0 10 (by omega)) (fun j hj => by rw [cpR_ne _ 0 10 258 (by omega)]) (cpR_ne _ 0 10 258 (by omega))
      rw [setX_self] at this
      exact this
    have l2 : ∀ b, b < 374 → cpR (zup N 374 15 0) 0 10 258 b = M b := fun b hb => by rw [cpR_ne _ 0 10 258 (by omega), hlow b hb]
    have o2 : cpR (zup N 374 15 0) 0 10 258 387 = N 387 := by rw [cpR_ne _ 0 10 258 (by omega), eor]
    have c2 : cpR (zup N 374 15 0) 0 10 258 374 20 = ((m : Nat) : Int) := by rw [cpR_ne _ 0 10 258 (by omega), e20]
    simp only [↓e164, ↓e164_0, ↓e164_1, ↓e164_2, ↓e164_5, ↓e164_6, ↓e164_7, ↓e164_10, ↓e164_11, ↓e164_12, ↓e164_15, ↓e164_16, ↓e164_19, ↓e164_20, ↓e164_23, ↓e164_26, ↓e164_27, ↓e164_30, ↓e164_32, ↓e164_35, ↓e164_36, ↓e164_36i, ↓e164_37, ↓e164_40, ↓e164_41, ↓e164_42, ↓e164_45, ↓e164_46, ↓e164_49, ↓e164_52, ↓e164_53, ↓e164_56, ↓e164_59, ↓e164_60, ↓e164_63, ↓e164_64, ↓e164_67, ↓e164_70, ↓e164_71, ↓e164_72, ↓e164_75, ↓e164_78, ↓e164_79, ↓e164_80, ↓e164_83, ↓e164_84, ↓e164_87, ↓e164_90, ↓e164_92, ↓e164_93, ↓e164_96, ↓e164_97, ↓e164_98, ↓e164_99, ↓e164_100, ↓e164_102, ↓e164_105, ↓e164_106, ↓e164_108, ↓e164_109, ↓e164_112, ↓e164_115, ↓e164_116, ↓e164_117, ↓e164_120, ↓e164_121, ↓e164_122, ↓e164_123, ↓e164_124, ↓e164_125, ↓e164_128, ↓e164_129, ↓e164_130, ↓e164_131, ↓e164_132, ↓e164_133, ↓e164_134, ↓e164_135, ↓e164_138, ↓e164_139, ↓e164_140, ↓e164_141, ↓e164_142, ↓e164_143, ↓e164_144, ↓e164_147, ↓e164_148, ↓e164_149, ↓e164_152, ↓e164_153, ↓e164_155, ↓e164_156, ↓e164_159, ↓e164_160, ↓e164_161, ↓e164_164, ↓e164_165, ↓e164_166, ↓e164_169, ↓e164_172, ↓e164_173, ↓e164_174, ↓e164_175, ↓e164_176, ↓e164_177, ↓e164_180, ↓e164_181, ↓e164_182, ↓e164_183, ↓e164_184, ↓e164_185, ↓e164_188, ↓e164_189, ↓e164_190, ↓e164_191, ↓e164_192, ↓e164_193, ↓e164_194, ↓e164_195, ↓e164_198, ↓e164_199, ↓e164_200, ↓e164_201, ↓e164_202, ↓e164_203, ↓e164_204, ↓e164_207, ↓e164_210, ↓e164_213, ↓e164_214, ↓e164_217, ↓e164_218, ↓e164_220, ↓e164_221, ↓e164_224, ↓e164_227, ↓e164_228, ↓e164_231, znl_i, znl_r, znl_n, zcs_0, zcs_1, zcs_2, zcs_3, zcat_0, zcat_1, zcat_2, zcat_3, zbl_0, zbl_1, true_and, and_true, ↓zret_some, ↓zret_none, Nat.reduceAdd, Nat.reduceLeDiff, Nat.reduceMul, eq_self, Int.reduceToNat, Int.reduceLE, Int.reduceLT, Int.reduceNeg, and_self, zrg, zkc_0, zin_1, zin_2, zin_3, zin_4, zin_5, zin_6, zin_7, zin_8, zin_9, zaa_9, zkc_10, zin_11, zin_12, zkc_13, zin_14, zin_15, zkc_16, zin_17, zin_18, zkc_19, zin_20, zin_21, zin_22, zin_23, zin_24, zin_25, zin_26, zin_27, zin_28, zaa_28, zkc_29, zin_30, zin_31, zkc_32, zin_33, zin_34, zkc_35, zin_36, zin_37, zkc_38, zin_39, zin_40, zin_41, zin_42, zin_43, zin_44, zin_45, zin_46, zin_47, zaa_47, zkc_48, zin_49, zin_50, zkc_51, zin_52, zin_53, zkc_54, zin_55, zin_56, zkc_209, zkc_210, zin_211, zaa_211, zkc_212, zin_213, zkc_214, zkc_215, zin_216, zin_217, zkc_218, zin_219, zin_220, zin_221, zkc_222, zin_223, zaa_223, zin_224, zin_225, zkc_226, zin_227, zin_228, zin_229, zin_230, zin_231, zin_232, zkc_233, zin_234, zaa_234, zin_235, zin_236, zin_237, zin_238, zin_239, zin_240, zin_241, zin_242, zin_243, zin_244, zin_245, zin_246, zin_247, zin_248, zin_249, zin_250, zkc_251, zin_252, zin_253, zkc_374, zin_375, zin_376, zin_377, zin_378, zin_379, zin_380, zin_381, zin_382, zin_383, zin_384, zin_385, zin_386, zin_387, e17, show (-1 : Int) < 0 by omega, ↓reduceIte, ↓hcp1]
    generalize cpR (zup N 374 15 0) 0 10 258 = N2 at *
    have loop : ∀ q i : Nat, i + q = m → (∀ j, j < i → rk (X 0) t n j = 0) → ∀ N w, RelR' N 0 (Wk (X 0) t n i) → Gn N2 N → RT (Sp (d + 9)) 164 Q 107 [some (.inr (.inr 374)), some (.inl (i : Int)), w] [] N := by
      intro q
      induction q with
      | zero =>
        intro i hi hrk P w r1 r2
        obtain rfl : i = m := by omega
        have hWk := Wk_ok hX.1 i hcok hrk
        have hWX := WX_set (WX_mono (C := B + 400 * i) (by omega) hX1) hWk
        have k3 : P 374 20 = (i : Int) := by rw [r2.2.2 20 (by omega) (by omega)]; exact c2
        have hI3 : IR (setX (tpX X) (Wk (X 0) t n i)) P := IR_set hX1 hI2 r1 (fun j j1 j2 => r2.2.1 j (by omega)) (fun j hj => r2.2.2 j (by omega) (by omega)) (r2.1 385 (by omega))
        have hRt3 : RelR' P 2580 (X 0) := RelR'_shift (o := 2580) hX.1.1 (fun j hj => r2.2.1 _ (by omega)) hRt
        rw [e164_107]
        simp only [↓e164, ↓e164_0, ↓e164_1, ↓e164_2, ↓e164_5, ↓e164_6, ↓e164_7, ↓e164_10, ↓e164_11, ↓e164_12, ↓e164_15, ↓e164_16, ↓e164_19, ↓e164_20, ↓e164_23, ↓e164_26, ↓e164_27, ↓e164_30, ↓e164_32, ↓e164_35, ↓e164_36, ↓e164_36i, ↓e164_37, ↓e164_40, ↓e164_41, ↓e164_42, ↓e164_45, ↓e164_46, ↓e164_49, ↓e164_52, ↓e164_53, ↓e164_56, ↓e164_59, ↓e164_60, ↓e164_63, ↓e164_64, ↓e164_67, ↓e164_70, ↓e164_71, ↓e164_72, ↓e164_75, ↓e164_78, ↓e164_79, ↓e164_80, ↓e164_83, ↓e164_84, ↓e164_87, ↓e164_90, ↓e164_92, ↓e164_93, ↓e164_96, ↓e164_97, ↓e164_98, ↓e164_99, ↓e164_100, ↓e164_102, ↓e164_105, ↓e164_106, ↓e164_108, ↓e164_109, ↓e164_112, ↓e164_115, ↓e164_116, ↓e164_117, ↓e164_120, ↓e164_121, ↓e164_122, ↓e164_123, ↓e164_124, ↓e164_125, ↓e164_128, ↓e164_129, ↓e164_130, ↓e164_131, ↓e164_132, ↓e164_133, ↓e164_134, ↓e164_135, ↓e164_138, ↓e164_139, ↓e164_140, ↓e164_141, ↓e164_142, ↓e164_143, ↓e164_144, ↓e164_147, ↓e164_148, ↓e164_149, ↓e164_152, ↓e164_153, ↓e164_155, ↓e164_156, ↓e164_159, ↓e164_160, ↓e164_161, ↓e164_164, ↓e164_165, ↓e164_166, ↓e164_169, ↓e164_172, ↓e164_173, ↓e164_174, ↓e164_175, ↓e164_176, ↓e164_177, ↓e164_180, ↓e164_181, ↓e164_182, ↓e164_183, ↓e164_184, ↓e164_185, ↓e164_188, ↓e164_189, ↓e164_190, ↓e164_191, ↓e164_192, ↓e164_193, ↓e164_194, ↓e164_195, ↓e164_198, ↓e164_199, ↓e164_200, ↓e164_201, ↓e164_202, ↓e164_203, ↓e164_204, ↓e164_207, ↓e164_210, ↓e164_213, ↓e164_214, ↓e164_217, ↓e164_218, ↓e164_220, ↓e164_221, ↓e164_224, ↓e164_227, ↓e164_228, ↓e164_231, znl_i, znl_r, znl_n, zcs_0, zcs_1, zcs_2, zcs_3, zcat_0, zcat_1, zcat_2, zcat_3, zbl_0, zbl_1, true_and, and_true, ↓zret_some, ↓zret_none, Nat.reduceAdd, Nat.reduceLeDiff, Nat.reduceMul, eq_self, Int.reduceToNat, Int.reduceLE, Int.reduceLT, Int.reduceNeg, and_self, zrg, zkc_0, zin_1, zin_2, zin_3, zin_4, zin_5, zin_6, zin_7, zin_8, zin_9, zaa_9, zkc_10, zin_11, zin_12, zkc_13, zin_14, zin_15, zkc_16, zin_17, zin_18, zkc_19, zin_20, zin_21, zin_22, zin_23, zin_24, zin_25, zin_26, zin_27, zin_28, zaa_28, zkc_29, zin_30, zin_31, zkc_32, zin_33, zin_34, zkc_35, zin_36, zin_37, zkc_38, zin_39, zin_40, zin_41, zin_42, zin_43, zin_44, zin_45, zin_46, zin_47, zaa_47, zkc_48, zin_49, zin_50, zkc_51, zin_52, zin_53, zkc_54, zin_55, zin_56, zkc_209, zkc_210, zin_211, zaa_211, zkc_212, zin_213, zkc_214, zkc_215, zin_216, zin_217, zkc_218, zin_219, zin_220, zin_221, zkc_222, zin_223, zaa_223, zin_224, zin_225, zkc_226, zin_227, zin_228, zin_229, zin_230, zin_231, zin_232, zkc_233, zin_234, zaa_234, zin_235, zin_236, zin_237, zin_238, zin_239, zin_240, zin_241, zin_242, zin_243, zin_244, zin_245, zin_246, zin_247, zin_248, zin_249, zin_250, zkc_251, zin_252, zin_253, zkc_374, zin_375, zin_376, zin_377, zin_378, zin_379, zin_380, zin_381, zin_382, zin_383, zin_384, zin_385, zin_386, zin_387, k3, hmr, ge_iff_le, Int.le_refl, ↓reduceIte]
        refine s_keeps (d + 7) _ P _ (B + 400 * i) hWX hI3 (fun P2 v1 v2 v3 v4 => ?_)
        rw [zret_none]
        have hpn := push_n (setX (tpX X) (Wk (X 0) t n i) 0) hWX.2.1
        obtain ⟨kk, hkk⟩ : ∃ kk : Nat, P2 374 1 = kk ∧ 1 ≤ kk ∧ kk ≤ 8 := by
          have h1 := v1.2.1
          have h2 := hWX.2.1
          rw [hpn] at h1
          refine ⟨(P2 374 1).toNat, ?_⟩
          split at h1 <;> omega
        have hRt4 : RelR' P2 2580 (X 0) := RelR'_shift (o := 2580) hX.1.1 (fun j hj => v4 _ (by omega)) hRt3
        have hcp2 : ∀ Q, Sp (d + 9) 113 [.inr (.inr 374), .inl 10, .inl (kk : Int)] P2 Q = Q none (cpR P2 10 kk 258) := fun Q => s_copies (d + 8) Q P2 10 kk (by omega) (by omega) (by omega)
        have k4 : cpR P2 10 kk 258 374 20 = (i : Int) := by rw [cpR_ne _ 10 kk 258 (by omega), v3 20 (by omega), k3]
        have hI4 := IR_repl hWX v1 (hkk.1.symm.trans v1.2.1) hRt4 hX.1
        simp only [↓e164, ↓e164_0, ↓e164_1, ↓e164_2, ↓e164_5, ↓e164_6, ↓e164_7, ↓e164_10, ↓e164_11, ↓e164_12, ↓e164_15, ↓e164_16, ↓e164_19, ↓e164_20, ↓e164_23, ↓e164_26, ↓e164_27, ↓e164_30, ↓e164_32, ↓e164_35, ↓e164_36, ↓e164_36i, ↓e164_37, ↓e164_40, ↓e164_41, ↓e164_42, ↓e164_45, ↓e164_46, ↓e164_49, ↓e164_52, ↓e164_53, ↓e164_56, ↓e164_59, ↓e164_60, ↓e164_63, ↓e164_64, ↓e164_67, ↓e164_70, ↓e164_71, ↓e164_72, ↓e164_75, ↓e164_78, ↓e164_79, ↓e164_80, ↓e164_83, ↓e164_84, ↓e164_87, ↓e164_90, ↓e164_92, ↓e164_93, ↓e164_96, ↓e164_97, ↓e164_98, ↓e164_99, ↓e164_100, ↓e164_102, ↓e164_105, ↓e164_106, ↓e164_108, ↓e164_109, ↓e164_112, ↓e164_115, ↓e164_116, ↓e164_117, ↓e164_120, ↓e164_121, ↓e164_122, ↓e164_123, ↓e164_124, ↓e164_125, ↓e164_128, ↓e164_129, ↓e164_130, ↓e164_131, ↓e164_132, ↓e164_133, ↓e164_134, ↓e164_135, ↓e164_138, ↓e164_139, ↓e164_140, ↓e164_141, ↓e164_142, ↓e164_143, ↓e164_144, ↓e164_147, ↓e164_148, ↓e164_149, ↓e164_152, ↓e164_153, ↓e164_155, ↓e164_156, ↓e164_159, ↓e164_160, ↓e164_161, ↓e164_164, ↓e164_165, ↓e164_166, ↓e164_169, ↓e164_172, ↓e164_173, ↓e164_174, ↓e164_175, ↓e164_176, ↓e164_177, ↓e164_180, ↓e164_181, ↓e164_182, ↓e164_183, ↓e164_184, ↓e164_185, ↓e164_188, ↓e164_189, ↓e164_190, ↓e164_191, ↓e164_192, ↓e164_193, ↓e164_194, ↓e164_195, ↓e164_198, ↓e164_199, ↓e164_200, ↓e164_201, ↓e164_202, ↓e164_203, ↓e164_204, ↓e164_207, ↓e164_210, ↓e164_213, ↓e164_214, ↓e164_217, ↓e164_218, ↓e164_220, ↓e164_221, ↓e164_224, ↓e164_227, ↓e164_228, ↓e164_231, znl_i, znl_r, znl_n, zcs_0, zcs_1, zcs_2, zcs_3, zcat_0, zcat_1, zcat_2, zcat_3, zbl_0, zbl_1, true_and, and_true, ↓zret_some, ↓zret_none, Nat.reduceAdd, Nat.reduceLeDiff, Nat.reduceMul, eq_self, Int.reduceToNat, Int.reduceLE, Int.reduceLT, Int.reduceNeg, and_self, zrg, zkc_0, zin_1, zin_2, zin_3, zin_4, zin_5, zin_6, zin_7, zin_8, zin_9, zaa_9, zkc_10, zin_11, zin_12, zkc_13, zin_14, zin_15, zkc_16, zin_17, zin_18, zkc_19, zin_20, zin_21, zin_22, zin_23, zin_24, zin_25, zin_26, zin_27, zin_28, zaa_28, zkc_29, zin_30, zin_31, zkc_32, zin_33, zin_34, zkc_35, zin_36, zin_37, zkc_38, zin_39, zin_40, zin_41, zin_42, zin_43, zin_44, zin_45, zin_46, zin_47, zaa_47, zkc_48, zin_49, zin_50, zkc_51, zin_52, zin_53, zkc_54, zin_55, zin_56, zkc_209, zkc_210, zin_211, zaa_211, zkc_212, zin_213, zkc_214, zkc_215, zin_216, zin_217, zkc_218, zin_219, zin_220, zin_221, zkc_222, zin_223, zaa_223, zin_224, zin_225, zkc_226, zin_227, zin_228, zin_229, zin_230, zin_231, zin_232, zkc_233, zin_234, zaa_234, zin_235, zin_236, zin_237, zin_238, zin_239, zin_240, zin_241, zin_242, zin_243, zin_244, zin_245, zin_246, zin_247, zin_248, zin_249, zin_250, zkc_251, zin_252, zin_253, zkc_374, zin_375, zin_376, zin_377, zin_378, zin_379, zin_380, zin_381, zin_382, zin_383, zin_384, zin_385, zin_386, zin_387, hkk.1, ↓hcp2, k4, hmr]
        exact hS rfl hrk _ hI4 (fun b hb => by rw [cpR_ne _ 10 kk 258 (by omega), v2 b (by omega) (by omega), r2.1 b (by omega)]; exact l2 b hb)
      | succ q ih =>
        intro i hi hrk P w r1 r2
        have hWk := Wk_ok hX.1 i (fun j hj => hcok j (by omega)) hrk
        have k3 : P 374 20 = (m : Int) := by rw [r2.2.2 20 (by omega) (by omega)]; exact c2
        have hk1 : ¬ (i : Int) ≥ (m : Int) := by omega
        have hk2 : -2147483648 ≤ (i : Int) ∧ (i : Int) < 2147483648 := ⟨by omega, by omega⟩
        have b0 : 0 ≤ 3 * (i : Int) ∧ 3 * (i : Int) < 180 := ⟨by omega, by omega⟩
        have b1 : 0 ≤ 3 * (i : Int) + 1 ∧ 3 * (i : Int) + 1 < 180 := ⟨by omega, by omega⟩
        have b2 : 0 ≤ 3 * (i : Int) + 2 ∧ 3 * (i : Int) + 2 < 180 := ⟨by omega, by omega⟩
        have d0 : (3 * (i : Int)).toNat = 3 * i := by omega
        have d1 : (3 * (i : Int) + 1).toNat = 3 * i + 1 := by omega
        have d2 : (3 * (i : Int) + 2).toNat = 3 * i + 2 := by omega
        have hco := hcok i (by omega)
        obtain ⟨o3, o4, o5⟩ := g2 i (by omega)
        have eP : P 387 = N 387 := by rw [r2.1 387 (by omega), o2]
        rw [← eP] at o3 o4 o5
        have hrb : rsn (Wk (X 0) t n i) (t (pst t n i)) (nv t n (pst t n i + 1)) (P 387 (3 * i + 2)) = rk (X 0) t n i := rsn_b hco.1.2 o5
        have hnb : nwS (Wk (X 0) t n i) (t (pst t n i)) (nv t n (pst t n i + 1)) (P 387 (3 * i + 2)) = Wk (X 0) t n (i + 1) := nw_b hco.1.2 o5
        have hrg := rsn_rng (Wk (X 0) t n i) (t (pst t n i)) (nv t n (pst t n i + 1)) (P 387 (3 * i + 2))
        rw [hrb] at hrg
        have hrr : -2147483648 ≤ rk (X 0) t n i ∧ rk (X 0) t n i < 2147483648 := ⟨by omega, by omega⟩
        have hbr : prl (t (pst t n i)) → -5 ≤ P 387 (3 * i + 2) ∧ P 387 (3 * i + 2) ≤ 99 := fun z => by rw [o5 z]; exact csn_rng
        have href := fun Q => s_rRefusal (d + 5) Q P (Wk (X 0) t n i) (t (pst t n i)) (nv t n (pst t n i + 1)) (P 387 (3 * i + 2)) hco.1.2 nv_rng hbr r1.1 hWk.1
        simp only [hrb] at href
        rw [e164_107]
        by_cases hne : rk (X 0) t n i = 0
        · simp only [↓e164, ↓e164_0, ↓e164_1, ↓e164_2, ↓e164_5, ↓e164_6, ↓e164_7, ↓e164_10, ↓e164_11, ↓e164_12, ↓e164_15, ↓e164_16, ↓e164_19, ↓e164_20, ↓e164_23, ↓e164_26, ↓e164_27, ↓e164_30, ↓e164_32, ↓e164_35, ↓e164_36, ↓e164_36i, ↓e164_37, ↓e164_40, ↓e164_41, ↓e164_42, ↓e164_45, ↓e164_46, ↓e164_49, ↓e164_52, ↓e164_53, ↓e164_56, ↓e164_59, ↓e164_60, ↓e164_63, ↓e164_64, ↓e164_67, ↓e164_70, ↓e164_71, ↓e164_72, ↓e164_75, ↓e164_78, ↓e164_79, ↓e164_80, ↓e164_83, ↓e164_84, ↓e164_87, ↓e164_90, ↓e164_92, ↓e164_93, ↓e164_96, ↓e164_97, ↓e164_98, ↓e164_99, ↓e164_100, ↓e164_102, ↓e164_105, ↓e164_106, ↓e164_108, ↓e164_109, ↓e164_112, ↓e164_115, ↓e164_116, ↓e164_117, ↓e164_120, ↓e164_121, ↓e164_122, ↓e164_123, ↓e164_124, ↓e164_125, ↓e164_128, ↓e164_129, ↓e164_130, ↓e164_131, ↓e164_132, ↓e164_133, ↓e164_134, ↓e164_135, ↓e164_138, ↓e164_139, ↓e164_140, ↓e164_141, ↓e164_142, ↓e164_143, ↓e164_144, ↓e164_147, ↓e164_148, ↓e164_149, ↓e164_152, ↓e164_153, ↓e164_155, ↓e164_156, ↓e164_159, ↓e164_160, ↓e164_161, ↓e164_164, ↓e164_165, ↓e164_166, ↓e164_169, ↓e164_172, ↓e164_173, ↓e164_174, ↓e164_175, ↓e164_176, ↓e164_177, ↓e164_180, ↓e164_181, ↓e164_182, ↓e164_183, ↓e164_184, ↓e164_185, ↓e164_188, ↓e164_189, ↓e164_190, ↓e164_191, ↓e164_192, ↓e164_193, ↓e164_194, ↓e164_195, ↓e164_198, ↓e164_199, ↓e164_200, ↓e164_201, ↓e164_202, ↓e164_203, ↓e164_204, ↓e164_207, ↓e164_210, ↓e164_213, ↓e164_214, ↓e164_217, ↓e164_218, ↓e164_220, ↓e164_221, ↓e164_224, ↓e164_227, ↓e164_228, ↓e164_231, znl_i, znl_r, znl_n, zcs_0, zcs_1, zcs_2, zcs_3, zcat_0, zcat_1, zcat_2, zcat_3, zbl_0, zbl_1, true_and, and_true, ↓zret_some, ↓zret_none, Nat.reduceAdd, Nat.reduceLeDiff, Nat.reduceMul, eq_self, Int.reduceToNat, Int.reduceLE, Int.reduceLT, Int.reduceNeg, and_self, zrg, zkc_0, zin_1, zin_2, zin_3, zin_4, zin_5, zin_6, zin_7, zin_8, zin_9, zaa_9, zkc_10, zin_11, zin_12, zkc_13, zin_14, zin_15, zkc_16, zin_17, zin_18, zkc_19, zin_20, zin_21, zin_22, zin_23, zin_24, zin_25, zin_26, zin_27, zin_28, zaa_28, zkc_29, zin_30, zin_31, zkc_32, zin_33, zin_34, zkc_35, zin_36, zin_37, zkc_38, zin_39, zin_40, zin_41, zin_42, zin_43, zin_44, zin_45, zin_46, zin_47, zaa_47, zkc_48, zin_49, zin_50, zkc_51, zin_52, zin_53, zkc_54, zin_55, zin_56, zkc_209, zkc_210, zin_211, zaa_211, zkc_212, zin_213, zkc_214, zkc_215, zin_216, zin_217, zkc_218, zin_219, zin_220, zin_221, zkc_222, zin_223, zaa_223, zin_224, zin_225, zkc_226, zin_227, zin_228, zin_229, zin_230, zin_231, zin_232, zkc_233, zin_234, zaa_234, zin_235, zin_236, zin_237, zin_238, zin_239, zin_240, zin_241, zin_242, zin_243, zin_244, zin_245, zin_246, zin_247, zin_248, zin_249, zin_250, zkc_251, zin_252, zin_253, zkc_374, zin_375, zin_376, zin_377, zin_378, zin_379, zin_380, zin_381, zin_382, zin_383, zin_384, zin_385, zin_386, zin_387, k3, hmr, hk1, hk2, b0, b1, b2, d0, d1, d2, ↓reduceIte, o3, o4, ↓href, hne]
          have hC0 := Wb_B0 hX.1
          refine s_carries d _ P (Wk (X 0) t n i) (B + 400 * i).toNat (t (pst t n i)) (nv t n (pst t n i + 1)) (P 387 (3 * i + 2)) (by omega) hco.1.2 nv_rng hbr (hrb.trans hne) r1 (by rw [show (((B + 400 * (i : Int)).toNat : Nat) : Int) = B + 400 * i by omega]; exact hWk) (fun P3 v1 v2 => ?_)
          rw [zret_none]
          rw [hnb] at v1
          have h9 := ih (i + 1) (by omega) (fun j hj => by
            by_cases z : j = i
            · subst z; exact hne
            · exact hrk j (by omega)) P3 (some (.inl 0)) v1 (Gn_trans r2 v2)
          simp only [↓e164, ↓e164_0, ↓e164_1, ↓e164_2, ↓e164_5, ↓e164_6, ↓e164_7, ↓e164_10, ↓e164_11, ↓e164_12, ↓e164_15, ↓e164_16, ↓e164_19, ↓e164_20, ↓e164_23, ↓e164_26, ↓e164_27, ↓e164_30, ↓e164_32, ↓e164_35, ↓e164_36, ↓e164_36i, ↓e164_37, ↓e164_40, ↓e164_41, ↓e164_42, ↓e164_45, ↓e164_46, ↓e164_49, ↓e164_52, ↓e164_53, ↓e164_56, ↓e164_59, ↓e164_60, ↓e164_63, ↓e164_64, ↓e164_67, ↓e164_70, ↓e164_71, ↓e164_72, ↓e164_75, ↓e164_78, ↓e164_79, ↓e164_80, ↓e164_83, ↓e164_84, ↓e164_87, ↓e164_90, ↓e164_92, ↓e164_93, ↓e164_96, ↓e164_97, ↓e164_98, ↓e164_99, ↓e164_100, ↓e164_102, ↓e164_105, ↓e164_106, ↓e164_108, ↓e164_109, ↓e164_112, ↓e164_115, ↓e164_116, ↓e164_117, ↓e164_120, ↓e164_121, ↓e164_122, ↓e164_123, ↓e164_124, ↓e164_125, ↓e164_128, ↓e164_129, ↓e164_130, ↓e164_131, ↓e164_132, ↓e164_133, ↓e164_134, ↓e164_135, ↓e164_138, ↓e164_139, ↓e164_140, ↓e164_141, ↓e164_142, ↓e164_143, ↓e164_144, ↓e164_147, ↓e164_148, ↓e164_149, ↓e164_152, ↓e164_153, ↓e164_155, ↓e164_156, ↓e164_159, ↓e164_160, ↓e164_161, ↓e164_164, ↓e164_165, ↓e164_166, ↓e164_169, ↓e164_172, ↓e164_173, ↓e164_174, ↓e164_175, ↓e164_176, ↓e164_177, ↓e164_180, ↓e164_181, ↓e164_182, ↓e164_183, ↓e164_184, ↓e164_185, ↓e164_188, ↓e164_189, ↓e164_190, ↓e164_191, ↓e164_192, ↓e164_193, ↓e164_194, ↓e164_195, ↓e164_198, ↓e164_199, ↓e164_200, ↓e164_201, ↓e164_202, ↓e164_203, ↓e164_204, ↓e164_207, ↓e164_210, ↓e164_213, ↓e164_214, ↓e164_217, ↓e164_218, ↓e164_220, ↓e164_221, ↓e164_224, ↓e164_227, ↓e164_228, ↓e164_231, znl_i, znl_r, znl_n, zcs_0, zcs_1, zcs_2, zcs_3, zcat_0, zcat_1, zcat_2, zcat_3, zbl_0, zbl_1, true_and, and_true, ↓zret_some, ↓zret_none, Nat.reduceAdd, Nat.reduceLeDiff, Nat.reduceMul, eq_self, Int.reduceToNat, Int.reduceLE, Int.reduceLT, Int.reduceNeg, and_self, zrg, zkc_0, zin_1, zin_2, zin_3, zin_4, zin_5, zin_6, zin_7, zin_8, zin_9, zaa_9, zkc_10, zin_11, zin_12, zkc_13, zin_14, zin_15, zkc_16, zin_17, zin_18, zkc_19, zin_20, zin_21, zin_22, zin_23, zin_24, zin_25, zin_26, zin_27, zin_28, zaa_28, zkc_29, zin_30, zin_31, zkc_32, zin_33, zin_34, zkc_35, zin_36, zin_37, zkc_38, zin_39, zin_40, zin_41, zin_42, zin_43, zin_44, zin_45, zin_46, zin_47, zaa_47, zkc_48, zin_49, zin_50, zkc_51, zin_52, zin_53, zkc_54, zin_55, zin_56, zkc_209, zkc_210, zin_211, zaa_211, zkc_212, zin_213, zkc_214, zkc_215, zin_216, zin_217, zkc_218, zin_219, zin_220, zin_221, zkc_222, zin_223, zaa_223, zin_224, zin_225, zkc_226, zin_227, zin_228, zin_229, zin_230, zin_231, zin_232, zkc_233, zin_234, zaa_234, zin_235, zin_236, zin_237, zin_238, zin_239, zin_240, zin_241, zin_242, zin_243, zin_244, zin_245, zin_246, zin_247, zin_248, zin_249, zin_250, zkc_251, zin_252, zin_253, zkc_374, zin_375, zin_376, zin_377, zin_378, zin_379, zin_380, zin_381, zin_382, zin_383, zin_384, zin_385, zin_386, zin_387, hk2]
          rw [show ((i : Int) + 1) = ((i + 1 : Nat) : Int) by omega]
          exact h9
        · have hcp3 : ∀ Q, Sp (d + 9) 113 [.inr (.inr 374), .inl 10, .inl 0] P Q = Q none (cpR P 10 0 258) := fun Q => s_copies (d + 8) Q P 10 0 (by omega) (by omega) (by omega)
          have hRt3 : RelR' P 2580 (X 0) := RelR'_shift (o := 2580) hX.1.1 (fun j hj => r2.2.1 _ (by omega)) hRt
          have hR5 : RelR' (cpR P 10 0 258) 0 (X 0) := RelR'_shift (o := 2580) hX.1.1 (fun j hj => by have := cpR_to P 10 0 j hj; rw [show 258 * 0 + j = 0 + j by omega] at this; exact this) hRt3
          have hI5 : IR (tpX X) (cpR P 10 0 258) := by
            have := IR_set (S := tpX X 0) (N := cpR P 10 0 258) hX1 hI2 (by rw [e0]; exact hR5) (fun j j1 j2 => by rw [cpR_off P 10 0 (by omega)]; exact r2.2.1 j (by omega)) (fun j hj => by rw [cpR_ne _ 10 0 258 (by omega)]; exact r2.2.2 j (by omega) (by omega)) (by rw [cpR_ne _ 10 0 258 (by omega)]; exact r2.1 385 (by omega))
            rw [setX_self] at this
            exact this
          simp only [↓e164, ↓e164_0, ↓e164_1, ↓e164_2, ↓e164_5, ↓e164_6, ↓e164_7, ↓e164_10, ↓e164_11, ↓e164_12, ↓e164_15, ↓e164_16, ↓e164_19, ↓e164_20, ↓e164_23, ↓e164_26, ↓e164_27, ↓e164_30, ↓e164_32, ↓e164_35, ↓e164_36, ↓e164_36i, ↓e164_37, ↓e164_40, ↓e164_41, ↓e164_42, ↓e164_45, ↓e164_46, ↓e164_49, ↓e164_52, ↓e164_53, ↓e164_56, ↓e164_59, ↓e164_60, ↓e164_63, ↓e164_64, ↓e164_67, ↓e164_70, ↓e164_71, ↓e164_72, ↓e164_75, ↓e164_78, ↓e164_79, ↓e164_80, ↓e164_83, ↓e164_84, ↓e164_87, ↓e164_90, ↓e164_92, ↓e164_93, ↓e164_96, ↓e164_97, ↓e164_98, ↓e164_99, ↓e164_100, ↓e164_102, ↓e164_105, ↓e164_106, ↓e164_108, ↓e164_109, ↓e164_112, ↓e164_115, ↓e164_116, ↓e164_117, ↓e164_120, ↓e164_121, ↓e164_122, ↓e164_123, ↓e164_124, ↓e164_125, ↓e164_128, ↓e164_129, ↓e164_130, ↓e164_131, ↓e164_132, ↓e164_133, ↓e164_134, ↓e164_135, ↓e164_138, ↓e164_139, ↓e164_140, ↓e164_141, ↓e164_142, ↓e164_143, ↓e164_144, ↓e164_147, ↓e164_148, ↓e164_149, ↓e164_152, ↓e164_153, ↓e164_155, ↓e164_156, ↓e164_159, ↓e164_160, ↓e164_161, ↓e164_164, ↓e164_165, ↓e164_166, ↓e164_169, ↓e164_172, ↓e164_173, ↓e164_174, ↓e164_175, ↓e164_176, ↓e164_177, ↓e164_180, ↓e164_181, ↓e164_182, ↓e164_183, ↓e164_184, ↓e164_185, ↓e164_188, ↓e164_189, ↓e164_190, ↓e164_191, ↓e164_192, ↓e164_193, ↓e164_194, ↓e164_195, ↓e164_198, ↓e164_199, ↓e164_200, ↓e164_201, ↓e164_202, ↓e164_203, ↓e164_204, ↓e164_207, ↓e164_210, ↓e164_213, ↓e164_214, ↓e164_217, ↓e164_218, ↓e164_220, ↓e164_221, ↓e164_224, ↓e164_227, ↓e164_228, ↓e164_231, znl_i, znl_r, znl_n, zcs_0, zcs_1, zcs_2, zcs_3, zcat_0, zcat_1, zcat_2, zcat_3, zbl_0, zbl_1, true_and, and_true, ↓zret_some, ↓zret_none, Nat.reduceAdd, Nat.reduceLeDiff, Nat.reduceMul, eq_self, Int.reduceToNat, Int.reduceLE, Int.reduceLT, Int.reduceNeg, and_self, zrg, zkc_0, zin_1, zin_2, zin_3, zin_4, zin_5, zin_6, zin_7, zin_8, zin_9, zaa_9, zkc_10, zin_11, zin_12, zkc_13, zin_14, zin_15, zkc_16, zin_17, zin_18, zkc_19, zin_20, zin_21, zin_22, zin_23, zin_24, zin_25, zin_26, zin_27, zin_28, zaa_28, zkc_29, zin_30, zin_31, zkc_32, zin_33, zin_34, zkc_35, zin_36, zin_37, zkc_38, zin_39, zin_40, zin_41, zin_42, zin_43, zin_44, zin_45, zin_46, zin_47, zaa_47, zkc_48, zin_49, zin_50, zkc_51, zin_52, zin_53, zkc_54, zin_55, zin_56, zkc_209, zkc_210, zin_211, zaa_211, zkc_212, zin_213, zkc_214, zkc_215, zin_216, zin_217, zkc_218, zin_219, zin_220, zin_221, zkc_222, zin_223, zaa_223, zin_224, zin_225, zkc_226, zin_227, zin_228, zin_229, zin_230, zin_231, zin_232, zkc_233, zin_234, zaa_234, zin_235, zin_236, zin_237, zin_238, zin_239, zin_240, zin_241, zin_242, zin_243, zin_244, zin_245, zin_246, zin_247, zin_248, zin_249, zin_250, zkc_251, zin_252, zin_253, zkc_374, zin_375, zin_376, zin_377, zin_378, zin_379, zin_380, zin_381, zin_382, zin_383, zin_384, zin_385, zin_386, zin_387, k3, hmr, hk1, hk2, b0, b1, b2, d0, d1, d2, ↓reduceIte, o3, o4, ↓href, hrr, hne, ↓hcp3]
          exact hF rfl i (by omega) hrk hne _ (IR_rf hX1 hI5) (fun b hb => by rw [zup_ne _ _ _ (by omega), zup_ne _ _ _ (by omega), cpR_ne _ 10 0 258 (by omega), r2.1 b (by omega)]; exact l2 b hb)
    have h9 := loop m 0 (by omega) (fun j hj => absurd hj (Nat.not_lt_zero j)) N2 w2 hR2 ⟨fun _ _ => rfl, fun _ _ => rfl, fun _ _ _ => rfl⟩
    exact h9
  · have hge : ¬ pe < 0 := by omega
    simp only [↓e164, ↓e164_0, ↓e164_1, ↓e164_2, ↓e164_5, ↓e164_6, ↓e164_7, ↓e164_10, ↓e164_11, ↓e164_12, ↓e164_15, ↓e164_16, ↓e164_19, ↓e164_20, ↓e164_23, ↓e164_26, ↓e164_27, ↓e164_30, ↓e164_32, ↓e164_35, ↓e164_36, ↓e164_36i, ↓e164_37, ↓e164_40, ↓e164_41, ↓e164_42, ↓e164_45, ↓e164_46, ↓e164_49, ↓e164_52, ↓e164_53, ↓e164_56, ↓e164_59, ↓e164_60, ↓e164_63, ↓e164_64, ↓e164_67, ↓e164_70, ↓e164_71, ↓e164_72, ↓e164_75, ↓e164_78, ↓e164_79, ↓e164_80, ↓e164_83, ↓e164_84, ↓e164_87, ↓e164_90, ↓e164_92, ↓e164_93, ↓e164_96, ↓e164_97, ↓e164_98, ↓e164_99, ↓e164_100, ↓e164_102, ↓e164_105, ↓e164_106, ↓e164_108, ↓e164_109, ↓e164_112, ↓e164_115, ↓e164_116, ↓e164_117, ↓e164_120, ↓e164_121, ↓e164_122, ↓e164_123, ↓e164_124, ↓e164_125, ↓e164_128, ↓e164_129, ↓e164_130, ↓e164_131, ↓e164_132, ↓e164_133, ↓e164_134, ↓e164_135, ↓e164_138, ↓e164_139, ↓e164_140, ↓e164_141, ↓e164_142, ↓e164_143, ↓e164_144, ↓e164_147, ↓e164_148, ↓e164_149, ↓e164_152, ↓e164_153, ↓e164_155, ↓e164_156, ↓e164_159, ↓e164_160, ↓e164_161, ↓e164_164, ↓e164_165, ↓e164_166, ↓e164_169, ↓e164_172, ↓e164_173, ↓e164_174, ↓e164_175, ↓e164_176, ↓e164_177, ↓e164_180, ↓e164_181, ↓e164_182, ↓e164_183, ↓e164_184, ↓e164_185, ↓e164_188, ↓e164_189, ↓e164_190, ↓e164_191, ↓e164_192, ↓e164_193, ↓e164_194, ↓e164_195, ↓e164_198, ↓e164_199, ↓e164_200, ↓e164_201, ↓e164_202, ↓e164_203, ↓e164_204, ↓e164_207, ↓e164_210, ↓e164_213, ↓e164_214, ↓e164_217, ↓e164_218, ↓e164_220, ↓e164_221, ↓e164_224, ↓e164_227, ↓e164_228, ↓e164_231, znl_i, znl_r, znl_n, zcs_0, zcs_1, zcs_2, zcs_3, zcat_0, zcat_1, zcat_2, zcat_3, zbl_0, zbl_1, true_and, and_true, ↓zret_some, ↓zret_none, Nat.reduceAdd, Nat.reduceLeDiff, Nat.reduceMul, eq_self, Int.reduceToNat, Int.reduceLE, Int.reduceLT, Int.reduceNeg, and_self, zrg, zkc_0, zin_1, zin_2, zin_3, zin_4, zin_5, zin_6, zin_7, zin_8, zin_9, zaa_9, zkc_10, zin_11, zin_12, zkc_13, zin_14, zin_15, zkc_16, zin_17, zin_18, zkc_19, zin_20, zin_21, zin_22, zin_23, zin_24, zin_25, zin_26, zin_27, zin_28, zaa_28, zkc_29, zin_30, zin_31, zkc_32, zin_33, zin_34, zkc_35, zin_36, zin_37, zkc_38, zin_39, zin_40, zin_41, zin_42, zin_43, zin_44, zin_45, zin_46, zin_47, zaa_47, zkc_48, zin_49, zin_50, zkc_51, zin_52, zin_53, zkc_54, zin_55, zin_56, zkc_209, zkc_210, zin_211, zaa_211, zkc_212, zin_213, zkc_214, zkc_215, zin_216, zin_217, zkc_218, zin_219, zin_220, zin_221, zkc_222, zin_223, zaa_223, zin_224, zin_225, zkc_226, zin_227, zin_228, zin_229, zin_230, zin_231, zin_232, zkc_233, zin_234, zaa_234, zin_235, zin_236, zin_237, zin_238, zin_239, zin_240, zin_241, zin_242, zin_243, zin_244, zin_245, zin_246, zin_247, zin_248, zin_249, zin_250, zkc_251, zin_252, zin_253, zkc_374, zin_375, zin_376, zin_377, zin_378, zin_379, zin_380, zin_381, zin_382, zin_383, zin_384, zin_385, zin_386, zin_387, e17, hprr, hge, ↓reduceIte]
    exact hE hok _ hI1 hlow
