theorem dst_levels {w : Nat → Int} {a : Nat} (ha : a < 120) : ∀ (n c : Nat), dst w a c = n → ∃ f : Nat → Nat, ∀ i, i ≤ n → f i < 120 ∧ dst w a (f i) = i
  | 0, c, h => ⟨fun _ => c, fun i hi => by
    obtain rfl : i = 0 := by omega
    exact ⟨pth_lt ha (dst_pth (w := w) (a := a) (c := c) (by omega)), h⟩⟩
  | n + 1, c, h => by
    obtain ⟨b, -, h2⟩ := dst_pred (w := w) (a := a) (c := c) (by omega)
    obtain ⟨f, hf⟩ := dst_levels (w := w) ha n b (by omega)
    refine ⟨fun i => if i = n + 1 then c else f i, fun i hi => ?_⟩
    by_cases q : i = n + 1
    · subst q
      simp only [if_true]
      exact ⟨pth_lt ha (dst_pth (w := w) (a := a) (c := c) (by omega)), h⟩
    · simp only [q, if_false]
      exact hf i (by omega)
theorem dst_lt {w : Nat → Int} {a c : Nat} (ha : a < 120) : dst w a c < 120 := by
  rcases Int.lt_or_le (dst w a c) 0 with z | z
  · omega
  · obtain ⟨f, hf⟩ := dst_levels (w := w) ha (dst w a c).toNat c (by omega)
    have := pig 120 ((dst w a c).toNat + 1) f (fun i hi => (hf i (by omega)).1) (fun i j hi hj e => by
      have h1 := (hf i (by omega)).2
      have h2 := (hf j (by omega)).2
      rw [e] at h1
      omega)
    omega
/-! ### Arrays.fill, Ways.from, Ways.forget -/
def zfill (M : zM) (a n : Nat) (v : Int) : zM := zrow M a (fun j => if j < n then v else M a j)
theorem zfill_0 (M : zM) (a : Nat) (v : Int) : zfill M a 0 v = M := by
  funext b j
  unfold zfill zrow
  by_cases h : b = a
  · subst h; simp
  · simp [h]
theorem zfill_s (M : zM) (a i : Nat) (v : Int) : zup (zfill M a i v) a i v = zfill M a (i + 1) v := by
  funext b j
  unfold zfill zrow zup
  by_cases h : b = a
  · subst h
    by_cases q : j = i
    · subst q; simp
    · simp only [q, and_false, if_false, if_true]
      by_cases z : j < i
      · rw [if_pos z, if_pos (by omega)]
      · rw [if_neg z, if_neg (by omega)]
  · simp [h]
theorem s_fill (d : Nat) (Q : zQ) (M : zM) (a n : Nat) (fs : List Nat) (v : Int) (hk : zk a = (0, n, fs)) (hn : n < 20001) : Sp (d + 1) 184 [.inr (.inr a), .inl v] M Q = Q none (zfill M a n v) := by
  have hz : ∀ i : Int, zin 0 a i = (0 ≤ i ∧ i < n) := fun i => zin_of hk
  have loop : ∀ m i : Nat, i + m = n → RT (Sp d) 184 Q 5 [some (.inr (.inr a)), some (.inl v), some (.inl (i : Int)), some (.inl (n : Int))] [] (zfill M a i v) = Q none (zfill M a n v) := by
    intro m
    induction m with
    | zero =>
      intro i hi
      obtain rfl : i = n := by omega
      have h1 : -2147483648 ≤ (i : Int) ∧ (i : Int) < 2147483648 := ⟨by omega, by omega⟩
      simp only [↓e184, ↓e184_0, ↓e184_1, ↓e184_2, ↓e184_3, ↓e184_4, ↓e184_5, ↓e184_6, ↓e184_7, ↓e184_10, ↓e184_11, ↓e184_12, ↓e184_13, ↓e184_14, ↓e184_17, ↓e184_20, znl_i, znl_r, znl_n, zcs_0, zcs_1, zcs_2, zcs_3, zcat_0, zcat_1, zcat_2, zcat_3, zbl_0, zbl_1, true_and, and_true, ↓zret_some, ↓zret_none, Nat.reduceAdd, Nat.reduceLeDiff, Nat.reduceMul, eq_self, Int.reduceToNat, zrg, h1, ge_iff_le, Int.le_refl, ↓reduceIte]
    | succ m ih =>
      intro i hi
      have h1 : -2147483648 ≤ (i : Int) ∧ (i : Int) < 2147483648 := ⟨by omega, by omega⟩
      have h2 : -2147483648 ≤ (n : Int) ∧ (n : Int) < 2147483648 := ⟨by omega, by omega⟩
      have h3 : ¬ (i : Int) ≥ n := by omega
      have h4 : 0 ≤ (i : Int) ∧ (i : Int) < n := ⟨by omega, by omega⟩
      rw [e184_5]
      simp only [↓e184, ↓e184_0, ↓e184_1, ↓e184_2, ↓e184_3, ↓e184_4, ↓e184_6, ↓e184_7, ↓e184_10, ↓e184_11, ↓e184_12, ↓e184_13, ↓e184_14, ↓e184_17, ↓e184_20, znl_i, znl_r, znl_n, zcs_0, zcs_1, zcs_2, zcs_3, zcat_0, zcat_1, zcat_2, zcat_3, zbl_0, zbl_1, true_and, and_true, ↓zret_some, ↓zret_none, Nat.reduceAdd, Nat.reduceLeDiff, Nat.reduceMul, eq_self, Int.reduceToNat, zrg, h1, h2, h3, hz, h4, ↓reduceIte, Int.toNat_natCast, zfill_s]
      rw [show ((i : Int) + 1) = ((i + 1 : Nat) : Int) by omega]
      exact ih (i + 1) (by omega)
  have h0 := loop n 0 (by omega)
  rw [zfill_0] at h0
  simp only [↓e184, ↓e184_0, ↓e184_1, ↓e184_2, ↓e184_3, ↓e184_4, ↓e184_6, ↓e184_7, ↓e184_10, ↓e184_11, ↓e184_12, ↓e184_13, ↓e184_14, ↓e184_17, ↓e184_20, znl_i, znl_r, znl_n, zcs_0, zcs_1, zcs_2, zcs_3, zcat_0, zcat_1, zcat_2, zcat_3, zbl_0, zbl_1, true_and, and_true, ↓zret_some, ↓zret_none, Nat.reduceAdd, Nat.reduceLeDiff, Nat.reduceMul, eq_self, Int.reduceToNat, hk]
  simp
  exact iff_of_eq h0
theorem s_nb (d : Nat) (Q : zQ) (M : zM) (c k : Int) (hc : 0 ≤ c) (hc2 : c < 120) (hk : 0 ≤ k) (hk2 : k < 4) : Sp (d + 1) 96 [.inl c, .inl k] M Q = Q (some (.inl (nb c k))) M := s_neighbor d Q M c k hc hc2 hk hk2
theorem zkD {s : Nat} (hs : s < 120) : zk (254 + s) = (0, 120, []) := by
  unfold zk
  rw [if_neg (by omega), if_neg (by omega), if_pos (by omega)]
noncomputable def dd (w : Nat → Int) (s c : Nat) : Int := if dst w s c = -1 then -5 else dst w s c
/-- what Ways knows is right -/
def Wv (M : zM) (w : Nat → Int) : Prop := ∀ s : Nat, s < 120 → (M 224 s = 0 ∨ M 224 s = 1) ∧ (M 224 s = 1 → ∀ c : Nat, c < 120 → M (254 + s) c = dd w s c)
/-- what the world's cells tell of walls -/
def Hw (M : zM) (w : Nat → Int) : Prop := ∀ c : Nat, c < 120 → (M 1 c = -2 ↔ w c = 1) ∧ -2 ≤ M 1 c ∧ M 1 c < 10
def FI (w : Nat → Int) (M N : zM) (s len t k : Nat) : Prop :=
  (∀ j, N 224 j = if j = s then 1 else M 224 j) ∧ (∀ b, b ≠ 224 → b ≠ 225 → b ≠ 254 + s → N b = M b) ∧ Bf w (N (254 + s)) (N 225) s len t k ∧ (∀ c : Nat, c < 120 → N (254 + s) c < 0 → N (254 + s) c = -5)
theorem FI_end {w : Nat → Int} {M N : zM} {s len : Nat} (hs : s < 120) (hV : Wv M w) (h : FI w M N s len len 0) : Wv N w ∧ (∀ c : Nat, c < 120 → N (254 + s) c = dd w s c) ∧ (∀ b, b ≠ 224 → b ≠ 225 → b ≠ 254 + s → N b = M b) := by
  obtain ⟨h1, h2, h3, h4⟩ := h
  have hD : ∀ c : Nat, c < 120 → N (254 + s) c = dd w s c := by
    intro c hc
    have h5 := bf_done h3 c hc
    unfold dd
    rcases Int.lt_or_le (N (254 + s) c) 0 with z | z
    · rw [if_pos (h5.2 z)]; exact h4 c hc z
    · have := h5.1 z
      rw [if_neg (by omega)]; exact this
  refine ⟨fun x hx => ?_, hD, h2⟩
  rw [h1 x]
  by_cases z : x = s
  · subst z
    rw [if_pos rfl]
    exact ⟨Or.inr rfl, fun _ => hD⟩
  · rw [if_neg z]
    refine ⟨(hV x hx).1, fun hk c hc => ?_⟩
    rw [h2 (254 + x) (by omega) (by omega) (by omega)]
    exact (hV x hx).2 hk c hc
theorem s_from2 (d : Nat) (Q : zQ) (M : zM) (w : Nat → Int) (s : Nat) (hs : s < 120) (hH : Hw M w) (hV : Wv M w)
    (hQ : ∀ M', Wv M' w → (∀ c : Nat, c < 120 → M' (254 + s) c = dd w s c) → (∀ b, b ≠ 224 → b ≠ 225 → b ≠ 254 + s → M' b = M b) → Q (some (.inr (.inr (254 + s)))) M') : Sp (d + 2) 52 [.inr (.inr 222), .inl (s : Int)] M Q := by
  have hz : ∀ i : Int, zin 0 (254 + s) i = (0 ≤ i ∧ i < 120) := fun i => zin_of (n := 120) (zkD hs)
  have hs0 : 0 ≤ (s : Int) ∧ (s : Int) < 120 := ⟨by omega, by omega⟩
  have e1 : 254 + 1 * s = 254 + s := by omega
  have inner : ∀ n k : Nat, k + n = 4 → ∀ (N : zM) (len t : Nat) (w7 : Option zV), FI w M N s len t k → t < len →
      (∀ (N' : zM) (len' : Nat) (x5 x6 x7 : Option zV), FI w M N' s len' (t + 1) 0 → RT (Sp (d + 1)) 52 Q 63 [some (.inr (.inr 222)), some (.inl (s : Int)), some (.inr (.inr (254 + s))), some (.inl (len' : Int)), some (.inl ((t + 1 : Nat) : Int)), x5, x6, x7] [] N') →
      RT (Sp (d + 1)) 52 Q 88 [some (.inr (.inr 222)), some (.inl (s : Int)), some (.inr (.inr (254 + s))), some (.inl (len : Int)), some (.inl (t : Int)), some (.inl (N 225 t)), some (.inl (k : Int)), w7] [] N := by
    intro n
    induction n with
    | zero =>
      intro k hk N len t w7 hF ht hO
      obtain rfl : k = 4 := by omega
      rw [e52_88]
      simp only [↓e52, ↓e52_0, ↓e52_1, ↓e52_4, ↓e52_5, ↓e52_6, ↓e52_7, ↓e52_8, ↓e52_11, ↓e52_12, ↓e52_13, ↓e52_16, ↓e52_17, ↓e52_18, ↓e52_19, ↓e52_22, ↓e52_23, ↓e52_24, ↓e52_25, ↓e52_26, ↓e52_28, ↓e52_31, ↓e52_32, ↓e52_35, ↓e52_38, ↓e52_39, ↓e52_40, ↓e52_42, ↓e52_45, ↓e52_46, ↓e52_47, ↓e52_48, ↓e52_49, ↓e52_50, ↓e52_51, ↓e52_52, ↓e52_55, ↓e52_56, ↓e52_57, ↓e52_58, ↓e52_59, ↓e52_60, ↓e52_61, ↓e52_65, ↓e52_66, ↓e52_69, ↓e52_71, ↓e52_73, ↓e52_76, ↓e52_77, ↓e52_80, ↓e52_82, ↓e52_83, ↓e52_85, ↓e52_86, ↓e52_90, ↓e52_91, ↓e52_94, ↓e52_96, ↓e52_98, ↓e52_101, ↓e52_103, ↓e52_105, ↓e52_108, ↓e52_109, ↓e52_111, ↓e52_112, ↓e52_115, ↓e52_116, ↓e52_119, ↓e52_122, ↓e52_124, ↓e52_125, ↓e52_127, ↓e52_130, ↓e52_131, ↓e52_133, ↓e52_134, ↓e52_136, ↓e52_137, ↓e52_138, ↓e52_139, ↓e52_140, ↓e52_141, ↓e52_144, ↓e52_145, ↓e52_147, ↓e52_148, ↓e52_154, ↓e52_157, ↓e52_160, ↓e52_163, ↓e52_164, znl_i, znl_r, znl_n, zcs_0, zcs_1, zcs_2, zcs_3, zcat_0, zcat_1, zcat_2, zcat_3, zbl_0, zbl_1, true_and, and_true, ↓zret_some, ↓zret_none, Nat.reduceAdd, Nat.reduceLeDiff, Nat.reduceMul, eq_self, Int.reduceToNat, zrg]
      have h9 := hO N len (some (.inl (N 225 t))) (some (.inl 4)) w7 ⟨hF.1, hF.2.1, bf_next hF.2.2.1 ht, hF.2.2.2⟩
      simp
      exact h9
    | succ n ih =>
      intro k hk N len t w7 hF ht hO
      obtain ⟨f1, f2, f3, f4⟩ := id hF
      obtain ⟨c, c1, c2, c3, c4, c5⟩ := f3.2.1 t ht
      have hk0 : 0 ≤ (k : Int) ∧ (k : Int) < 4 := ⟨by omega, by omega⟩
      have hk1 : ¬ (k : Int) ≥ 4 := by omega
      have hk2 : -2147483648 ≤ (k : Int) ∧ (k : Int) < 2147483648 := ⟨by omega, by omega⟩
      have hc0 : 0 ≤ (c : Int) ∧ (c : Int) < 120 := ⟨by omega, by omega⟩
      have hl120 : len ≤ 120 := by
        have := pig 120 len (fun i => (N 225 i).toNat) (fun i hi => by
          obtain ⟨c0, u1, u2, -⟩ := f3.2.1 i hi
          show (N 225 i).toNat < 120
          omega) (fun i j hi hj z => by
          have z : (N 225 i).toNat = (N 225 j).toNat := z
          obtain ⟨c0, u1, u2, -⟩ := f3.2.1 i hi
          obtain ⟨c1, v1, v2, -⟩ := f3.2.1 j hj
          exact f3.2.2.1 i j hi hj (by omega))
        exact this
      have hnr : -2147483648 ≤ nb c k ∧ nb c k < 2147483648 := by unfold nb; constructor <;> (repeat' split) <;> omega
      -- behind one direction
      have join : ∀ (N' : zM) (len' : Nat) (w7' : Option zV), FI w M N' s len' t (k + 1) → t < len' → N' 225 t = N 225 t → RT (Sp (d + 1)) 52 Q 151 [some (.inr (.inr 222)), some (.inl (s : Int)), some (.inr (.inr (254 + s))), some (.inl (len' : Int)), some (.inl (t : Int)), some (.inl (N 225 t)), some (.inl (k : Int)), w7'] [] N' := by
        intro N' len' w7' hF' ht' hq
        have h9 := ih (k + 1) (by omega) N' len' t w7' hF' ht' hO
        rw [hq] at h9
        simp only [↓e52, ↓e52_0, ↓e52_1, ↓e52_4, ↓e52_5, ↓e52_6, ↓e52_7, ↓e52_8, ↓e52_11, ↓e52_12, ↓e52_13, ↓e52_16, ↓e52_17, ↓e52_18, ↓e52_19, ↓e52_22, ↓e52_23, ↓e52_24, ↓e52_25, ↓e52_26, ↓e52_28, ↓e52_31, ↓e52_32, ↓e52_35, ↓e52_38, ↓e52_39, ↓e52_40, ↓e52_42, ↓e52_45, ↓e52_46, ↓e52_47, ↓e52_48, ↓e52_49, ↓e52_50, ↓e52_51, ↓e52_52, ↓e52_55, ↓e52_56, ↓e52_57, ↓e52_58, ↓e52_59, ↓e52_60, ↓e52_61, ↓e52_65, ↓e52_66, ↓e52_69, ↓e52_71, ↓e52_73, ↓e52_76, ↓e52_77, ↓e52_80, ↓e52_82, ↓e52_83, ↓e52_85, ↓e52_86, ↓e52_90, ↓e52_91, ↓e52_94, ↓e52_96, ↓e52_98, ↓e52_101, ↓e52_103, ↓e52_105, ↓e52_108, ↓e52_109, ↓e52_111, ↓e52_112, ↓e52_115, ↓e52_116, ↓e52_119, ↓e52_122, ↓e52_124, ↓e52_125, ↓e52_127, ↓e52_130, ↓e52_131, ↓e52_133, ↓e52_134, ↓e52_136, ↓e52_137, ↓e52_138, ↓e52_139, ↓e52_140, ↓e52_141, ↓e52_144, ↓e52_145, ↓e52_147, ↓e52_148, ↓e52_151, ↓e52_154, ↓e52_157, ↓e52_160, ↓e52_163, ↓e52_164, znl_i, znl_r, znl_n, zcs_0, zcs_1, zcs_2, zcs_3, zcat_0, zcat_1, zcat_2, zcat_3, zbl_0, zbl_1, true_and, and_true, ↓zret_some, ↓zret_none, Nat.reduceAdd, Nat.reduceLeDiff, Nat.reduceMul, eq_self, Int.reduceToNat]
        exact h9
      rw [c1] at join ⊢
      rw [e52_88]
      simp only [↓e52, ↓e52_0, ↓e52_1, ↓e52_4, ↓e52_5, ↓e52_6, ↓e52_7, ↓e52_8, ↓e52_11, ↓e52_12, ↓e52_13, ↓e52_16, ↓e52_17, ↓e52_18, ↓e52_19, ↓e52_22, ↓e52_23, ↓e52_24, ↓e52_25, ↓e52_26, ↓e52_28, ↓e52_31, ↓e52_32, ↓e52_35, ↓e52_38, ↓e52_39, ↓e52_40, ↓e52_42, ↓e52_45, ↓e52_46, ↓e52_47, ↓e52_48, ↓e52_49, ↓e52_50, ↓e52_51, ↓e52_52, ↓e52_55, ↓e52_56, ↓e52_57, ↓e52_58, ↓e52_59, ↓e52_60, ↓e52_61, ↓e52_65, ↓e52_66, ↓e52_69, ↓e52_71, ↓e52_73, ↓e52_76, ↓e52_77, ↓e52_80, ↓e52_82, ↓e52_83, ↓e52_85, ↓e52_86, ↓e52_90, ↓e52_91, ↓e52_94, ↓e52_96, ↓e52_98, ↓e52_101, ↓e52_103, ↓e52_105, ↓e52_108, ↓e52_109, ↓e52_111, ↓e52_112, ↓e52_115, ↓e52_116, ↓e52_119, ↓e52_122, ↓e52_124, ↓e52_125, ↓e52_127, ↓e52_130, ↓e52_131, ↓e52_133, ↓e52_134, ↓e52_136, ↓e52_137, ↓e52_138, ↓e52_139, ↓e52_140, ↓e52_141, ↓e52_144, ↓e52_145, ↓e52_147, ↓e52_148, ↓e52_154, ↓e52_157, ↓e52_160, ↓e52_163, ↓e52_164, znl_i, znl_r, znl_n, zcs_0, zcs_1, zcs_2, zcs_3, zcat_0, zcat_1, zcat_2, zcat_3, zbl_0, zbl_1, true_and, and_true, ↓zret_some, ↓zret_none, Nat.reduceAdd, Nat.reduceLeDiff, Nat.reduceMul, eq_self, Int.reduceToNat, zrg, hk1, hk2, ↓reduceIte, ↓s_nb d _ N c k hc0.1 hc0.2 hk0.1 hk0.2, hnr, zkc_222, zkc_0, hz]
      by_cases h1 : nb c k < 0
      · have h2 := join N len (some (.inl (nb c k))) ⟨f1, f2, bf_skip f3 ht (by omega) (fun e he => by rw [c1] at he; omega), f4⟩ ht c1
        simp [h1]
        exact h2
      · obtain ⟨x, hx⟩ : ∃ x : Nat, nb c k = x := ⟨(nb c k).toNat, by omega⟩
        have hx1 : x < 120 := by have := nb_rng hc0 (k := k) (by omega); omega
        have hx0 : 0 ≤ (x : Int) ∧ (x : Int) < 120 := ⟨by omega, by omega⟩
        rw [hx]
        simp only [show ¬ (x : Int) < 0 by omega, ↓reduceIte, hx0, Int.toNat_natCast, true_and]
        have hDr : -2147483648 ≤ N (254 + s) x ∧ N (254 + s) x < 2147483648 := by
          rcases Int.lt_or_le (N (254 + s) x) 0 with z | z
          · have := f4 x hx1 z; omega
          · obtain ⟨i0, u1, u2⟩ := f3.2.2.2.1 x hx1 z
            obtain ⟨c0, v1, v2, v3, v4, v5⟩ := f3.2.1 i0 u1
            have : c0 = x := by omega
            subst this
            have := dst_lt (w := w) (c := c0) hs
            omega
        have h225 : N 1 = M 1 := f2 1 (by omega) (by omega) (by omega)
        have hHx := hH x hx1
        have hHr : -2147483648 ≤ M 1 x ∧ M 1 x < 2147483648 := by omega
        simp only [hDr, true_and, h225, hHr]
        by_cases h3 : N (254 + s) x ≥ 0
        · have h2 := join N len (some (.inl (x : Int))) ⟨f1, f2, bf_skip f3 ht (by omega) (fun e he _ => by rw [c1] at he; have : e = x := (by omega); subst this; exact h3), f4⟩ ht c1
          simp [h3]
          exact h2
        · simp only [zin_1, hx0, true_and]
          by_cases h4 : M 1 x = -2
          · have h2 := join N len (some (.inl (x : Int))) ⟨f1, f2, bf_skip f3 ht (by omega) (fun e he hw => by rw [c1] at he; have : e = x := (by omega); subst this; exact absurd (hHx.1.mp h4) hw), f4⟩ ht c1
            simp [h3, h4]
            exact h2
          · have hwx : w x ≠ 1 := fun q => h4 (hHx.1.mpr q)
            have hxe : nb (N 225 t) k = x := by rw [c1]; exact hx
            have hxx := bf_exact f3 ht (by omega) hxe hwx (by omega)
            have hll : 0 ≤ (len : Int) ∧ (len : Int) < 120 := ⟨by omega, by omega⟩
            have hF2 : FI w M (zup (zup N (254 + s) x (N (254 + s) c + 1)) 225 len x) s (len + 1) t (k + 1) := by
              have g1 : ∀ c0 : Nat, (zup (zup N (254 + s) x (N (254 + s) c + 1)) 225 len x) (254 + s) c0 = if c0 = x then N (254 + s) c + 1 else N (254 + s) c0 := fun c0 => by
                rw [zup_ne _ _ _ (by omega)]; simp [zup]
              have g2 : ∀ i0 : Nat, (zup (zup N (254 + s) x (N (254 + s) c + 1)) 225 len x) 225 i0 = if i0 = len then (x : Int) else N 225 i0 := fun i0 => by
                have : ¬ 225 = 254 + s := by omega
                simp [zup, this]
              refine ⟨fun j => ?_, fun b b1 b2 b3 => ?_, bf_add f3 ht (by omega) hxe hwx (by omega) (fun c0 => ?_) g2, fun c0 hc1 h5 => ?_⟩
              · rw [zup_ne _ _ _ (by omega), zup_ne _ _ _ (by omega)]; exact f1 j
              · rw [zup_ne _ _ _ b2, zup_ne _ _ _ b3]; exact f2 b b1 b2 b3
              · rw [g1 c0, c1]; simp
              · rw [g1 c0] at h5 ⊢
                split at h5
                · omega
                · rw [if_neg (by assumption)]; exact f4 c0 hc1 h5
            have h2 := join _ (len + 1) (some (.inl (x : Int))) hF2 (by omega) (by
              have : ¬ 225 = 254 + s := by omega
              have : ¬ t = len := by omega
              simp [zup, *])
            simp [h3, h4, zin_225, hll, hc0]
            rw [show ((len : Int) + 1) = ((len + 1 : Nat) : Int) by omega]
            exact h2
  have outer : ∀ n t : Nat, t + n = 120 → ∀ (N : zM) (len : Nat) (x5 x6 x7 : Option zV), FI w M N s len t 0 → RT (Sp (d + 1)) 52 Q 63 [some (.inr (.inr 222)), some (.inl (s : Int)), some (.inr (.inr (254 + s))), some (.inl (len : Int)), some (.inl (t : Int)), x5, x6, x7] [] N := by
    intro n
    induction n with
    | zero =>
      intro t ht N len x5 x6 x7 hF
      have hl := hF.2.2.1.1
      have h120 : len ≤ 120 := by
        have := pig 120 len (fun i => (N 225 i).toNat) (fun i hi => by
          obtain ⟨c0, u1, u2, -⟩ := hF.2.2.1.2.1 i hi
          show (N 225 i).toNat < 120
          omega) (fun i j hi hj z => by
          have z : (N 225 i).toNat = (N 225 j).toNat := z
          obtain ⟨c0, u1, u2, -⟩ := hF.2.2.1.2.1 i hi
          obtain ⟨c1, v1, v2, -⟩ := hF.2.2.1.2.1 j hj
          exact hF.2.2.1.2.2.1 i j hi hj (by omega))
        exact this
      obtain rfl : t = len := by omega
      obtain ⟨g1, g2, g3⟩ := FI_end hs hV hF
      have hr : -2147483648 ≤ (t : Int) ∧ (t : Int) < 2147483648 := ⟨by omega, by omega⟩
      simp only [↓e52, ↓e52_0, ↓e52_1, ↓e52_4, ↓e52_5, ↓e52_6, ↓e52_7, ↓e52_8, ↓e52_11, ↓e52_12, ↓e52_13, ↓e52_16, ↓e52_17, ↓e52_18, ↓e52_19, ↓e52_22, ↓e52_23, ↓e52_24, ↓e52_25, ↓e52_26, ↓e52_28, ↓e52_31, ↓e52_32, ↓e52_35, ↓e52_38, ↓e52_39, ↓e52_40, ↓e52_42, ↓e52_45, ↓e52_46, ↓e52_47, ↓e52_48, ↓e52_49, ↓e52_50, ↓e52_51, ↓e52_52, ↓e52_55, ↓e52_56, ↓e52_57, ↓e52_58, ↓e52_59, ↓e52_60, ↓e52_61, ↓e52_63, ↓e52_65, ↓e52_66, ↓e52_69, ↓e52_71, ↓e52_73, ↓e52_76, ↓e52_77, ↓e52_80, ↓e52_82, ↓e52_83, ↓e52_85, ↓e52_86, ↓e52_88, ↓e52_90, ↓e52_91, ↓e52_94, ↓e52_96, ↓e52_98, ↓e52_101, ↓e52_103, ↓e52_105, ↓e52_108, ↓e52_109, ↓e52_111, ↓e52_112, ↓e52_115, ↓e52_116, ↓e52_119, ↓e52_122, ↓e52_124, ↓e52_125, ↓e52_127, ↓e52_130, ↓e52_131, ↓e52_133, ↓e52_134, ↓e52_136, ↓e52_137, ↓e52_138, ↓e52_139, ↓e52_140, ↓e52_141, ↓e52_144, ↓e52_145, ↓e52_147, ↓e52_148, ↓e52_151, ↓e52_154, ↓e52_157, ↓e52_160, ↓e52_163, ↓e52_164, znl_i, znl_r, znl_n, zcs_0, zcs_1, zcs_2, zcs_3, zcat_0, zcat_1, zcat_2, zcat_3, zbl_0, zbl_1, true_and, and_true, ↓zret_some, ↓zret_none, Nat.reduceAdd, Nat.reduceLeDiff, Nat.reduceMul, eq_self, Int.reduceToNat, zrg, hr, ge_iff_le, Int.le_refl, ↓reduceIte]
      exact hQ N g1 g2 g3
    | succ n ih =>
      intro t ht N len x5 x6 x7 hF
      have hl := hF.2.2.1.1
      have h120 : len ≤ 120 := by
        have := pig 120 len (fun i => (N 225 i).toNat) (fun i hi => by
          obtain ⟨c0, u1, u2, -⟩ := hF.2.2.1.2.1 i hi
          show (N 225 i).toNat < 120
          omega) (fun i j hi hj z => by
          have z : (N 225 i).toNat = (N 225 j).toNat := z
          obtain ⟨c0, u1, u2, -⟩ := hF.2.2.1.2.1 i hi
          obtain ⟨c1, v1, v2, -⟩ := hF.2.2.1.2.1 j hj
          exact hF.2.2.1.2.2.1 i j hi hj (by omega))
        exact this
      have hr : -2147483648 ≤ (t : Int) ∧ (t : Int) < 2147483648 := ⟨by omega, by omega⟩
      have hr2 : -2147483648 ≤ (len : Int) ∧ (len : Int) < 2147483648 := ⟨by omega, by omega⟩
      by_cases hq : t = len
      · subst hq
        obtain ⟨g1, g2, g3⟩ := FI_end hs hV hF
        rw [e52_63]
        simp only [↓e52, ↓e52_0, ↓e52_1, ↓e52_4, ↓e52_5, ↓e52_6, ↓e52_7, ↓e52_8, ↓e52_11, ↓e52_12, ↓e52_13, ↓e52_16, ↓e52_17, ↓e52_18, ↓e52_19, ↓e52_22, ↓e52_23, ↓e52_24, ↓e52_25, ↓e52_26, ↓e52_28, ↓e52_31, ↓e52_32, ↓e52_35, ↓e52_38, ↓e52_39, ↓e52_40, ↓e52_42, ↓e52_45, ↓e52_46, ↓e52_47, ↓e52_48, ↓e52_49, ↓e52_50, ↓e52_51, ↓e52_52, ↓e52_55, ↓e52_56, ↓e52_57, ↓e52_58, ↓e52_59, ↓e52_60, ↓e52_61, ↓e52_65, ↓e52_66, ↓e52_69, ↓e52_71, ↓e52_73, ↓e52_76, ↓e52_77, ↓e52_80, ↓e52_82, ↓e52_83, ↓e52_85, ↓e52_86, ↓e52_88, ↓e52_90, ↓e52_91, ↓e52_94, ↓e52_96, ↓e52_98, ↓e52_101, ↓e52_103, ↓e52_105, ↓e52_108, ↓e52_109, ↓e52_111, ↓e52_112, ↓e52_115, ↓e52_116, ↓e52_119, ↓e52_122, ↓e52_124, ↓e52_125, ↓e52_127, ↓e52_130, ↓e52_131, ↓e52_133, ↓e52_134, ↓e52_136, ↓e52_137, ↓e52_138, ↓e52_139, ↓e52_140, ↓e52_141, ↓e52_144, ↓e52_145, ↓e52_147, ↓e52_148, ↓e52_151, ↓e52_154, ↓e52_157, ↓e52_160, ↓e52_163, ↓e52_164, znl_i, znl_r, znl_n, zcs_0, zcs_1, zcs_2, zcs_3, zcat_0, zcat_1, zcat_2, zcat_3, zbl_0, zbl_1, true_and, and_true, ↓zret_some, ↓zret_none, Nat.reduceAdd, Nat.reduceLeDiff, Nat.reduceMul, eq_self, Int.reduceToNat, zrg, hr, ge_iff_le, Int.le_refl, ↓reduceIte]
        exact hQ N g1 g2 g3
      · have ht2 : t < len := by omega
        have h1 : ¬ (t : Int) ≥ len := by omega
        have h2 : ¬ (t : Int) ≥ 120 := by omega
        have h3 : 0 ≤ (t : Int) ∧ (t : Int) < 120 := ⟨by omega, by omega⟩
        have h9 := inner 4 0 rfl N len t x7 hF ht2 (fun N' len' y5 y6 y7 hF' => ih (t + 1) (by omega) N' len' y5 y6 y7 hF')
        rw [e52_63]
        simp only [↓e52, ↓e52_0, ↓e52_1, ↓e52_4, ↓e52_5, ↓e52_6, ↓e52_7, ↓e52_8, ↓e52_11, ↓e52_12, ↓e52_13, ↓e52_16, ↓e52_17, ↓e52_18, ↓e52_19, ↓e52_22, ↓e52_23, ↓e52_24, ↓e52_25, ↓e52_26, ↓e52_28, ↓e52_31, ↓e52_32, ↓e52_35, ↓e52_38, ↓e52_39, ↓e52_40, ↓e52_42, ↓e52_45, ↓e52_46, ↓e52_47, ↓e52_48, ↓e52_49, ↓e52_50, ↓e52_51, ↓e52_52, ↓e52_55, ↓e52_56, ↓e52_57, ↓e52_58, ↓e52_59, ↓e52_60, ↓e52_61, ↓e52_65, ↓e52_66, ↓e52_69, ↓e52_71, ↓e52_73, ↓e52_76, ↓e52_77, ↓e52_80, ↓e52_82, ↓e52_83, ↓e52_85, ↓e52_86, ↓e52_90, ↓e52_91, ↓e52_94, ↓e52_96, ↓e52_98, ↓e52_101, ↓e52_103, ↓e52_105, ↓e52_108, ↓e52_109, ↓e52_111, ↓e52_112, ↓e52_115, ↓e52_116, ↓e52_119, ↓e52_122, ↓e52_124, ↓e52_125, ↓e52_127, ↓e52_130, ↓e52_131, ↓e52_133, ↓e52_134, ↓e52_136, ↓e52_137, ↓e52_138, ↓e52_139, ↓e52_140, ↓e52_141, ↓e52_144, ↓e52_145, ↓e52_147, ↓e52_148, ↓e52_151, ↓e52_154, ↓e52_157, ↓e52_160, ↓e52_163, ↓e52_164, znl_i, znl_r, znl_n, zcs_0, zcs_1, zcs_2, zcs_3, zcat_0, zcat_1, zcat_2, zcat_3, zbl_0, zbl_1, true_and, and_true, ↓zret_some, ↓zret_none, Nat.reduceAdd, Nat.reduceLeDiff, Nat.reduceMul, eq_self, Int.reduceToNat, zrg, hr, hr2, h1, h2, h3, ↓reduceIte, zin_225, zkc_222, Int.toNat_natCast]
        simp
        exact h9
  have hk01 := (hV s hs).1
  have hkr : -2147483648 ≤ M 224 s ∧ M 224 s < 2147483648 := by omega
  simp only [↓e52, ↓e52_0, ↓e52_1, ↓e52_4, ↓e52_5, ↓e52_6, ↓e52_7, ↓e52_8, ↓e52_11, ↓e52_12, ↓e52_13, ↓e52_16, ↓e52_17, ↓e52_18, ↓e52_19, ↓e52_22, ↓e52_23, ↓e52_24, ↓e52_25, ↓e52_26, ↓e52_28, ↓e52_31, ↓e52_32, ↓e52_35, ↓e52_38, ↓e52_39, ↓e52_40, ↓e52_42, ↓e52_46, ↓e52_48, ↓e52_49, ↓e52_50, ↓e52_51, ↓e52_52, ↓e52_55, ↓e52_56, ↓e52_57, ↓e52_58, ↓e52_59, ↓e52_60, ↓e52_61, ↓e52_63, ↓e52_65, ↓e52_66, ↓e52_69, ↓e52_71, ↓e52_73, ↓e52_76, ↓e52_77, ↓e52_80, ↓e52_82, ↓e52_83, ↓e52_85, ↓e52_86, ↓e52_88, ↓e52_90, ↓e52_91, ↓e52_94, ↓e52_96, ↓e52_98, ↓e52_101, ↓e52_103, ↓e52_105, ↓e52_108, ↓e52_109, ↓e52_111, ↓e52_112, ↓e52_115, ↓e52_116, ↓e52_119, ↓e52_122, ↓e52_124, ↓e52_125, ↓e52_127, ↓e52_130, ↓e52_131, ↓e52_133, ↓e52_134, ↓e52_136, ↓e52_137, ↓e52_138, ↓e52_139, ↓e52_140, ↓e52_141, ↓e52_144, ↓e52_145, ↓e52_147, ↓e52_148, ↓e52_151, ↓e52_154, ↓e52_157, ↓e52_160, ↓e52_163, ↓e52_164, znl_i, znl_r, znl_n, zcs_0, zcs_1, zcs_2, zcs_3, zcat_0, zcat_1, zcat_2, zcat_3, zbl_0, zbl_1, true_and, and_true, ↓zret_some, ↓zret_none, Nat.reduceAdd, Nat.reduceLeDiff, Nat.reduceMul, eq_self, Int.reduceToNat, zrg, zin_223, zin_224, zaa_223, zkc_222, hs0, hkr, Int.toNat_natCast, e1, ↓s_fill (d) _ _ (254 + s) 120 [] (-5) (zkD hs) (by omega), zin_1, zkc_0]
  by_cases hk : M 224 s = 0
  · have hM1 : zfill (zup M 224 s 1) (254 + s) 120 (-5) 1 = M 1 := by
      have : ¬ 1 = 254 + s := by omega
      funext j
      simp [zfill, zrow, zup, this]
    have hHx := hH s hs
    simp [hk, hM1]
    refine ⟨by omega, ?_⟩
    have z1 : ∀ b, b ≠ 224 → b ≠ 254 + s → zfill (zup M 224 s 1) (254 + s) 120 (-5) b = M b := fun b b1 b2 => by
      unfold zfill
      rw [zrow_ne _ _ b2, zup_ne _ _ _ b1]
    have z2 : ∀ j, zfill (zup M 224 s 1) (254 + s) 120 (-5) 224 j = if j = s then 1 else M 224 j := fun j => by
      unfold zfill
      rw [zrow_ne _ _ (by omega)]
      simp [zup]
    have z3 : ∀ j, j < 120 → zfill (zup M 224 s 1) (254 + s) 120 (-5) (254 + s) j = -5 := fun j hj => by
      unfold zfill
      rw [zrow_self, if_pos hj]
    generalize hN : zfill (zup M 224 s 1) (254 + s) 120 (-5) = N at z1 z2 z3 ⊢
    by_cases hw : M 1 s = -2
    · have hws := (hHx.1).mp hw
      rw [if_pos hw]
      simp only [↓e52, ↓e52_0, ↓e52_1, ↓e52_4, ↓e52_5, ↓e52_6, ↓e52_7, ↓e52_8, ↓e52_11, ↓e52_12, ↓e52_13, ↓e52_16, ↓e52_17, ↓e52_18, ↓e52_19, ↓e52_22, ↓e52_23, ↓e52_24, ↓e52_25, ↓e52_26, ↓e52_28, ↓e52_31, ↓e52_32, ↓e52_35, ↓e52_38, ↓e52_39, ↓e52_40, ↓e52_42, ↓e52_45, ↓e52_46, ↓e52_47, ↓e52_48, ↓e52_49, ↓e52_50, ↓e52_51, ↓e52_52, ↓e52_55, ↓e52_56, ↓e52_57, ↓e52_58, ↓e52_59, ↓e52_60, ↓e52_61, ↓e52_63, ↓e52_65, ↓e52_66, ↓e52_69, ↓e52_71, ↓e52_73, ↓e52_76, ↓e52_77, ↓e52_80, ↓e52_82, ↓e52_83, ↓e52_85, ↓e52_86, ↓e52_88, ↓e52_90, ↓e52_91, ↓e52_94, ↓e52_96, ↓e52_98, ↓e52_101, ↓e52_103, ↓e52_105, ↓e52_108, ↓e52_109, ↓e52_111, ↓e52_112, ↓e52_115, ↓e52_116, ↓e52_119, ↓e52_122, ↓e52_124, ↓e52_125, ↓e52_127, ↓e52_130, ↓e52_131, ↓e52_133, ↓e52_134, ↓e52_136, ↓e52_137, ↓e52_138, ↓e52_139, ↓e52_140, ↓e52_141, ↓e52_144, ↓e52_145, ↓e52_147, ↓e52_148, ↓e52_151, ↓e52_154, ↓e52_157, ↓e52_160, ↓e52_163, ↓e52_164, znl_i, znl_r, znl_n, zcs_0, zcs_1, zcs_2, zcs_3, zcat_0, zcat_1, zcat_2, zcat_3, zbl_0, zbl_1, true_and, and_true, ↓zret_some, ↓zret_none, Nat.reduceAdd, Nat.reduceLeDiff, Nat.reduceMul, eq_self, Int.reduceToNat]
      have hD : ∀ c : Nat, c < 120 → N (254 + s) c = dd w s c := fun c hc => by
        rw [z3 c hc]
        unfold dd
        rw [if_pos (dst_wall hws)]
      refine hQ N (fun x hx => ?_) hD (fun b b1 b2 b3 => z1 b b1 b3)
      rw [z2 x]
      by_cases z : x = s
      · subst z
        rw [if_pos rfl]
        exact ⟨Or.inr rfl, fun _ => hD⟩
      · rw [if_neg z]
        refine ⟨(hV x hx).1, fun hk c hc => ?_⟩
        rw [z1 (254 + x) (by omega) (by omega)]
        exact (hV x hx).2 hk c hc
    · have hws : w s ≠ 1 := fun q => hw (hHx.1.mpr q)
      rw [if_neg hw]
      have hF : FI w M (zup (zup N (254 + s) s 0) 225 0 s) s 1 0 0 := by
        refine ⟨fun j => ?_, fun b b1 b2 b3 => ?_, bf_init hs hws ?_ (fun c hc hcs => ?_) ?_, fun c hc h5 => ?_⟩
        · rw [zup_ne _ _ _ (by omega), zup_ne _ _ _ (by omega)]; exact z2 j
        · rw [zup_ne _ _ _ b2, zup_ne _ _ _ b3]; exact z1 b b1 b3
        · rw [zup_ne _ _ _ (by omega)]; simp [zup]
        · rw [zup_ne _ _ _ (by omega)]; simp [zup, hcs, z3 c hc]
        · simp [zup]
        · rw [zup_ne _ _ _ (by omega)] at h5 ⊢
          by_cases q : c = s
          · subst q; simp [zup] at h5
          · simp [zup, q, z3 c hc]
      have h9 := outer 120 0 rfl _ 1 none none none hF
      simp only [↓e52, ↓e52_0, ↓e52_1, ↓e52_4, ↓e52_5, ↓e52_6, ↓e52_7, ↓e52_8, ↓e52_11, ↓e52_12, ↓e52_13, ↓e52_16, ↓e52_17, ↓e52_18, ↓e52_19, ↓e52_22, ↓e52_23, ↓e52_24, ↓e52_25, ↓e52_26, ↓e52_28, ↓e52_31, ↓e52_32, ↓e52_35, ↓e52_38, ↓e52_39, ↓e52_40, ↓e52_42, ↓e52_45, ↓e52_46, ↓e52_47, ↓e52_48, ↓e52_49, ↓e52_50, ↓e52_51, ↓e52_52, ↓e52_55, ↓e52_56, ↓e52_57, ↓e52_58, ↓e52_59, ↓e52_60, ↓e52_61, ↓e52_65, ↓e52_66, ↓e52_69, ↓e52_71, ↓e52_73, ↓e52_76, ↓e52_77, ↓e52_80, ↓e52_82, ↓e52_83, ↓e52_85, ↓e52_86, ↓e52_88, ↓e52_90, ↓e52_91, ↓e52_94, ↓e52_96, ↓e52_98, ↓e52_101, ↓e52_103, ↓e52_105, ↓e52_108, ↓e52_109, ↓e52_111, ↓e52_112, ↓e52_115, ↓e52_116, ↓e52_119, ↓e52_122, ↓e52_124, ↓e52_125, ↓e52_127, ↓e52_130, ↓e52_131, ↓e52_133, ↓e52_134, ↓e52_136, ↓e52_137, ↓e52_138, ↓e52_139, ↓e52_140, ↓e52_141, ↓e52_144, ↓e52_145, ↓e52_147, ↓e52_148, ↓e52_151, ↓e52_154, ↓e52_157, ↓e52_160, ↓e52_163, ↓e52_164, znl_i, znl_r, znl_n, zcs_0, zcs_1, zcs_2, zcs_3, zcat_0, zcat_1, zcat_2, zcat_3, zbl_0, zbl_1, true_and, and_true, ↓zret_some, ↓zret_none, Nat.reduceAdd, Nat.reduceLeDiff, Nat.reduceMul, eq_self, Int.reduceToNat, hz, hs0, zin_225, zkc_222, Int.toNat_natCast]
      simp
      exact h9
  · have hk1 : M 224 s = 1 := by omega
    simp [hk]
    exact hQ M hV ((hV s hs).2 hk1) (fun _ _ _ _ => rfl)

theorem s_from (d : Nat) (Q : zQ) (M : zM) (w : Nat → Int) (s : Nat) (hs : s < 120) (hH : Hw M w) (hV : Wv M w)
    (hQ : ∀ M', Wv M' w → (∀ c : Nat, c < 120 → M' (254 + s) c = dd w s c) → (∀ b, b ≠ 224 → b ≠ 225 → (b < 254 ∨ 374 ≤ b) → M' b = M b) → Q (some (.inr (.inr (254 + s)))) M') : Sp (d + 2) 52 [.inr (.inr 222), .inl (s : Int)] M Q :=
  s_from2 d Q M w s hs hH hV (fun M' h1 h2 h3 => hQ M' h1 h2 (fun b b1 b2 b3 => h3 b b1 b2 (by omega)))
