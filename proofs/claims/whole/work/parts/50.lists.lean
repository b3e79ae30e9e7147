/-! ### giving places: the members that follow, the places of the slots, the open slots -/
theorem RelC_congr {M N S : zM} (h : ∀ b, b < 19 → N b = M b) (hR : RelC M 0 S) : RelC N 0 S := by
  unfold RelC at *
  obtain ⟨r1, r2, r3, r4, r5, r6, r7, r8, r9, r10, r11, r12⟩ := hR
  simp only [Nat.zero_add] at *
  refine ⟨fun c hc => ?_, fun c hc => ?_, fun c hc => ?_, fun c hc => ?_, fun c hc => ?_, fun c hc => ?_, fun c hc => ?_, fun c hc => ?_, ?_, ?_, ?_, fun j hj => ⟨?_, ?_, fun s hs => ⟨?_, ?_⟩⟩⟩
  · rw [h 1 (by omega)]; exact r1 c hc
  · rw [h 2 (by omega)]; exact r2 c hc
  · rw [h 3 (by omega)]; exact r3 c hc
  · rw [h 4 (by omega)]; exact r4 c hc
  · rw [h 5 (by omega)]; exact r5 c hc
  · rw [h 6 (by omega)]; exact r6 c hc
  · rw [h 7 (by omega)]; exact r7 c hc
  · rw [h 8 (by omega)]; exact r8 c hc
  · rw [h 0 (by omega)]; exact r9
  · rw [h 0 (by omega)]; exact r10
  · rw [h 0 (by omega)]; exact r11
  · rw [h (10 + 3 * j) (by omega)]; exact (r12 j hj).1
  · rw [h (10 + 3 * j) (by omega)]; exact (r12 j hj).2.1
  · rw [h (11 + 3 * j) (by omega)]; exact ((r12 j hj).2.2 s hs).1
  · rw [h (12 + 3 * j) (by omega)]; exact ((r12 j hj).2.2 s hs).2
def isF (S : zM) (m : Nat) : Bool := decide ((m : Int) ≠ ldr S ∧ 0 ≤ S 1 m)
/-- the members that follow, of the first k, ascending -/
def folN (S : zM) (k : Nat) : List Nat := (List.range k).filter (isF S)
def pj (S : zM) : Nat := (S 8 2).toNat
def nsl (S : zM) : Int := S (9 + pj S) 0
def anc (S : zM) : Int := S (9 + pj S) 1
/-- the place of a slot of the present shape, -1 without one -/
def plc (S : zM) (s : Nat) : Int :=
  if ldr S < 0 then -1 else
  if 0 ≤ S 1 (ldr S).toNat % 12 + (S (12 + pj S) s - S (12 + pj S) (anc S).toNat) ∧ S 1 (ldr S).toNat % 12 + (S (12 + pj S) s - S (12 + pj S) (anc S).toNat) < 12 ∧ 0 ≤ S 1 (ldr S).toNat / 12 + (S (15 + pj S) s - S (15 + pj S) (anc S).toNat) ∧ S 1 (ldr S).toNat / 12 + (S (15 + pj S) s - S (15 + pj S) (anc S).toNat) < 10 ∧ S 0 (12 * (S 1 (ldr S).toNat / 12 + (S (15 + pj S) s - S (15 + pj S) (anc S).toNat)) + (S 1 (ldr S).toNat % 12 + (S (12 + pj S) s - S (12 + pj S) (anc S).toNat))).toNat ≠ 1
  then 12 * (S 1 (ldr S).toNat / 12 + (S (15 + pj S) s - S (15 + pj S) (anc S).toNat)) + (S 1 (ldr S).toNat % 12 + (S (12 + pj S) s - S (12 + pj S) (anc S).toNat)) else -1
theorem plc_rng {S : zM} {s : Nat} (h : 0 ≤ plc S s) : plc S s < 120 ∧ S 0 (plc S s).toNat ≠ 1 ∧ 0 ≤ ldr S := by
  unfold plc at h ⊢
  split at h
  · omega
  · split at h
    · rename_i h1 h2
      rw [if_neg h1, if_pos h2]
      exact ⟨by omega, h2.2.2.2.2, by omega⟩
    · omega
theorem plc_neg {S : zM} {s : Nat} (h : ¬ 0 ≤ plc S s) : plc S s = -1 := by
  unfold plc at h ⊢
  split
  · rfl
  · rename_i h1
    rw [if_neg h1] at h
    split
    · rename_i h2
      rw [if_pos h2] at h
      omega
    · rfl
def isO (S : zM) (s : Nat) : Bool := decide ((s : Int) ≠ anc S ∧ 0 ≤ plc S s)
def opnN (S : zM) (k : Nat) : List Nat := (List.range k).filter (isO S)
theorem filt_succ (p : Nat → Bool) (k : Nat) : (List.range (k + 1)).filter p = (List.range k).filter p ++ (if p k then [k] else []) := by
  rw [List.range_succ, List.filter_append]
  congr 1
  by_cases h : p k = true
  · simp [h]
  · simp [h]
theorem ldr_rng {S : zM} (hW : WfS S) : -1 ≤ ldr S ∧ ldr S < 10 ∧ (0 ≤ ldr S → 0 ≤ S 1 (ldr S).toNat ∧ S 1 (ldr S).toNat < 120) := by
  have h1 := hW.2.1
  unfold ldr
  split
  · rename_i h
    have := h1 (S 8 0).toNat (by have := h.1; have := h.2.1; omega)
    exact ⟨by have := h.1; omega, h.2.1, fun _ => ⟨h.2.2, this.2⟩⟩
  · rcases zfst_rng (fun m => decide (0 ≤ S 1 m)) 10 0 with h | ⟨m, h, h2, h3, h4, h5⟩
    · rw [h]; exact ⟨by omega, by omega, fun q => by omega⟩
    · rw [h]
      have := h1 m (by omega)
      simp only [decide_eq_true_eq] at h4
      exact ⟨by omega, by omega, fun _ => by simpa using ⟨h4, this.2⟩⟩
theorem folN_len (S : zM) (k : Nat) : (folN S k).length ≤ k := by
  have := List.length_filter_le (isF S) (List.range k)
  rw [List.length_range] at this
  exact this
theorem opnN_len (S : zM) (k : Nat) : (opnN S k).length ≤ k := by
  have := List.length_filter_le (isO S) (List.range k)
  rw [List.length_range] at this
  exact this
def FolI (S M N : zM) (k : Nat) : Prop :=
  (∀ b, b ≠ 226 → b ≠ 230 → N b = M b) ∧ (∀ j, j ≠ 10 → N 226 j = M 226 j) ∧ N 226 10 = (folN S k).length ∧ (∀ i m : Nat, (folN S k)[i]? = some m → N 230 i = m)
theorem s_listFollowers (d : Nat) (Q : zQ) (M S : zM) (hR : RelC M 0 S) (hW : WfS S) (hQ : ∀ N, FolI S M N 10 → Q none N) : Sp (d + 3) 7 [.inr (.inr 226)] M Q := by
  obtain ⟨l1, l2, l3⟩ := ldr_rng hW
  have hlr : -2147483648 ≤ (if ldr S < 0 then -5 else ldr S) ∧ (if ldr S < 0 then -5 else ldr S) < 2147483648 := by constructor <;> split <;> omega
  have loop : ∀ n k : Nat, k + n = 10 → ∀ N : zM, FolI S M N k → RT (Sp (d + 2)) 7 Q 15 [some (.inr (.inr 226)), some (.inl (if ldr S < 0 then -5 else ldr S)), some (.inl (k : Int))] [] N := by
    intro n
    induction n with
    | zero =>
      intro k hk N hN
      obtain rfl : k = 10 := by omega
      rw [e7_15]
      simp only [↓e7, ↓e7_0, ↓e7_1, ↓e7_4, ↓e7_7, ↓e7_8, ↓e7_9, ↓e7_10, ↓e7_13, ↓e7_14, ↓e7_16, ↓e7_18, ↓e7_21, ↓e7_22, ↓e7_23, ↓e7_26, ↓e7_27, ↓e7_30, ↓e7_31, ↓e7_34, ↓e7_37, ↓e7_38, ↓e7_41, ↓e7_42, ↓e7_45, ↓e7_46, ↓e7_47, ↓e7_48, ↓e7_48i, ↓e7_49, ↓e7_52, ↓e7_53, ↓e7_54, ↓e7_57, ↓e7_60, ↓e7_63, znl_i, znl_r, znl_n, zcs_0, zcs_1, zcs_2, zcs_3, zcat_0, zcat_1, zcat_2, zcat_3, zbl_0, zbl_1, true_and, and_true, ↓zret_some, ↓zret_none, Nat.reduceAdd, Nat.reduceLeDiff, Nat.reduceMul, eq_self, Int.reduceToNat, Int.reduceLE, Int.reduceLT, Int.reduceNeg, and_self, zrg]
      simp
      exact hQ N hN
    | succ n ih =>
      intro k hk N hN
      obtain ⟨f1, f2, f3, f4⟩ := id hN
      have hz : zrg (k : Int) := ⟨by omega, by omega⟩
      have e1 : ¬ (k : Int) ≥ 10 := by omega
      have hzz : -2147483648 ≤ zb (isM S k) ∧ zb (isM S k) < 2147483648 := by unfold zb; split <;> omega
      have hRN : RelC N 0 S := RelC_congr (fun b hb => f1 b (by omega) (by omega)) hR
      have hlen := folN_len S k
      have join : ∀ N', FolI S M N' (k + 1) → RT (Sp (d + 2)) 7 Q 57 [some (.inr (.inr 226)), some (.inl (if ldr S < 0 then -5 else ldr S)), some (.inl (k : Int))] [] N' := by
        intro N' h
        have h9 := ih (k + 1) (by omega) N' h
        simp only [↓e7, ↓e7_0, ↓e7_1, ↓e7_4, ↓e7_7, ↓e7_8, ↓e7_9, ↓e7_10, ↓e7_13, ↓e7_14, ↓e7_16, ↓e7_18, ↓e7_21, ↓e7_22, ↓e7_23, ↓e7_26, ↓e7_27, ↓e7_30, ↓e7_31, ↓e7_34, ↓e7_37, ↓e7_38, ↓e7_41, ↓e7_42, ↓e7_45, ↓e7_46, ↓e7_47, ↓e7_48, ↓e7_48i, ↓e7_49, ↓e7_52, ↓e7_53, ↓e7_54, ↓e7_57, ↓e7_60, ↓e7_63, znl_i, znl_r, znl_n, zcs_0, zcs_1, zcs_2, zcs_3, zcat_0, zcat_1, zcat_2, zcat_3, zbl_0, zbl_1, true_and, and_true, ↓zret_some, ↓zret_none, Nat.reduceAdd, Nat.reduceLeDiff, Nat.reduceMul, eq_self, Int.reduceToNat]
        exact h9
      have hno : isF S k = false → FolI S M N (k + 1) := fun q => by
        refine ⟨f1, f2, ?_, ?_⟩
        · unfold folN; rw [filt_succ, q]; simpa [folN] using f3
        · unfold folN; rw [filt_succ, q]; simpa [folN] using f4
      rw [e7_15]
      simp only [↓e7, ↓e7_0, ↓e7_1, ↓e7_4, ↓e7_7, ↓e7_8, ↓e7_9, ↓e7_10, ↓e7_13, ↓e7_14, ↓e7_16, ↓e7_18, ↓e7_21, ↓e7_22, ↓e7_23, ↓e7_26, ↓e7_27, ↓e7_30, ↓e7_31, ↓e7_34, ↓e7_37, ↓e7_38, ↓e7_41, ↓e7_42, ↓e7_45, ↓e7_46, ↓e7_47, ↓e7_48, ↓e7_48i, ↓e7_49, ↓e7_52, ↓e7_53, ↓e7_54, ↓e7_60, ↓e7_63, znl_i, znl_r, znl_n, zcs_0, zcs_1, zcs_2, zcs_3, zcat_0, zcat_1, zcat_2, zcat_3, zbl_0, zbl_1, true_and, and_true, ↓zret_some, ↓zret_none, Nat.reduceAdd, Nat.reduceLeDiff, Nat.reduceMul, eq_self, Int.reduceToNat, Int.reduceLE, Int.reduceLT, Int.reduceNeg, and_self, zrg, zkc_0, zin_1, zin_2, zin_3, zin_4, zin_5, zin_6, zin_7, zin_8, zin_9, zaa_9, zkc_10, zin_11, zin_12, zkc_13, zin_14, zin_15, zkc_16, zin_17, zin_18, zkc_19, zin_20, zin_21, zin_22, zin_23, zin_24, zin_25, zin_26, zin_27, zin_28, zaa_28, zkc_29, zin_30, zin_31, zkc_32, zin_33, zin_34, zkc_35, zin_36, zin_37, zkc_38, zin_39, zin_40, zin_41, zin_42, zin_43, zin_44, zin_45, zin_46, zin_47, zaa_47, zkc_48, zin_49, zin_50, zkc_51, zin_52, zin_53, zkc_54, zin_55, zin_56, zkc_209, zkc_210, zin_211, zaa_211, zkc_212, zin_213, zkc_214, zkc_215, zin_216, zin_217, zkc_218, zin_219, zin_220, zin_221, zkc_222, zin_223, zaa_223, zin_224, zin_225, zkc_226, zin_227, zin_228, zin_229, zin_230, zin_231, zin_232, zkc_233, zin_234, zaa_234, zin_235, zin_236, zin_237, zin_238, zin_239, zin_240, zin_241, zin_242, zin_243, zin_244, zin_245, zin_246, zin_247, zin_248, zin_249, zin_250, zkc_251, zin_252, zin_253, zkc_374, zin_375, zin_376, zin_377, zin_378, zin_379, zin_380, zin_381, zin_382, zin_383, zin_384, zin_385, zin_386, zin_387, hz.1, hz.2, e1, hlr, ↓reduceIte, ↓s_hasMember (d + 1) _ N S 0 k zkc_0 hRN hW hz, hzz]
      by_cases h1 : (k : Int) = (if ldr S < 0 then -5 else ldr S)
      · rw [if_pos h1]
        refine join N (hno ?_)
        have : (k : Int) = ldr S := by split at h1 <;> omega
        simp [isF, this]
      · rw [if_neg h1]
        have h1' : (k : Int) ≠ ldr S := fun q => h1 (by rw [← q]; rw [if_neg (by omega)])
        by_cases h2 : isM S k
        · have h3 : isF S k = true := by
            have := h2.2.2
            simp only [Int.toNat_natCast] at this
            simp [isF, h1', this]
          have hl0 : 0 ≤ N 226 10 ∧ N 226 10 < 10 := by rw [f3]; omega
          have hy : FolI S M (zup (zup N 230 (N 226 10).toNat k) 226 10 (N 226 10 + 1)) (k + 1) := by
            have e5 : folN S (k + 1) = folN S k ++ [k] := by unfold folN; rw [filt_succ, h3]; rfl
            refine ⟨fun b b1 b2 => by rw [zup_ne _ _ _ b1, zup_ne _ _ _ b2]; exact f1 b b1 b2, fun j hj => ?_, ?_, fun i m him => ?_⟩
            · simp [zup, hj, f2 j hj]
            · rw [e5]; simp [zup, f3]
            · rw [e5] at him
              have e6 : (N 226 10).toNat = (folN S k).length := by rw [f3]; simp
              rw [zup_ne _ _ _ (by omega)]
              by_cases z : i < (folN S k).length
              · rw [List.getElem?_append_left z] at him
                have : ¬ i = (N 226 10).toNat := by omega
                simp only [zup, this, and_false, if_false]
                exact f4 i m him
              · rw [List.getElem?_append_right (by omega)] at him
                have e7 : i - (folN S k).length < 1 := (List.getElem?_eq_some_iff.mp him).1
                have e8 : i - (folN S k).length = 0 := by omega
                rw [e8] at him
                have e9 : k = m := by simpa using him
                have : i = (N 226 10).toNat := by omega
                subst this
                subst e9
                simp [zup]
          have h9 := join _ hy
          have e10 : ∀ v : Int, zup N 230 (N 226 10).toNat v 226 = N 226 := fun v => zup_ne _ _ _ (by omega)
          rw [show zb (isM S k) = 1 from if_pos h2]
          simp [hl0, e10]
          exact h9
        · rw [show zb (isM S k) = 0 from if_neg h2]
          have h9 := join N (hno (by
            have : ¬ 0 ≤ S 1 k := fun q => h2 ⟨by omega, by omega, by simpa using q⟩
            simp [isF, this]))
          simp
          exact h9
  have h0 := loop 10 0 rfl (zup M 226 10 0) ⟨fun b b1 b2 => zup_ne _ _ _ b1, fun j hj => by simp [zup, hj], by simp [zup, folN], fun i m h => by simp [folN] at h⟩
  simp only [↓e7, ↓e7_0, ↓e7_1, ↓e7_4, ↓e7_7, ↓e7_8, ↓e7_9, ↓e7_10, ↓e7_13, ↓e7_14, ↓e7_16, ↓e7_18, ↓e7_21, ↓e7_22, ↓e7_23, ↓e7_26, ↓e7_27, ↓e7_30, ↓e7_31, ↓e7_34, ↓e7_37, ↓e7_38, ↓e7_41, ↓e7_42, ↓e7_45, ↓e7_46, ↓e7_47, ↓e7_48, ↓e7_48i, ↓e7_49, ↓e7_52, ↓e7_53, ↓e7_54, ↓e7_57, ↓e7_60, ↓e7_63, znl_i, znl_r, znl_n, zcs_0, zcs_1, zcs_2, zcs_3, zcat_0, zcat_1, zcat_2, zcat_3, zbl_0, zbl_1, true_and, and_true, ↓zret_some, ↓zret_none, Nat.reduceAdd, Nat.reduceLeDiff, Nat.reduceMul, eq_self, Int.reduceToNat, zkc_0, zin_1, zin_2, zin_3, zin_4, zin_5, zin_6, zin_7, zin_8, zin_9, zaa_9, zkc_10, zin_11, zin_12, zkc_13, zin_14, zin_15, zkc_16, zin_17, zin_18, zkc_19, zin_20, zin_21, zin_22, zin_23, zin_24, zin_25, zin_26, zin_27, zin_28, zaa_28, zkc_29, zin_30, zin_31, zkc_32, zin_33, zin_34, zkc_35, zin_36, zin_37, zkc_38, zin_39, zin_40, zin_41, zin_42, zin_43, zin_44, zin_45, zin_46, zin_47, zaa_47, zkc_48, zin_49, zin_50, zkc_51, zin_52, zin_53, zkc_54, zin_55, zin_56, zkc_209, zkc_210, zin_211, zaa_211, zkc_212, zin_213, zkc_214, zkc_215, zin_216, zin_217, zkc_218, zin_219, zin_220, zin_221, zkc_222, zin_223, zaa_223, zin_224, zin_225, zkc_226, zin_227, zin_228, zin_229, zin_230, zin_231, zin_232, zkc_233, zin_234, zaa_234, zin_235, zin_236, zin_237, zin_238, zin_239, zin_240, zin_241, zin_242, zin_243, zin_244, zin_245, zin_246, zin_247, zin_248, zin_249, zin_250, zkc_251, zin_252, zin_253, zkc_374, zin_375, zin_376, zin_377, zin_378, zin_379, zin_380, zin_381, zin_382, zin_383, zin_384, zin_385, zin_386, zin_387, ↓s_leader d _ M S 0 zkc_0 hR hW]
  exact h0
