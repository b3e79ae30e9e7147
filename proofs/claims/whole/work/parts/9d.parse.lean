/-! ### commands' texts: what both readers do -/
abbrev dgt (t : Nat → Int) (n p : Nat) : Prop := p < n ∧ 48 ≤ t p ∧ t p ≤ 57
abbrev isc (t : Nat → Int) (n p : Nat) (c : Int) : Prop := p < n ∧ t p = c
def nv (t : Nat → Int) (n p : Nat) : Int := if dgt t n p then (if dgt t n (p + 1) then 10 * (t p - 48) + t (p + 1) - 48 else t p - 48) else -5
def np (t : Nat → Int) (n p : Nat) : Nat := if dgt t n p then (if dgt t n (p + 1) then p + 2 else p + 1) else p
abbrev prl (c : Int) : Prop := c = 97 ∨ c = 111 ∨ c = 116
abbrev ltr (c : Int) : Prop := prl c ∨ c = 108 ∨ c = 120 ∨ c = 103
def csn (t : Nat → Int) (n p : Nat) : Int := if prl (t p) ∧ 0 ≤ nv t n (p + 1) then (if isc t n (np t n (p + 1)) 44 then nv t n (np t n (p + 1) + 1) else -5) else 0
def cen (t : Nat → Int) (n p : Nat) : Nat := if ¬ (p < n ∧ ltr (t p)) then p else if prl (t p) ∧ 0 ≤ nv t n (p + 1) then (if isc t n (np t n (p + 1)) 44 then np t n (np t n (p + 1) + 1) else np t n (p + 1)) else np t n (p + 1)
abbrev cok (t : Nat → Int) (n p : Nat) : Prop := (p < n ∧ ltr (t p)) ∧ 0 ≤ nv t n (p + 1) ∧ 0 ≤ csn t n p
def pst (t : Nat → Int) (n : Nat) : Nat → Nat
  | 0 => 0
  | m + 1 => cen t n (pst t n m) + 1
def per (t : Nat → Int) (n : Nat) : Nat → Nat → Int
  | 0, _ => -1
  | f + 1, m => if cok t n (pst t n m) then (if cen t n (pst t n m) = n then -1 else if isc t n (cen t n (pst t n m)) 59 then per t n f (m + 1) else ((cen t n (pst t n m) : Nat) : Int)) else ((cen t n (pst t n m) : Nat) : Int)
def pct (t : Nat → Int) (n : Nat) : Nat → Nat → Nat
  | 0, _ => 0
  | f + 1, m => if cok t n (pst t n m) then (if cen t n (pst t n m) = n then m + 1 else if isc t n (cen t n (pst t n m)) 59 then pct t n f (m + 1) else 0) else 0
theorem per_s (t : Nat → Int) (n f m : Nat) : per t n (f + 1) m = if cok t n (pst t n m) then (if cen t n (pst t n m) = n then -1 else if isc t n (cen t n (pst t n m)) 59 then per t n f (m + 1) else ((cen t n (pst t n m) : Nat) : Int)) else ((cen t n (pst t n m) : Nat) : Int) := rfl
theorem pct_s (t : Nat → Int) (n f m : Nat) : pct t n (f + 1) m = if cok t n (pst t n m) then (if cen t n (pst t n m) = n then m + 1 else if isc t n (cen t n (pst t n m)) 59 then pct t n f (m + 1) else 0) else 0 := rfl
theorem np_le {t : Nat → Int} {n p : Nat} (h : p ≤ n) : p ≤ np t n p ∧ np t n p ≤ n ∧ np t n p ≤ p + 2 := by
  unfold np
  split
  · rename_i h1
    split
    · rename_i h2
      have := h2.1; omega
    · have := h1.1; omega
  · omega
theorem np_pos {t : Nat → Int} {n p : Nat} (h : 0 ≤ nv t n p) : p < np t n p ∧ p < n := by
  unfold nv at h
  unfold np
  split at h
  · rename_i h1
    rw [if_pos h1]
    refine ⟨?_, h1.1⟩
    split <;> omega
  · omega
theorem nv_rng {t : Nat → Int} {n p : Nat} : -5 ≤ nv t n p ∧ nv t n p ≤ 99 := by
  unfold nv
  split
  · rename_i h1
    have a1 := h1.2.1
    have a2 := h1.2.2
    split
    · rename_i h2
      have b1 := h2.2.1
      have b2 := h2.2.2
      omega
    · omega
  · omega
theorem csn_rng {t : Nat → Int} {n p : Nat} : -5 ≤ csn t n p ∧ csn t n p ≤ 99 := by
  unfold csn
  have := nv_rng (t := t) (n := n) (p := np t n (p + 1) + 1)
  split
  · split
    · exact this
    · omega
  · omega
theorem cen_le {t : Nat → Int} {n p : Nat} (h : p ≤ n) : p ≤ cen t n p ∧ cen t n p ≤ n := by
  unfold cen
  split
  · omega
  · rename_i h1
    have h1 := Classical.not_not.mp h1
    have h2 := np_le (t := t) (n := n) (p := p + 1) (by omega)
    split
    · split
      · rename_i h4
        have h3 := np_le (t := t) (n := n) (p := np t n (p + 1) + 1) (by have := h4.1; omega)
        omega
      · omega
    · omega
theorem cen_ok {t : Nat → Int} {n p : Nat} (h : cok t n p) : p + 2 ≤ cen t n p := by
  obtain ⟨h1, h2, h3⟩ := h
  have h4 := np_pos h2
  unfold cen
  rw [if_neg (fun z => z h1)]
  split
  · split
    · rename_i h6
      have h5 := np_le (t := t) (n := n) (p := np t n (p + 1) + 1) (by have := h6.1; omega)
      omega
    · omega
  · omega
def Tq (M : zM) (t : Nat → Int) (n : Nat) : Prop := M 212 0 = n ∧ ∀ j, j < n → M 213 j = t j
theorem zup_id (M : zM) (a k : Nat) : zup M a k (M a k) = M := by
  funext b j
  by_cases z : b = a ∧ j = k
  · obtain ⟨rfl, rfl⟩ := z; exact zup_at _ _ _ _
  · exact zup_off _ _ (by omega)
theorem s_isDigit (d : Nat) (Q : zQ) (M : zM) (c : Int) (hc : zrg c) : Sp (d + 1) 4 [.inl c] M Q = Q (some (.inl (zb (48 ≤ c ∧ c ≤ 57)))) M := by
  simp only [↓e4, ↓e4_0, ↓e4_1, ↓e4_3, ↓e4_6, ↓e4_7, ↓e4_9, ↓e4_12, ↓e4_13, ↓e4_16, ↓e4_17, zbl_0, zbl_1, true_and, zrg, zb] at hc ⊢
  grind
theorem s_catn (d : Nat) (Q : zQ) (M : zM) (t : Nat → Int) (n p : Nat) (hn : n ≤ 60) (hp : p ≤ 70) (hT : Tq M t n) : Sp (d + 1) 38 [.inr (.inr 212), .inl (p : Int)] M Q = Q (some (.inl (if p < n then t p else -5))) M := by
  rw [s_tat d Q M p n hn (by omega) hT.1]
  by_cases z : p < n
  · rw [if_pos z, if_pos z, hT.2 p z]
  · rw [if_neg z, if_neg z]
theorem Tq_up {M : zM} {t : Nat → Int} {n : Nat} (hT : Tq M t n) {b k : Nat} {v : Int} (h : b ≠ 212 ∧ b ≠ 213) : Tq (zup M b k v) t n := ⟨by rw [zup_ne _ _ _ (Ne.symm h.1)]; exact hT.1, fun j hj => by rw [zup_ne _ _ _ (Ne.symm h.2)]; exact hT.2 j hj⟩
theorem s_readNumber (d : Nat) (Q : zQ) (M : zM) (t : Nat → Int) (n p : Nat) (hn : n ≤ 60) (hp : p ≤ 65) (htr : ∀ j, j < n → 0 ≤ t j ∧ t j ≤ 127) (hT : Tq M t n) (hat : M 218 4 = (p : Int)) :
    Sp (d + 2) 3 [.inr (.inr 218), .inr (.inr 212)] M Q = Q (some (.inl (nv t n p))) (zup M 218 4 ((np t n p : Nat) : Int)) := by
  have hc1 := fun Q => s_catn d Q M t n p hn (by omega) hT
  have ee1 : (p : Int) + 1 = ((p + 1 : Nat) : Int) := by omega
  have hT2 : Tq (zup M 218 4 ((p + 1 : Nat) : Int)) t n := Tq_up hT (by omega)
  have hc2 := fun Q => s_catn d Q (zup M 218 4 ((p + 1 : Nat) : Int)) t n (p + 1) hn (by omega) hT2
  have ha2 : zup M 218 4 ((p + 1 : Nat) : Int) 218 4 = ((p + 1 : Nat) : Int) := zup_at _ _ _ _
  by_cases z1 : dgt t n p
  · have hr1 : zrg (t p) := by have := htr p z1.1; exact ⟨by omega, by omega⟩
    simp only [if_pos z1.1] at hc1
    have hd1 := fun Q => s_isDigit d Q M (t p) hr1
    simp only [show zb (48 ≤ t p ∧ t p ≤ 57) = 1 from if_pos z1.2] at hd1
    by_cases z2 : dgt t n (p + 1)
    · have hr2 : zrg (t (p + 1)) := by have := htr (p + 1) z2.1; exact ⟨by omega, by omega⟩
      simp only [if_pos z2.1] at hc2
      have hd2 := fun Q => s_isDigit d Q (zup M 218 4 ((p + 1 : Nat) : Int)) (t (p + 1)) hr2
      simp only [show zb (48 ≤ t (p + 1) ∧ t (p + 1) ≤ 57) = 1 from if_pos z2.2] at hd2
      have ee2 : ((p + 1 : Nat) : Int) + 1 = ((p + 2 : Nat) : Int) := by omega
      have ee3 : zup (zup M 218 4 ((p + 1 : Nat) : Int)) 218 4 ((p + 2 : Nat) : Int) = zup M 218 4 ((p + 2 : Nat) : Int) := by
        funext b j
        by_cases z : b = 218 ∧ j = 4
        · obtain ⟨rfl, rfl⟩ := z; rw [zup_at, zup_at]
        · rw [zup_off _ _ (by omega), zup_off _ _ (by omega), zup_off _ _ (by omega)]
      simp only [↓e3, ↓e3_0, ↓e3_1, ↓e3_2, ↓e3_5, ↓e3_8, ↓e3_11, ↓e3_14, ↓e3_16, ↓e3_17, ↓e3_18, ↓e3_19, ↓e3_22, ↓e3_25, ↓e3_27, ↓e3_28, ↓e3_29, ↓e3_30, ↓e3_30i, ↓e3_31, ↓e3_34, ↓e3_35, ↓e3_36, ↓e3_39, ↓e3_40, ↓e3_41, ↓e3_44, ↓e3_47, ↓e3_50, ↓e3_53, ↓e3_55, ↓e3_56, ↓e3_57, ↓e3_58, ↓e3_59, ↓e3_62, ↓e3_65, ↓e3_66, ↓e3_68, ↓e3_69, ↓e3_70, ↓e3_71, ↓e3_71i, ↓e3_72, ↓e3_75, ↓e3_76, ↓e3_77, ↓e3_80, ↓e3_81, znl_i, znl_r, znl_n, zcs_0, zcs_1, zcs_2, zcs_3, zcat_0, zcat_1, zcat_2, zcat_3, zbl_0, zbl_1, true_and, and_true, ↓zret_some, ↓zret_none, Nat.reduceAdd, Nat.reduceLeDiff, Nat.reduceMul, eq_self, Int.reduceToNat, Int.reduceLE, Int.reduceLT, Int.reduceNeg, and_self, zrg, zkc_0, zin_1, zin_2, zin_3, zin_4, zin_5, zin_6, zin_7, zin_8, zin_9, zaa_9, zkc_10, zin_11, zin_12, zkc_13, zin_14, zin_15, zkc_16, zin_17, zin_18, zkc_19, zin_20, zin_21, zin_22, zin_23, zin_24, zin_25, zin_26, zin_27, zin_28, zaa_28, zkc_29, zin_30, zin_31, zkc_32, zin_33, zin_34, zkc_35, zin_36, zin_37, zkc_38, zin_39, zin_40, zin_41, zin_42, zin_43, zin_44, zin_45, zin_46, zin_47, zaa_47, zkc_48, zin_49, zin_50, zkc_51, zin_52, zin_53, zkc_54, zin_55, zin_56, zkc_209, zkc_210, zin_211, zaa_211, zkc_212, zin_213, zkc_214, zkc_215, zin_216, zin_217, zkc_218, zin_219, zin_220, zin_221, zkc_222, zin_223, zaa_223, zin_224, zin_225, zkc_226, zin_227, zin_228, zin_229, zin_230, zin_231, zin_232, zkc_233, zin_234, zaa_234, zin_235, zin_236, zin_237, zin_238, zin_239, zin_240, zin_241, zin_242, zin_243, zin_244, zin_245, zin_246, zin_247, zin_248, zin_249, zin_250, zkc_251, zin_252, zin_253, zkc_374, zin_375, zin_376, zin_377, zin_378, zin_379, zin_380, zin_381, zin_382, zin_383, zin_384, zin_385, zin_386, zin_387, hat, ↓hc1, ↓hd1, show ¬ (1 : Int) = 0 by omega, ne_eq, not_false_eq_true, ↓reduceIte, ee1, ha2, ↓hc2, ↓hd2, ee2, ee3]
      unfold nv np
      rw [if_pos z1, if_pos z2, if_pos z1, if_pos z2]
    · have ee4 : nv t n p = t p - 48 := by unfold nv; rw [if_pos z1, if_neg z2]
      have ee5 : np t n p = p + 1 := by unfold np; rw [if_pos z1, if_neg z2]
      rw [ee4, ee5]
      by_cases z3 : p + 1 < n
      · have hr2 : zrg (t (p + 1)) := by have := htr (p + 1) z3; exact ⟨by omega, by omega⟩
        simp only [if_pos z3] at hc2
        have hd2 := fun Q => s_isDigit d Q (zup M 218 4 ((p + 1 : Nat) : Int)) (t (p + 1)) hr2
        simp only [show zb (48 ≤ t (p + 1) ∧ t (p + 1) ≤ 57) = 0 from if_neg (fun z => z2 ⟨z3, z⟩)] at hd2
        simp only [↓e3, ↓e3_0, ↓e3_1, ↓e3_2, ↓e3_5, ↓e3_8, ↓e3_11, ↓e3_14, ↓e3_16, ↓e3_17, ↓e3_18, ↓e3_19, ↓e3_22, ↓e3_25, ↓e3_27, ↓e3_28, ↓e3_29, ↓e3_30, ↓e3_30i, ↓e3_31, ↓e3_34, ↓e3_35, ↓e3_36, ↓e3_39, ↓e3_40, ↓e3_41, ↓e3_44, ↓e3_47, ↓e3_50, ↓e3_53, ↓e3_55, ↓e3_56, ↓e3_57, ↓e3_58, ↓e3_59, ↓e3_62, ↓e3_65, ↓e3_66, ↓e3_68, ↓e3_69, ↓e3_70, ↓e3_71, ↓e3_71i, ↓e3_72, ↓e3_75, ↓e3_76, ↓e3_77, ↓e3_80, ↓e3_81, znl_i, znl_r, znl_n, zcs_0, zcs_1, zcs_2, zcs_3, zcat_0, zcat_1, zcat_2, zcat_3, zbl_0, zbl_1, true_and, and_true, ↓zret_some, ↓zret_none, Nat.reduceAdd, Nat.reduceLeDiff, Nat.reduceMul, eq_self, Int.reduceToNat, Int.reduceLE, Int.reduceLT, Int.reduceNeg, and_self, zrg, zkc_0, zin_1, zin_2, zin_3, zin_4, zin_5, zin_6, zin_7, zin_8, zin_9, zaa_9, zkc_10, zin_11, zin_12, zkc_13, zin_14, zin_15, zkc_16, zin_17, zin_18, zkc_19, zin_20, zin_21, zin_22, zin_23, zin_24, zin_25, zin_26, zin_27, zin_28, zaa_28, zkc_29, zin_30, zin_31, zkc_32, zin_33, zin_34, zkc_35, zin_36, zin_37, zkc_38, zin_39, zin_40, zin_41, zin_42, zin_43, zin_44, zin_45, zin_46, zin_47, zaa_47, zkc_48, zin_49, zin_50, zkc_51, zin_52, zin_53, zkc_54, zin_55, zin_56, zkc_209, zkc_210, zin_211, zaa_211, zkc_212, zin_213, zkc_214, zkc_215, zin_216, zin_217, zkc_218, zin_219, zin_220, zin_221, zkc_222, zin_223, zaa_223, zin_224, zin_225, zkc_226, zin_227, zin_228, zin_229, zin_230, zin_231, zin_232, zkc_233, zin_234, zaa_234, zin_235, zin_236, zin_237, zin_238, zin_239, zin_240, zin_241, zin_242, zin_243, zin_244, zin_245, zin_246, zin_247, zin_248, zin_249, zin_250, zkc_251, zin_252, zin_253, zkc_374, zin_375, zin_376, zin_377, zin_378, zin_379, zin_380, zin_381, zin_382, zin_383, zin_384, zin_385, zin_386, zin_387, hat, ↓hc1, ↓hd1, show ¬ (1 : Int) = 0 by omega, ne_eq, not_false_eq_true, ↓reduceIte, ee1, ha2, ↓hc2, ↓hd2]
      · simp only [if_neg z3] at hc2
        have hd2 := fun Q => s_isDigit d Q (zup M 218 4 ((p + 1 : Nat) : Int)) (-5) ⟨by omega, by omega⟩
        simp only [show zb (48 ≤ (-5 : Int) ∧ (-5 : Int) ≤ 57) = 0 from if_neg (fun z => by omega)] at hd2
        simp only [↓e3, ↓e3_0, ↓e3_1, ↓e3_2, ↓e3_5, ↓e3_8, ↓e3_11, ↓e3_14, ↓e3_16, ↓e3_17, ↓e3_18, ↓e3_19, ↓e3_22, ↓e3_25, ↓e3_27, ↓e3_28, ↓e3_29, ↓e3_30, ↓e3_30i, ↓e3_31, ↓e3_34, ↓e3_35, ↓e3_36, ↓e3_39, ↓e3_40, ↓e3_41, ↓e3_44, ↓e3_47, ↓e3_50, ↓e3_53, ↓e3_55, ↓e3_56, ↓e3_57, ↓e3_58, ↓e3_59, ↓e3_62, ↓e3_65, ↓e3_66, ↓e3_68, ↓e3_69, ↓e3_70, ↓e3_71, ↓e3_71i, ↓e3_72, ↓e3_75, ↓e3_76, ↓e3_77, ↓e3_80, ↓e3_81, znl_i, znl_r, znl_n, zcs_0, zcs_1, zcs_2, zcs_3, zcat_0, zcat_1, zcat_2, zcat_3, zbl_0, zbl_1, true_and, and_true, ↓zret_some, ↓zret_none, Nat.reduceAdd, Nat.reduceLeDiff, Nat.reduceMul, eq_self, Int.reduceToNat, Int.reduceLE, Int.reduceLT, Int.reduceNeg, and_self, zrg, zkc_0, zin_1, zin_2, zin_3, zin_4, zin_5, zin_6, zin_7, zin_8, zin_9, zaa_9, zkc_10, zin_11, zin_12, zkc_13, zin_14, zin_15, zkc_16, zin_17, zin_18, zkc_19, zin_20, zin_21, zin_22, zin_23, zin_24, zin_25, zin_26, zin_27, zin_28, zaa_28, zkc_29, zin_30, zin_31, zkc_32, zin_33, zin_34, zkc_35, zin_36, zin_37, zkc_38, zin_39, zin_40, zin_41, zin_42, zin_43, zin_44, zin_45, zin_46, zin_47, zaa_47, zkc_48, zin_49, zin_50, zkc_51, zin_52, zin_53, zkc_54, zin_55, zin_56, zkc_209, zkc_210, zin_211, zaa_211, zkc_212, zin_213, zkc_214, zkc_215, zin_216, zin_217, zkc_218, zin_219, zin_220, zin_221, zkc_222, zin_223, zaa_223, zin_224, zin_225, zkc_226, zin_227, zin_228, zin_229, zin_230, zin_231, zin_232, zkc_233, zin_234, zaa_234, zin_235, zin_236, zin_237, zin_238, zin_239, zin_240, zin_241, zin_242, zin_243, zin_244, zin_245, zin_246, zin_247, zin_248, zin_249, zin_250, zkc_251, zin_252, zin_253, zkc_374, zin_375, zin_376, zin_377, zin_378, zin_379, zin_380, zin_381, zin_382, zin_383, zin_384, zin_385, zin_386, zin_387, hat, ↓hc1, ↓hd1, show ¬ (1 : Int) = 0 by omega, ne_eq, not_false_eq_true, ↓reduceIte, ee1, ha2, ↓hc2, ↓hd2]
  · have ee4 : nv t n p = -5 := by unfold nv; rw [if_neg z1]
    have ee5 : np t n p = p := by unfold np; rw [if_neg z1]
    have ee6 : zup M 218 4 ((p : Nat) : Int) = M := by rw [← hat]; exact zup_id M 218 4
    rw [ee4, ee5, ee6]
    by_cases z3 : p < n
    · have hr2 : zrg (t p) := by have := htr p z3; exact ⟨by omega, by omega⟩
      simp only [if_pos z3] at hc1
      have hd2 := fun Q => s_isDigit d Q M (t p) hr2
      simp only [show zb (48 ≤ t p ∧ t p ≤ 57) = 0 from if_neg (fun z => z1 ⟨z3, z⟩)] at hd2
      simp only [↓e3, ↓e3_0, ↓e3_1, ↓e3_2, ↓e3_5, ↓e3_8, ↓e3_11, ↓e3_14, ↓e3_16, ↓e3_17, ↓e3_18, ↓e3_19, ↓e3_22, ↓e3_25, ↓e3_27, ↓e3_28, ↓e3_29, ↓e3_30, ↓e3_30i, ↓e3_31, ↓e3_34, ↓e3_35, ↓e3_36, ↓e3_39, ↓e3_40, ↓e3_41, ↓e3_44, ↓e3_47, ↓e3_50, ↓e3_53, ↓e3_55, ↓e3_56, ↓e3_57, ↓e3_58, ↓e3_59, ↓e3_62, ↓e3_65, ↓e3_66, ↓e3_68, ↓e3_69, ↓e3_70, ↓e3_71, ↓e3_71i, ↓e3_72, ↓e3_75, ↓e3_76, ↓e3_77, ↓e3_80, ↓e3_81, znl_i, znl_r, znl_n, zcs_0, zcs_1, zcs_2, zcs_3, zcat_0, zcat_1, zcat_2, zcat_3, zbl_0, zbl_1, true_and, and_true, ↓zret_some, ↓zret_none, Nat.reduceAdd, Nat.reduceLeDiff, Nat.reduceMul, eq_self, Int.reduceToNat, Int.reduceLE, Int.reduceLT, Int.reduceNeg, and_self, zrg, zkc_0, zin_1, zin_2, zin_3, zin_4, zin_5, zin_6, zin_7, zin_8, zin_9, zaa_9, zkc_10, zin_11, zin_12, zkc_13, zin_14, zin_15, zkc_16, zin_17, zin_18, zkc_19, zin_20, zin_21, zin_22, zin_23, zin_24, zin_25, zin_26, zin_27, zin_28, zaa_28, zkc_29, zin_30, zin_31, zkc_32, zin_33, zin_34, zkc_35, zin_36, zin_37, zkc_38, zin_39, zin_40, zin_41, zin_42, zin_43, zin_44, zin_45, zin_46, zin_47, zaa_47, zkc_48, zin_49, zin_50, zkc_51, zin_52, zin_53, zkc_54, zin_55, zin_56, zkc_209, zkc_210, zin_211, zaa_211, zkc_212, zin_213, zkc_214, zkc_215, zin_216, zin_217, zkc_218, zin_219, zin_220, zin_221, zkc_222, zin_223, zaa_223, zin_224, zin_225, zkc_226, zin_227, zin_228, zin_229, zin_230, zin_231, zin_232, zkc_233, zin_234, zaa_234, zin_235, zin_236, zin_237, zin_238, zin_239, zin_240, zin_241, zin_242, zin_243, zin_244, zin_245, zin_246, zin_247, zin_248, zin_249, zin_250, zkc_251, zin_252, zin_253, zkc_374, zin_375, zin_376, zin_377, zin_378, zin_379, zin_380, zin_381, zin_382, zin_383, zin_384, zin_385, zin_386, zin_387, hat, ↓hc1, ↓hd2, ne_eq, not_true_eq_false, ↓reduceIte]
    · simp only [if_neg z3] at hc1
      have hd2 := fun Q => s_isDigit d Q M (-5) ⟨by omega, by omega⟩
      simp only [show zb (48 ≤ (-5 : Int) ∧ (-5 : Int) ≤ 57) = 0 from if_neg (fun z => by omega)] at hd2
      simp only [↓e3, ↓e3_0, ↓e3_1, ↓e3_2, ↓e3_5, ↓e3_8, ↓e3_11, ↓e3_14, ↓e3_16, ↓e3_17, ↓e3_18, ↓e3_19, ↓e3_22, ↓e3_25, ↓e3_27, ↓e3_28, ↓e3_29, ↓e3_30, ↓e3_30i, ↓e3_31, ↓e3_34, ↓e3_35, ↓e3_36, ↓e3_39, ↓e3_40, ↓e3_41, ↓e3_44, ↓e3_47, ↓e3_50, ↓e3_53, ↓e3_55, ↓e3_56, ↓e3_57, ↓e3_58, ↓e3_59, ↓e3_62, ↓e3_65, ↓e3_66, ↓e3_68, ↓e3_69, ↓e3_70, ↓e3_71, ↓e3_71i, ↓e3_72, ↓e3_75, ↓e3_76, ↓e3_77, ↓e3_80, ↓e3_81, znl_i, znl_r, znl_n, zcs_0, zcs_1, zcs_2, zcs_3, zcat_0, zcat_1, zcat_2, zcat_3, zbl_0, zbl_1, true_and, and_true, ↓zret_some, ↓zret_none, Nat.reduceAdd, Nat.reduceLeDiff, Nat.reduceMul, eq_self, Int.reduceToNat, Int.reduceLE, Int.reduceLT, Int.reduceNeg, and_self, zrg, zkc_0, zin_1, zin_2, zin_3, zin_4, zin_5, zin_6, zin_7, zin_8, zin_9, zaa_9, zkc_10, zin_11, zin_12, zkc_13, zin_14, zin_15, zkc_16, zin_17, zin_18, zkc_19, zin_20, zin_21, zin_22, zin_23, zin_24, zin_25, zin_26, zin_27, zin_28, zaa_28, zkc_29, zin_30, zin_31, zkc_32, zin_33, zin_34, zkc_35, zin_36, zin_37, zkc_38, zin_39, zin_40, zin_41, zin_42, zin_43, zin_44, zin_45, zin_46, zin_47, zaa_47, zkc_48, zin_49, zin_50, zkc_51, zin_52, zin_53, zkc_54, zin_55, zin_56, zkc_209, zkc_210, zin_211, zaa_211, zkc_212, zin_213, zkc_214, zkc_215, zin_216, zin_217, zkc_218, zin_219, zin_220, zin_221, zkc_222, zin_223, zaa_223, zin_224, zin_225, zkc_226, zin_227, zin_228, zin_229, zin_230, zin_231, zin_232, zkc_233, zin_234, zaa_234, zin_235, zin_236, zin_237, zin_238, zin_239, zin_240, zin_241, zin_242, zin_243, zin_244, zin_245, zin_246, zin_247, zin_248, zin_249, zin_250, zkc_251, zin_252, zin_253, zkc_374, zin_375, zin_376, zin_377, zin_378, zin_379, zin_380, zin_381, zin_382, zin_383, zin_384, zin_385, zin_386, zin_387, hat, ↓hc1, ↓hd2, ne_eq, not_true_eq_false, ↓reduceIte]
theorem s_readSign (d : Nat) (Q : zQ) (M : zM) (t : Nat → Int) (n p : Nat) (c : Int) (hc : 0 ≤ c ∧ c ≤ 127) (hn : n ≤ 60) (hp : p ≤ 65) (htr : ∀ j, j < n → 0 ≤ t j ∧ t j ≤ 127) (hT : Tq M t n) (hat : M 218 4 = (p : Int)) :
    Sp (d + 2) 2 [.inr (.inr 218), .inr (.inr 212), .inl c] M Q = if isc t n p c then Q (some (.inl 1)) (zup M 218 4 ((p + 1 : Nat) : Int)) else Q (some (.inl 0)) M := by
  have hc1 := fun Q => s_catn d Q M t n p hn (by omega) hT
  have ee1 : (p : Int) + 1 = ((p + 1 : Nat) : Int) := by omega
  have hcr : -2147483648 ≤ c ∧ c < 2147483648 := by omega
  by_cases z3 : p < n
  · have hr2 : -2147483648 ≤ t p ∧ t p < 2147483648 := by have := htr p z3; omega
    simp only [if_pos z3] at hc1
    simp only [↓e2, ↓e2_0, ↓e2_1, ↓e2_2, ↓e2_5, ↓e2_8, ↓e2_9, ↓e2_12, ↓e2_13, ↓e2_14, ↓e2_15, ↓e2_15i, ↓e2_16, ↓e2_19, ↓e2_20, ↓e2_21, ↓e2_24, ↓e2_25, znl_i, znl_r, znl_n, zcs_0, zcs_1, zcs_2, zcs_3, zcat_0, zcat_1, zcat_2, zcat_3, zbl_0, zbl_1, true_and, and_true, ↓zret_some, ↓zret_none, Nat.reduceAdd, Nat.reduceLeDiff, Nat.reduceMul, eq_self, Int.reduceToNat, Int.reduceLE, Int.reduceLT, Int.reduceNeg, and_self, zrg, zkc_0, zin_1, zin_2, zin_3, zin_4, zin_5, zin_6, zin_7, zin_8, zin_9, zaa_9, zkc_10, zin_11, zin_12, zkc_13, zin_14, zin_15, zkc_16, zin_17, zin_18, zkc_19, zin_20, zin_21, zin_22, zin_23, zin_24, zin_25, zin_26, zin_27, zin_28, zaa_28, zkc_29, zin_30, zin_31, zkc_32, zin_33, zin_34, zkc_35, zin_36, zin_37, zkc_38, zin_39, zin_40, zin_41, zin_42, zin_43, zin_44, zin_45, zin_46, zin_47, zaa_47, zkc_48, zin_49, zin_50, zkc_51, zin_52, zin_53, zkc_54, zin_55, zin_56, zkc_209, zkc_210, zin_211, zaa_211, zkc_212, zin_213, zkc_214, zkc_215, zin_216, zin_217, zkc_218, zin_219, zin_220, zin_221, zkc_222, zin_223, zaa_223, zin_224, zin_225, zkc_226, zin_227, zin_228, zin_229, zin_230, zin_231, zin_232, zkc_233, zin_234, zaa_234, zin_235, zin_236, zin_237, zin_238, zin_239, zin_240, zin_241, zin_242, zin_243, zin_244, zin_245, zin_246, zin_247, zin_248, zin_249, zin_250, zkc_251, zin_252, zin_253, zkc_374, zin_375, zin_376, zin_377, zin_378, zin_379, zin_380, zin_381, zin_382, zin_383, zin_384, zin_385, zin_386, zin_387, hat, ↓hc1, hcr, hr2, ee1]
    by_cases z : t p = c
    · rw [if_pos z, if_pos ⟨z3, z⟩]
    · rw [if_neg z, if_neg (fun y => z y.2)]
  · simp only [if_neg z3] at hc1
    simp only [↓e2, ↓e2_0, ↓e2_1, ↓e2_2, ↓e2_5, ↓e2_8, ↓e2_9, ↓e2_12, ↓e2_13, ↓e2_14, ↓e2_15, ↓e2_15i, ↓e2_16, ↓e2_19, ↓e2_20, ↓e2_21, ↓e2_24, ↓e2_25, znl_i, znl_r, znl_n, zcs_0, zcs_1, zcs_2, zcs_3, zcat_0, zcat_1, zcat_2, zcat_3, zbl_0, zbl_1, true_and, and_true, ↓zret_some, ↓zret_none, Nat.reduceAdd, Nat.reduceLeDiff, Nat.reduceMul, eq_self, Int.reduceToNat, Int.reduceLE, Int.reduceLT, Int.reduceNeg, and_self, zrg, zkc_0, zin_1, zin_2, zin_3, zin_4, zin_5, zin_6, zin_7, zin_8, zin_9, zaa_9, zkc_10, zin_11, zin_12, zkc_13, zin_14, zin_15, zkc_16, zin_17, zin_18, zkc_19, zin_20, zin_21, zin_22, zin_23, zin_24, zin_25, zin_26, zin_27, zin_28, zaa_28, zkc_29, zin_30, zin_31, zkc_32, zin_33, zin_34, zkc_35, zin_36, zin_37, zkc_38, zin_39, zin_40, zin_41, zin_42, zin_43, zin_44, zin_45, zin_46, zin_47, zaa_47, zkc_48, zin_49, zin_50, zkc_51, zin_52, zin_53, zkc_54, zin_55, zin_56, zkc_209, zkc_210, zin_211, zaa_211, zkc_212, zin_213, zkc_214, zkc_215, zin_216, zin_217, zkc_218, zin_219, zin_220, zin_221, zkc_222, zin_223, zaa_223, zin_224, zin_225, zkc_226, zin_227, zin_228, zin_229, zin_230, zin_231, zin_232, zkc_233, zin_234, zaa_234, zin_235, zin_236, zin_237, zin_238, zin_239, zin_240, zin_241, zin_242, zin_243, zin_244, zin_245, zin_246, zin_247, zin_248, zin_249, zin_250, zkc_251, zin_252, zin_253, zkc_374, zin_375, zin_376, zin_377, zin_378, zin_379, zin_380, zin_381, zin_382, zin_383, zin_384, zin_385, zin_386, zin_387, hat, ↓hc1, hcr, show ¬ (-5 : Int) = c by omega, ↓reduceIte]
    rw [if_neg (fun y => z3 y.1)]
def Fk (M N : zM) : Prop := (∀ b, b < 218 ∨ 222 ≤ b → N b = M b) ∧ N 218 3 = M 218 3
theorem s_readCommand (d : Nat) (Q : zQ) (M : zM) (t : Nat → Int) (n p m : Nat) (hn : n ≤ 60) (hp : p ≤ n) (hm : m < 30) (htr : ∀ j, j < n → 0 ≤ t j ∧ t j ≤ 127) (hT : Tq M t n) (hat : M 218 4 = (p : Int))
    (hQ : ∀ N, N 218 4 = ((cen t n p : Nat) : Int) → Fk M N → (∀ b j, 219 ≤ b → b ≤ 221 → j ≠ m → N b j = M b j) → (cok t n p → N 219 m = t p ∧ N 220 m = nv t n (p + 1) ∧ N 221 m = csn t n p) → Q (some (.inl (zb (cok t n p)))) N) :
    Sp (d + 3) 1 [.inr (.inr 218), .inr (.inr 212), .inl (m : Int)] M Q := by
  have hc1 := fun Q => s_catn (d + 1) Q M t n p hn (by omega) hT
  have ee1 : (p : Int) + 1 = ((p + 1 : Nat) : Int) := by omega
  have hm0 : 0 ≤ (m : Int) ∧ (m : Int) < 30 := ⟨by omega, by omega⟩
  have hnl : ¬ (p < n ∧ ltr (t p)) → Q (some (.inl 0)) M := fun z => by
    have h9 := hQ M (by rw [hat]; unfold cen; rw [if_pos z]) ⟨fun _ _ => rfl, rfl⟩ (fun _ _ _ _ _ => rfl) (fun y => absurd y.1 z)
    rw [show zb (cok t n p) = 0 from if_neg (fun y => z y.1)] at h9
    exact h9
  by_cases z3 : p < n
  · have hr2 : -2147483648 ≤ t p ∧ t p < 2147483648 := by have := htr p z3; omega
    simp only [if_pos z3] at hc1
    -- behind the letter
    have go : ∀ pf : Int, ltr (t p) → ((pf = 1 ∧ prl (t p)) ∨ (pf = 0 ∧ ¬ prl (t p))) → RT (Sp (d + 2)) 1 Q 59 [some (.inr (.inr 218)), some (.inr (.inr 212)), some (.inl (m : Int)), some (.inl (t p)), some (.inl pf)] [] M := by
      intro pf hl hpf
      have hok1 : p < n ∧ ltr (t p) := ⟨z3, hl⟩
      have ha1 : zup (zup M 218 4 ((p + 1 : Nat) : Int)) 219 m (t p) 218 4 = ((p + 1 : Nat) : Int) := by rw [zup_off _ _ (by omega), zup_at]
      have hT1 : Tq (zup (zup M 218 4 ((p + 1 : Nat) : Int)) 219 m (t p)) t n := Tq_up (Tq_up hT (by omega)) (by omega)
      have hnum := fun Q => s_readNumber d Q _ t n (p + 1) hn (by omega) htr hT1 ha1
      have hnr := nv_rng (t := t) (n := n) (p := p + 1)
      have hn1 : -2147483648 ≤ nv t n (p + 1) ∧ nv t n (p + 1) < 2147483648 := by omega
      have hple := np_le (t := t) (n := n) (p := p + 1) (by omega)
      generalize hN1 : zup (zup (zup (zup (zup M 218 4 ((p + 1 : Nat) : Int)) 219 m (t p)) 218 4 ((np t n (p + 1) : Nat) : Int)) 220 m (nv t n (p + 1))) 221 m 0 = N1
      have n4 : N1 218 4 = ((np t n (p + 1) : Nat) : Int) := by rw [← hN1]; simp [zup]
      have n3 : N1 218 3 = M 218 3 := by rw [← hN1]; simp [zup]
      have nb : ∀ b, b < 218 ∨ 222 ≤ b → N1 b = M b := fun b hb => by rw [← hN1, zup_ne _ _ _ (by omega), zup_ne _ _ _ (by omega), zup_ne _ _ _ (by omega), zup_ne _ _ _ (by omega), zup_ne _ _ _ (by omega)]
      have nj : ∀ b j, 219 ≤ b → b ≤ 221 → j ≠ m → N1 b j = M b j := fun b j b1 b2 hj => by rw [← hN1, zup_off _ _ (Or.inr hj), zup_off _ _ (Or.inr hj), zup_off _ _ (by omega), zup_off _ _ (Or.inr hj), zup_off _ _ (by omega)]
      have k1 : N1 219 m = t p := by rw [← hN1]; simp [zup]
      have k2 : N1 220 m = nv t n (p + 1) := by rw [← hN1]; simp [zup]
      have k3 : N1 221 m = 0 := by rw [← hN1]; simp [zup]
      have hTN : Tq N1 t n := ⟨by rw [nb 212 (by omega)]; exact hT.1, fun j hj => by rw [nb 213 (by omega)]; exact hT.2 j hj⟩
      have e134 : ∀ (N : zM) (s : Int) w, N 220 m = nv t n (p + 1) → N 221 m = s → s = csn t n p → N 218 4 = ((cen t n p : Nat) : Int) → Fk M N → (∀ b j, 219 ≤ b → b ≤ 221 → j ≠ m → N b j = M b j) → N 219 m = t p → RT (Sp (d + 2)) 1 Q 134 [some (.inr (.inr 218)), some (.inr (.inr 212)), some (.inl (m : Int)), some (.inl (t p)), w] [] N := by
        intro N s w g1 g2 g3 g4 g5 g6 g7
        have hsr := csn_rng (t := t) (n := n) (p := p)
        have h9 := hQ N g4 g5 g6 (fun _ => ⟨g7, g1, g2.trans g3⟩)
        have hs1 : -2147483648 ≤ s ∧ s < 2147483648 := by omega
        simp only [↓e1, ↓e1_0, ↓e1_1, ↓e1_2, ↓e1_5, ↓e1_8, ↓e1_9, ↓e1_10, ↓e1_12, ↓e1_15, ↓e1_16, ↓e1_18, ↓e1_21, ↓e1_22, ↓e1_24, ↓e1_27, ↓e1_28, ↓e1_31, ↓e1_32, ↓e1_34, ↓e1_36, ↓e1_39, ↓e1_40, ↓e1_42, ↓e1_45, ↓e1_46, ↓e1_48, ↓e1_51, ↓e1_52, ↓e1_54, ↓e1_57, ↓e1_58, ↓e1_59, ↓e1_60, ↓e1_60i, ↓e1_61, ↓e1_64, ↓e1_65, ↓e1_66, ↓e1_69, ↓e1_70, ↓e1_73, ↓e1_74, ↓e1_75, ↓e1_76, ↓e1_77, ↓e1_80, ↓e1_81, ↓e1_82, ↓e1_83, ↓e1_86, ↓e1_87, ↓e1_88, ↓e1_91, ↓e1_92, ↓e1_93, ↓e1_94, ↓e1_96, ↓e1_99, ↓e1_100, ↓e1_103, ↓e1_104, ↓e1_105, ↓e1_108, ↓e1_109, ↓e1_112, ↓e1_113, ↓e1_114, ↓e1_115, ↓e1_117, ↓e1_120, ↓e1_123, ↓e1_124, ↓e1_125, ↓e1_128, ↓e1_131, ↓e1_133, ↓e1_134, ↓e1_135, ↓e1_138, ↓e1_139, ↓e1_140, ↓e1_143, ↓e1_144, ↓e1_147, ↓e1_148, ↓e1_149, ↓e1_152, ↓e1_153, ↓e1_156, ↓e1_157, znl_i, znl_r, znl_n, zcs_0, zcs_1, zcs_2, zcs_3, zcat_0, zcat_1, zcat_2, zcat_3, zbl_0, zbl_1, true_and, and_true, ↓zret_some, ↓zret_none, Nat.reduceAdd, Nat.reduceLeDiff, Nat.reduceMul, eq_self, Int.reduceToNat, Int.reduceLE, Int.reduceLT, Int.reduceNeg, and_self, zrg, zkc_0, zin_1, zin_2, zin_3, zin_4, zin_5, zin_6, zin_7, zin_8, zin_9, zaa_9, zkc_10, zin_11, zin_12, zkc_13, zin_14, zin_15, zkc_16, zin_17, zin_18, zkc_19, zin_20, zin_21, zin_22, zin_23, zin_24, zin_25, zin_26, zin_27, zin_28, zaa_28, zkc_29, zin_30, zin_31, zkc_32, zin_33, zin_34, zkc_35, zin_36, zin_37, zkc_38, zin_39, zin_40, zin_41, zin_42, zin_43, zin_44, zin_45, zin_46, zin_47, zaa_47, zkc_48, zin_49, zin_50, zkc_51, zin_52, zin_53, zkc_54, zin_55, zin_56, zkc_209, zkc_210, zin_211, zaa_211, zkc_212, zin_213, zkc_214, zkc_215, zin_216, zin_217, zkc_218, zin_219, zin_220, zin_221, zkc_222, zin_223, zaa_223, zin_224, zin_225, zkc_226, zin_227, zin_228, zin_229, zin_230, zin_231, zin_232, zkc_233, zin_234, zaa_234, zin_235, zin_236, zin_237, zin_238, zin_239, zin_240, zin_241, zin_242, zin_243, zin_244, zin_245, zin_246, zin_247, zin_248, zin_249, zin_250, zkc_251, zin_252, zin_253, zkc_374, zin_375, zin_376, zin_377, zin_378, zin_379, zin_380, zin_381, zin_382, zin_383, zin_384, zin_385, zin_386, zin_387, hm0, Int.toNat_natCast, g1, g2, hn1, hs1]
        by_cases q1 : nv t n (p + 1) < 0
        · rw [if_pos q1]
          rw [show zb (cok t n p) = 0 from if_neg (fun y => by have := y.2.1; omega)] at h9
          exact h9
        · rw [if_neg q1]
          by_cases q2 : s < 0
          · rw [if_pos q2]
            rw [show zb (cok t n p) = 0 from if_neg (fun y => by have := y.2.2; omega)] at h9
            exact h9
          · rw [if_neg q2]
            rw [show zb (cok t n p) = 1 from if_pos ⟨hok1, by omega, by omega⟩] at h9
            exact h9
      have hcen : ¬ (prl (t p) ∧ 0 ≤ nv t n (p + 1)) → cen t n p = np t n (p + 1) := fun q => by unfold cen; rw [if_neg (fun y => y hok1), if_neg q]
      have hcsn : ¬ (prl (t p) ∧ 0 ≤ nv t n (p + 1)) → csn t n p = 0 := fun q => by unfold csn; rw [if_neg q]
      simp only [↓e1, ↓e1_0, ↓e1_1, ↓e1_2, ↓e1_5, ↓e1_8, ↓e1_9, ↓e1_10, ↓e1_12, ↓e1_15, ↓e1_16, ↓e1_18, ↓e1_21, ↓e1_22, ↓e1_24, ↓e1_27, ↓e1_28, ↓e1_31, ↓e1_32, ↓e1_34, ↓e1_36, ↓e1_39, ↓e1_40, ↓e1_42, ↓e1_45, ↓e1_46, ↓e1_48, ↓e1_51, ↓e1_52, ↓e1_54, ↓e1_57, ↓e1_58, ↓e1_59, ↓e1_60, ↓e1_60i, ↓e1_61, ↓e1_64, ↓e1_65, ↓e1_66, ↓e1_69, ↓e1_70, ↓e1_73, ↓e1_74, ↓e1_75, ↓e1_76, ↓e1_77, ↓e1_80, ↓e1_81, ↓e1_82, ↓e1_83, ↓e1_86, ↓e1_87, ↓e1_88, ↓e1_91, ↓e1_92, ↓e1_93, ↓e1_96, ↓e1_99, ↓e1_100, ↓e1_103, ↓e1_104, ↓e1_105, ↓e1_108, ↓e1_109, ↓e1_112, ↓e1_113, ↓e1_114, ↓e1_115, ↓e1_117, ↓e1_120, ↓e1_123, ↓e1_124, ↓e1_125, ↓e1_128, ↓e1_131, ↓e1_133, ↓e1_134, ↓e1_135, ↓e1_138, ↓e1_139, ↓e1_140, ↓e1_143, ↓e1_144, ↓e1_147, ↓e1_148, ↓e1_149, ↓e1_152, ↓e1_153, ↓e1_156, ↓e1_157, znl_i, znl_r, znl_n, zcs_0, zcs_1, zcs_2, zcs_3, zcat_0, zcat_1, zcat_2, zcat_3, zbl_0, zbl_1, true_and, and_true, ↓zret_some, ↓zret_none, Nat.reduceAdd, Nat.reduceLeDiff, Nat.reduceMul, eq_self, Int.reduceToNat, Int.reduceLE, Int.reduceLT, Int.reduceNeg, and_self, zrg, zkc_0, zin_1, zin_2, zin_3, zin_4, zin_5, zin_6, zin_7, zin_8, zin_9, zaa_9, zkc_10, zin_11, zin_12, zkc_13, zin_14, zin_15, zkc_16, zin_17, zin_18, zkc_19, zin_20, zin_21, zin_22, zin_23, zin_24, zin_25, zin_26, zin_27, zin_28, zaa_28, zkc_29, zin_30, zin_31, zkc_32, zin_33, zin_34, zkc_35, zin_36, zin_37, zkc_38, zin_39, zin_40, zin_41, zin_42, zin_43, zin_44, zin_45, zin_46, zin_47, zaa_47, zkc_48, zin_49, zin_50, zkc_51, zin_52, zin_53, zkc_54, zin_55, zin_56, zkc_209, zkc_210, zin_211, zaa_211, zkc_212, zin_213, zkc_214, zkc_215, zin_216, zin_217, zkc_218, zin_219, zin_220, zin_221, zkc_222, zin_223, zaa_223, zin_224, zin_225, zkc_226, zin_227, zin_228, zin_229, zin_230, zin_231, zin_232, zkc_233, zin_234, zaa_234, zin_235, zin_236, zin_237, zin_238, zin_239, zin_240, zin_241, zin_242, zin_243, zin_244, zin_245, zin_246, zin_247, zin_248, zin_249, zin_250, zkc_251, zin_252, zin_253, zkc_374, zin_375, zin_376, zin_377, zin_378, zin_379, zin_380, zin_381, zin_382, zin_383, zin_384, zin_385, zin_386, zin_387, hat, ee1, hm0, Int.toNat_natCast, ↓hnum, hN1]
      rcases hpf with ⟨rfl, hpr⟩ | ⟨rfl, hpr⟩
      · simp only [↓e1, ↓e1_0, ↓e1_1, ↓e1_2, ↓e1_5, ↓e1_8, ↓e1_9, ↓e1_10, ↓e1_12, ↓e1_15, ↓e1_16, ↓e1_18, ↓e1_21, ↓e1_22, ↓e1_24, ↓e1_27, ↓e1_28, ↓e1_31, ↓e1_32, ↓e1_34, ↓e1_36, ↓e1_39, ↓e1_40, ↓e1_42, ↓e1_45, ↓e1_46, ↓e1_48, ↓e1_51, ↓e1_52, ↓e1_54, ↓e1_57, ↓e1_58, ↓e1_59, ↓e1_60, ↓e1_60i, ↓e1_61, ↓e1_64, ↓e1_65, ↓e1_66, ↓e1_69, ↓e1_70, ↓e1_73, ↓e1_74, ↓e1_75, ↓e1_76, ↓e1_77, ↓e1_80, ↓e1_81, ↓e1_82, ↓e1_83, ↓e1_86, ↓e1_87, ↓e1_88, ↓e1_91, ↓e1_92, ↓e1_93, ↓e1_94, ↓e1_96, ↓e1_99, ↓e1_100, ↓e1_103, ↓e1_104, ↓e1_105, ↓e1_109, ↓e1_112, ↓e1_113, ↓e1_114, ↓e1_115, ↓e1_117, ↓e1_120, ↓e1_123, ↓e1_124, ↓e1_125, ↓e1_128, ↓e1_131, ↓e1_133, ↓e1_135, ↓e1_138, ↓e1_139, ↓e1_140, ↓e1_143, ↓e1_144, ↓e1_147, ↓e1_148, ↓e1_149, ↓e1_152, ↓e1_153, ↓e1_156, ↓e1_157, znl_i, znl_r, znl_n, zcs_0, zcs_1, zcs_2, zcs_3, zcat_0, zcat_1, zcat_2, zcat_3, zbl_0, zbl_1, true_and, and_true, ↓zret_some, ↓zret_none, Nat.reduceAdd, Nat.reduceLeDiff, Nat.reduceMul, eq_self, Int.reduceToNat, Int.reduceLE, Int.reduceLT, Int.reduceNeg, and_self, zrg, zkc_0, zin_1, zin_2, zin_3, zin_4, zin_5, zin_6, zin_7, zin_8, zin_9, zaa_9, zkc_10, zin_11, zin_12, zkc_13, zin_14, zin_15, zkc_16, zin_17, zin_18, zkc_19, zin_20, zin_21, zin_22, zin_23, zin_24, zin_25, zin_26, zin_27, zin_28, zaa_28, zkc_29, zin_30, zin_31, zkc_32, zin_33, zin_34, zkc_35, zin_36, zin_37, zkc_38, zin_39, zin_40, zin_41, zin_42, zin_43, zin_44, zin_45, zin_46, zin_47, zaa_47, zkc_48, zin_49, zin_50, zkc_51, zin_52, zin_53, zkc_54, zin_55, zin_56, zkc_209, zkc_210, zin_211, zaa_211, zkc_212, zin_213, zkc_214, zkc_215, zin_216, zin_217, zkc_218, zin_219, zin_220, zin_221, zkc_222, zin_223, zaa_223, zin_224, zin_225, zkc_226, zin_227, zin_228, zin_229, zin_230, zin_231, zin_232, zkc_233, zin_234, zaa_234, zin_235, zin_236, zin_237, zin_238, zin_239, zin_240, zin_241, zin_242, zin_243, zin_244, zin_245, zin_246, zin_247, zin_248, zin_249, zin_250, zkc_251, zin_252, zin_253, zkc_374, zin_375, zin_376, zin_377, zin_378, zin_379, zin_380, zin_381, zin_382, zin_383, zin_384, zin_385, zin_386, zin_387, show ¬ (1 : Int) = 0 by omega, ↓reduceIte, hm0, Int.toNat_natCast, k2, hn1]
        by_cases q1 : nv t n (p + 1) < 0
        · rw [if_pos q1]
          have q : ¬ (prl (t p) ∧ 0 ≤ nv t n (p + 1)) := fun y => by omega
          exact e134 N1 0 _ k2 k3 (hcsn q).symm (by rw [n4, hcen q]) ⟨nb, n3⟩ nj k1
        · rw [if_neg q1]
          have q : prl (t p) ∧ 0 ≤ nv t n (p + 1) := ⟨hpr, by omega⟩
          have hsg := fun Q => s_readSign d Q N1 t n (np t n (p + 1)) 44 ⟨by omega, by omega⟩ hn (by omega) htr hTN n4
          by_cases q2 : isc t n (np t n (p + 1)) 44
          · simp only [if_pos q2] at hsg
            have hT2 : Tq (zup N1 218 4 ((np t n (p + 1) + 1 : Nat) : Int)) t n := Tq_up hTN (by omega)
            have hnum2 := fun Q => s_readNumber d Q _ t n (np t n (p + 1) + 1) hn (by omega) htr hT2 (zup_at _ _ _ _)
            have hce : cen t n p = np t n (np t n (p + 1) + 1) := by unfold cen; rw [if_neg (fun y => y hok1), if_pos q, if_pos q2]
            have hcs : csn t n p = nv t n (np t n (p + 1) + 1) := by unfold csn; rw [if_pos q, if_pos q2]
            simp only [↓e1, ↓e1_0, ↓e1_1, ↓e1_2, ↓e1_5, ↓e1_8, ↓e1_9, ↓e1_10, ↓e1_12, ↓e1_15, ↓e1_16, ↓e1_18, ↓e1_21, ↓e1_22, ↓e1_24, ↓e1_27, ↓e1_28, ↓e1_31, ↓e1_32, ↓e1_34, ↓e1_36, ↓e1_39, ↓e1_40, ↓e1_42, ↓e1_45, ↓e1_46, ↓e1_48, ↓e1_51, ↓e1_52, ↓e1_54, ↓e1_57, ↓e1_58, ↓e1_59, ↓e1_60, ↓e1_60i, ↓e1_61, ↓e1_64, ↓e1_65, ↓e1_66, ↓e1_69, ↓e1_70, ↓e1_73, ↓e1_74, ↓e1_75, ↓e1_76, ↓e1_77, ↓e1_80, ↓e1_81, ↓e1_82, ↓e1_83, ↓e1_86, ↓e1_87, ↓e1_88, ↓e1_91, ↓e1_92, ↓e1_93, ↓e1_94, ↓e1_96, ↓e1_99, ↓e1_100, ↓e1_103, ↓e1_104, ↓e1_105, ↓e1_108, ↓e1_109, ↓e1_112, ↓e1_113, ↓e1_114, ↓e1_115, ↓e1_117, ↓e1_120, ↓e1_123, ↓e1_124, ↓e1_125, ↓e1_128, ↓e1_131, ↓e1_133, ↓e1_135, ↓e1_138, ↓e1_139, ↓e1_140, ↓e1_143, ↓e1_144, ↓e1_147, ↓e1_148, ↓e1_149, ↓e1_152, ↓e1_153, ↓e1_156, ↓e1_157, znl_i, znl_r, znl_n, zcs_0, zcs_1, zcs_2, zcs_3, zcat_0, zcat_1, zcat_2, zcat_3, zbl_0, zbl_1, true_and, and_true, ↓zret_some, ↓zret_none, Nat.reduceAdd, Nat.reduceLeDiff, Nat.reduceMul, eq_self, Int.reduceToNat, Int.reduceLE, Int.reduceLT, Int.reduceNeg, and_self, zrg, zkc_0, zin_1, zin_2, zin_3, zin_4, zin_5, zin_6, zin_7, zin_8, zin_9, zaa_9, zkc_10, zin_11, zin_12, zkc_13, zin_14, zin_15, zkc_16, zin_17, zin_18, zkc_19, zin_20, zin_21, zin_22, zin_23, zin_24, zin_25, zin_26, zin_27, zin_28, zaa_28, zkc_29, zin_30, zin_31, zkc_32, zin_33, zin_34, zkc_35, zin_36, zin_37, zkc_38, zin_39, zin_40, zin_41, zin_42, zin_43, zin_44, zin_45, zin_46, zin_47, zaa_47, zkc_48, zin_49, zin_50, zkc_51, zin_52, zin_53, zkc_54, zin_55, zin_56, zkc_209, zkc_210, zin_211, zaa_211, zkc_212, zin_213, zkc_214, zkc_215, zin_216, zin_217, zkc_218, zin_219, zin_220, zin_221, zkc_222, zin_223, zaa_223, zin_224, zin_225, zkc_226, zin_227, zin_228, zin_229, zin_230, zin_231, zin_232, zkc_233, zin_234, zaa_234, zin_235, zin_236, zin_237, zin_238, zin_239, zin_240, zin_241, zin_242, zin_243, zin_244, zin_245, zin_246, zin_247, zin_248, zin_249, zin_250, zkc_251, zin_252, zin_253, zkc_374, zin_375, zin_376, zin_377, zin_378, zin_379, zin_380, zin_381, zin_382, zin_383, zin_384, zin_385, zin_386, zin_387, hm0, Int.toNat_natCast, ↓hsg, show ¬ (1 : Int) = 0 by omega, ↓reduceIte, ↓hnum2]
            exact e134 _ (nv t n (np t n (p + 1) + 1)) _ (by rw [zup_off _ _ (by omega), zup_off _ _ (by omega), zup_off _ _ (by omega)]; exact k2) (zup_at _ _ _ _) hcs.symm (by rw [zup_off _ _ (by omega), zup_at, hce]) ⟨fun b hb => by rw [zup_ne _ _ _ (by omega), zup_ne _ _ _ (by omega), zup_ne _ _ _ (by omega)]; exact nb b hb, by rw [zup_off _ _ (by omega), zup_off _ _ (by omega), zup_off _ _ (by omega)]; exact n3⟩ (fun b j b1 b2 hj => by rw [zup_off _ _ (Or.inr hj), zup_off _ _ (by omega), zup_off _ _ (by omega)]; exact nj b j b1 b2 hj) (by rw [zup_off _ _ (by omega), zup_off _ _ (by omega), zup_off _ _ (by omega)]; exact k1)
          · simp only [if_neg q2] at hsg
            have hce : cen t n p = np t n (p + 1) := by unfold cen; rw [if_neg (fun y => y hok1), if_pos q, if_neg q2]
            have hcs : csn t n p = -5 := by unfold csn; rw [if_pos q, if_neg q2]
            simp only [↓e1, ↓e1_0, ↓e1_1, ↓e1_2, ↓e1_5, ↓e1_8, ↓e1_9, ↓e1_10, ↓e1_12, ↓e1_15, ↓e1_16, ↓e1_18, ↓e1_21, ↓e1_22, ↓e1_24, ↓e1_27, ↓e1_28, ↓e1_31, ↓e1_32, ↓e1_34, ↓e1_36, ↓e1_39, ↓e1_40, ↓e1_42, ↓e1_45, ↓e1_46, ↓e1_48, ↓e1_51, ↓e1_52, ↓e1_54, ↓e1_57, ↓e1_58, ↓e1_59, ↓e1_60, ↓e1_60i, ↓e1_61, ↓e1_64, ↓e1_65, ↓e1_66, ↓e1_69, ↓e1_70, ↓e1_73, ↓e1_74, ↓e1_75, ↓e1_76, ↓e1_77, ↓e1_80, ↓e1_81, ↓e1_82, ↓e1_83, ↓e1_86, ↓e1_87, ↓e1_88, ↓e1_91, ↓e1_92, ↓e1_93, ↓e1_94, ↓e1_96, ↓e1_99, ↓e1_100, ↓e1_103, ↓e1_104, ↓e1_105, ↓e1_108, ↓e1_109, ↓e1_112, ↓e1_113, ↓e1_114, ↓e1_115, ↓e1_117, ↓e1_120, ↓e1_123, ↓e1_124, ↓e1_125, ↓e1_128, ↓e1_131, ↓e1_133, ↓e1_135, ↓e1_138, ↓e1_139, ↓e1_140, ↓e1_143, ↓e1_144, ↓e1_147, ↓e1_148, ↓e1_149, ↓e1_152, ↓e1_153, ↓e1_156, ↓e1_157, znl_i, znl_r, znl_n, zcs_0, zcs_1, zcs_2, zcs_3, zcat_0, zcat_1, zcat_2, zcat_3, zbl_0, zbl_1, true_and, and_true, ↓zret_some, ↓zret_none, Nat.reduceAdd, Nat.reduceLeDiff, Nat.reduceMul, eq_self, Int.reduceToNat, Int.reduceLE, Int.reduceLT, Int.reduceNeg, and_self, zrg, zkc_0, zin_1, zin_2, zin_3, zin_4, zin_5, zin_6, zin_7, zin_8, zin_9, zaa_9, zkc_10, zin_11, zin_12, zkc_13, zin_14, zin_15, zkc_16, zin_17, zin_18, zkc_19, zin_20, zin_21, zin_22, zin_23, zin_24, zin_25, zin_26, zin_27, zin_28, zaa_28, zkc_29, zin_30, zin_31, zkc_32, zin_33, zin_34, zkc_35, zin_36, zin_37, zkc_38, zin_39, zin_40, zin_41, zin_42, zin_43, zin_44, zin_45, zin_46, zin_47, zaa_47, zkc_48, zin_49, zin_50, zkc_51, zin_52, zin_53, zkc_54, zin_55, zin_56, zkc_209, zkc_210, zin_211, zaa_211, zkc_212, zin_213, zkc_214, zkc_215, zin_216, zin_217, zkc_218, zin_219, zin_220, zin_221, zkc_222, zin_223, zaa_223, zin_224, zin_225, zkc_226, zin_227, zin_228, zin_229, zin_230, zin_231, zin_232, zkc_233, zin_234, zaa_234, zin_235, zin_236, zin_237, zin_238, zin_239, zin_240, zin_241, zin_242, zin_243, zin_244, zin_245, zin_246, zin_247, zin_248, zin_249, zin_250, zkc_251, zin_252, zin_253, zkc_374, zin_375, zin_376, zin_377, zin_378, zin_379, zin_380, zin_381, zin_382, zin_383, zin_384, zin_385, zin_386, zin_387, hm0, Int.toNat_natCast, ↓hsg, ↓reduceIte]
            exact e134 _ (-5) _ (by rw [zup_off _ _ (by omega)]; exact k2) (zup_at _ _ _ _) hcs.symm (by rw [zup_off _ _ (by omega), n4, hce]) ⟨fun b hb => by rw [zup_ne _ _ _ (by omega)]; exact nb b hb, by rw [zup_off _ _ (by omega)]; exact n3⟩ (fun b j b1 b2 hj => by rw [zup_off _ _ (Or.inr hj)]; exact nj b j b1 b2 hj) (by rw [zup_off _ _ (by omega)]; exact k1)
      · have q : ¬ (prl (t p) ∧ 0 ≤ nv t n (p + 1)) := fun y => hpr y.1
        simp only [↓e1, ↓e1_0, ↓e1_1, ↓e1_2, ↓e1_5, ↓e1_8, ↓e1_9, ↓e1_10, ↓e1_12, ↓e1_15, ↓e1_16, ↓e1_18, ↓e1_21, ↓e1_22, ↓e1_24, ↓e1_27, ↓e1_28, ↓e1_31, ↓e1_32, ↓e1_34, ↓e1_36, ↓e1_39, ↓e1_40, ↓e1_42, ↓e1_45, ↓e1_46, ↓e1_48, ↓e1_51, ↓e1_52, ↓e1_54, ↓e1_57, ↓e1_58, ↓e1_59, ↓e1_60, ↓e1_60i, ↓e1_61, ↓e1_64, ↓e1_65, ↓e1_66, ↓e1_69, ↓e1_70, ↓e1_73, ↓e1_74, ↓e1_75, ↓e1_76, ↓e1_77, ↓e1_80, ↓e1_81, ↓e1_82, ↓e1_83, ↓e1_86, ↓e1_87, ↓e1_88, ↓e1_91, ↓e1_92, ↓e1_93, ↓e1_94, ↓e1_96, ↓e1_99, ↓e1_100, ↓e1_103, ↓e1_104, ↓e1_105, ↓e1_108, ↓e1_109, ↓e1_112, ↓e1_113, ↓e1_114, ↓e1_115, ↓e1_117, ↓e1_120, ↓e1_123, ↓e1_124, ↓e1_125, ↓e1_128, ↓e1_131, ↓e1_133, ↓e1_135, ↓e1_138, ↓e1_139, ↓e1_140, ↓e1_143, ↓e1_144, ↓e1_147, ↓e1_148, ↓e1_149, ↓e1_152, ↓e1_153, ↓e1_156, ↓e1_157, znl_i, znl_r, znl_n, zcs_0, zcs_1, zcs_2, zcs_3, zcat_0, zcat_1, zcat_2, zcat_3, zbl_0, zbl_1, true_and, and_true, ↓zret_some, ↓zret_none, Nat.reduceAdd, Nat.reduceLeDiff, Nat.reduceMul, eq_self, Int.reduceToNat, Int.reduceLE, Int.reduceLT, Int.reduceNeg, and_self, zrg, zkc_0, zin_1, zin_2, zin_3, zin_4, zin_5, zin_6, zin_7, zin_8, zin_9, zaa_9, zkc_10, zin_11, zin_12, zkc_13, zin_14, zin_15, zkc_16, zin_17, zin_18, zkc_19, zin_20, zin_21, zin_22, zin_23, zin_24, zin_25, zin_26, zin_27, zin_28, zaa_28, zkc_29, zin_30, zin_31, zkc_32, zin_33, zin_34, zkc_35, zin_36, zin_37, zkc_38, zin_39, zin_40, zin_41, zin_42, zin_43, zin_44, zin_45, zin_46, zin_47, zaa_47, zkc_48, zin_49, zin_50, zkc_51, zin_52, zin_53, zkc_54, zin_55, zin_56, zkc_209, zkc_210, zin_211, zaa_211, zkc_212, zin_213, zkc_214, zkc_215, zin_216, zin_217, zkc_218, zin_219, zin_220, zin_221, zkc_222, zin_223, zaa_223, zin_224, zin_225, zkc_226, zin_227, zin_228, zin_229, zin_230, zin_231, zin_232, zkc_233, zin_234, zaa_234, zin_235, zin_236, zin_237, zin_238, zin_239, zin_240, zin_241, zin_242, zin_243, zin_244, zin_245, zin_246, zin_247, zin_248, zin_249, zin_250, zkc_251, zin_252, zin_253, zkc_374, zin_375, zin_376, zin_377, zin_378, zin_379, zin_380, zin_381, zin_382, zin_383, zin_384, zin_385, zin_386, zin_387, ↓reduceIte]
        exact e134 N1 0 _ k2 k3 (hcsn q).symm (by rw [n4, hcen q]) ⟨nb, n3⟩ nj k1
    simp only [↓e1, ↓e1_0, ↓e1_1, ↓e1_2, ↓e1_5, ↓e1_8, ↓e1_9, ↓e1_10, ↓e1_12, ↓e1_15, ↓e1_16, ↓e1_18, ↓e1_21, ↓e1_22, ↓e1_24, ↓e1_27, ↓e1_28, ↓e1_31, ↓e1_32, ↓e1_34, ↓e1_36, ↓e1_39, ↓e1_40, ↓e1_42, ↓e1_45, ↓e1_46, ↓e1_48, ↓e1_51, ↓e1_52, ↓e1_54, ↓e1_57, ↓e1_58, ↓e1_60, ↓e1_60i, ↓e1_61, ↓e1_64, ↓e1_65, ↓e1_66, ↓e1_69, ↓e1_70, ↓e1_73, ↓e1_74, ↓e1_75, ↓e1_76, ↓e1_77, ↓e1_80, ↓e1_81, ↓e1_82, ↓e1_83, ↓e1_86, ↓e1_87, ↓e1_88, ↓e1_91, ↓e1_92, ↓e1_93, ↓e1_94, ↓e1_96, ↓e1_99, ↓e1_100, ↓e1_103, ↓e1_104, ↓e1_105, ↓e1_108, ↓e1_109, ↓e1_112, ↓e1_113, ↓e1_114, ↓e1_115, ↓e1_117, ↓e1_120, ↓e1_123, ↓e1_124, ↓e1_125, ↓e1_128, ↓e1_131, ↓e1_133, ↓e1_134, ↓e1_135, ↓e1_138, ↓e1_139, ↓e1_140, ↓e1_143, ↓e1_144, ↓e1_147, ↓e1_148, ↓e1_149, ↓e1_152, ↓e1_153, ↓e1_156, ↓e1_157, znl_i, znl_r, znl_n, zcs_0, zcs_1, zcs_2, zcs_3, zcat_0, zcat_1, zcat_2, zcat_3, zbl_0, zbl_1, true_and, and_true, ↓zret_some, ↓zret_none, Nat.reduceAdd, Nat.reduceLeDiff, Nat.reduceMul, eq_self, Int.reduceToNat, Int.reduceLE, Int.reduceLT, Int.reduceNeg, and_self, zrg, zkc_0, zin_1, zin_2, zin_3, zin_4, zin_5, zin_6, zin_7, zin_8, zin_9, zaa_9, zkc_10, zin_11, zin_12, zkc_13, zin_14, zin_15, zkc_16, zin_17, zin_18, zkc_19, zin_20, zin_21, zin_22, zin_23, zin_24, zin_25, zin_26, zin_27, zin_28, zaa_28, zkc_29, zin_30, zin_31, zkc_32, zin_33, zin_34, zkc_35, zin_36, zin_37, zkc_38, zin_39, zin_40, zin_41, zin_42, zin_43, zin_44, zin_45, zin_46, zin_47, zaa_47, zkc_48, zin_49, zin_50, zkc_51, zin_52, zin_53, zkc_54, zin_55, zin_56, zkc_209, zkc_210, zin_211, zaa_211, zkc_212, zin_213, zkc_214, zkc_215, zin_216, zin_217, zkc_218, zin_219, zin_220, zin_221, zkc_222, zin_223, zaa_223, zin_224, zin_225, zkc_226, zin_227, zin_228, zin_229, zin_230, zin_231, zin_232, zkc_233, zin_234, zaa_234, zin_235, zin_236, zin_237, zin_238, zin_239, zin_240, zin_241, zin_242, zin_243, zin_244, zin_245, zin_246, zin_247, zin_248, zin_249, zin_250, zkc_251, zin_252, zin_253, zkc_374, zin_375, zin_376, zin_377, zin_378, zin_379, zin_380, zin_381, zin_382, zin_383, zin_384, zin_385, zin_386, zin_387, hat, ↓hc1, hr2, ne_eq, ite_not]
    by_cases c1 : t p = 97
    · have := go 1 (Or.inl (Or.inl c1)) (Or.inl ⟨rfl, Or.inl c1⟩)
      simp only [c1, ↓reduceIte, show ¬ (1 : Int) = 0 by omega] at this ⊢
      exact this
    by_cases c2 : t p = 111
    · have := go 1 (Or.inl (Or.inr (Or.inl c2))) (Or.inl ⟨rfl, Or.inr (Or.inl c2)⟩)
      simp only [c2, ↓reduceIte, show ¬ (1 : Int) = 0 by omega, show ¬ (111 : Int) = 97 by omega] at this ⊢
      exact this
    by_cases c3 : t p = 116
    · have := go 1 (Or.inl (Or.inr (Or.inr c3))) (Or.inl ⟨rfl, Or.inr (Or.inr c3)⟩)
      simp only [c3, ↓reduceIte, show ¬ (1 : Int) = 0 by omega, show ¬ (116 : Int) = 97 by omega, show ¬ (116 : Int) = 111 by omega] at this ⊢
      exact this
    have hnp : ¬ prl (t p) := fun z => by rcases z with z | z | z <;> omega
    by_cases c4 : t p = 108
    · have := go 0 (Or.inr (Or.inl c4)) (Or.inr ⟨rfl, hnp⟩)
      simp only [c4, ↓reduceIte, show ¬ (108 : Int) = 97 by omega, show ¬ (108 : Int) = 111 by omega, show ¬ (108 : Int) = 116 by omega] at this ⊢
      exact this
    by_cases c5 : t p = 120
    · have := go 0 (Or.inr (Or.inr (Or.inl c5))) (Or.inr ⟨rfl, hnp⟩)
      simp only [c5, ↓reduceIte, show ¬ (120 : Int) = 97 by omega, show ¬ (120 : Int) = 111 by omega, show ¬ (120 : Int) = 116 by omega, show ¬ (120 : Int) = 108 by omega] at this ⊢
      exact this
    by_cases c6 : t p = 103
    · have := go 0 (Or.inr (Or.inr (Or.inr c6))) (Or.inr ⟨rfl, hnp⟩)
      simp only [c6, ↓reduceIte, show ¬ (103 : Int) = 97 by omega, show ¬ (103 : Int) = 111 by omega, show ¬ (103 : Int) = 116 by omega, show ¬ (103 : Int) = 108 by omega, show ¬ (103 : Int) = 120 by omega] at this ⊢
      exact this
    simp only [c1, c2, c3, c4, c5, c6, ↓reduceIte]
    exact hnl (fun z => by rcases z.2 with y | y | y | y; exact hnp y; exact c4 y; exact c5 y; exact c6 y)
  · simp only [if_neg z3] at hc1
    simp only [↓e1, ↓e1_0, ↓e1_1, ↓e1_2, ↓e1_5, ↓e1_8, ↓e1_9, ↓e1_10, ↓e1_12, ↓e1_15, ↓e1_16, ↓e1_18, ↓e1_21, ↓e1_22, ↓e1_24, ↓e1_27, ↓e1_28, ↓e1_31, ↓e1_32, ↓e1_34, ↓e1_36, ↓e1_39, ↓e1_40, ↓e1_42, ↓e1_45, ↓e1_46, ↓e1_48, ↓e1_51, ↓e1_52, ↓e1_54, ↓e1_57, ↓e1_58, ↓e1_59, ↓e1_60, ↓e1_60i, ↓e1_61, ↓e1_64, ↓e1_65, ↓e1_66, ↓e1_69, ↓e1_70, ↓e1_73, ↓e1_74, ↓e1_75, ↓e1_76, ↓e1_77, ↓e1_80, ↓e1_81, ↓e1_82, ↓e1_83, ↓e1_86, ↓e1_87, ↓e1_88, ↓e1_91, ↓e1_92, ↓e1_93, ↓e1_94, ↓e1_96, ↓e1_99, ↓e1_100, ↓e1_103, ↓e1_104, ↓e1_105, ↓e1_108, ↓e1_109, ↓e1_112, ↓e1_113, ↓e1_114, ↓e1_115, ↓e1_117, ↓e1_120, ↓e1_123, ↓e1_124, ↓e1_125, ↓e1_128, ↓e1_131, ↓e1_133, ↓e1_134, ↓e1_135, ↓e1_138, ↓e1_139, ↓e1_140, ↓e1_143, ↓e1_144, ↓e1_147, ↓e1_148, ↓e1_149, ↓e1_152, ↓e1_153, ↓e1_156, ↓e1_157, znl_i, znl_r, znl_n, zcs_0, zcs_1, zcs_2, zcs_3, zcat_0, zcat_1, zcat_2, zcat_3, zbl_0, zbl_1, true_and, and_true, ↓zret_some, ↓zret_none, Nat.reduceAdd, Nat.reduceLeDiff, Nat.reduceMul, eq_self, Int.reduceToNat, Int.reduceLE, Int.reduceLT, Int.reduceNeg, and_self, zrg, zkc_0, zin_1, zin_2, zin_3, zin_4, zin_5, zin_6, zin_7, zin_8, zin_9, zaa_9, zkc_10, zin_11, zin_12, zkc_13, zin_14, zin_15, zkc_16, zin_17, zin_18, zkc_19, zin_20, zin_21, zin_22, zin_23, zin_24, zin_25, zin_26, zin_27, zin_28, zaa_28, zkc_29, zin_30, zin_31, zkc_32, zin_33, zin_34, zkc_35, zin_36, zin_37, zkc_38, zin_39, zin_40, zin_41, zin_42, zin_43, zin_44, zin_45, zin_46, zin_47, zaa_47, zkc_48, zin_49, zin_50, zkc_51, zin_52, zin_53, zkc_54, zin_55, zin_56, zkc_209, zkc_210, zin_211, zaa_211, zkc_212, zin_213, zkc_214, zkc_215, zin_216, zin_217, zkc_218, zin_219, zin_220, zin_221, zkc_222, zin_223, zaa_223, zin_224, zin_225, zkc_226, zin_227, zin_228, zin_229, zin_230, zin_231, zin_232, zkc_233, zin_234, zaa_234, zin_235, zin_236, zin_237, zin_238, zin_239, zin_240, zin_241, zin_242, zin_243, zin_244, zin_245, zin_246, zin_247, zin_248, zin_249, zin_250, zkc_251, zin_252, zin_253, zkc_374, zin_375, zin_376, zin_377, zin_378, zin_379, zin_380, zin_381, zin_382, zin_383, zin_384, zin_385, zin_386, zin_387, hat, ↓hc1, show ¬ (-5 : Int) = 97 by omega, show ¬ (-5 : Int) = 111 by omega, show ¬ (-5 : Int) = 116 by omega, show ¬ (-5 : Int) = 108 by omega, show ¬ (-5 : Int) = 120 by omega, show ¬ (-5 : Int) = 103 by omega, ne_eq, not_false_eq_true, not_true_eq_false, ↓reduceIte]
    exact hnl (fun z => z3 z.1)
theorem s_readCommands (d : Nat) (Q : zQ) (M : zM) (t : Nat → Int) (n : Nat) (hn : n ≤ 60) (htr : ∀ j, j < n → 0 ≤ t j ∧ t j ≤ 127) (hT : Tq M t n)
    (hQ : ∀ N, (∀ b, b < 218 ∨ 222 ≤ b → N b = M b) → (per t n 30 0 = -1 → N 218 3 = ((pct t n 30 0 : Nat) : Int) ∧ (pct t n 30 0 ≤ 20) ∧ ∀ i, i < pct t n 30 0 → cok t n (pst t n i) ∧ N 219 i = t (pst t n i) ∧ N 220 i = nv t n (pst t n i + 1) ∧ N 221 i = csn t n (pst t n i)) → Q (some (.inl (per t n 30 0))) N) :
    Sp (d + 4) 0 [.inr (.inr 218), .inr (.inr 212)] M Q := by
  have hnr : -2147483648 ≤ (n : Int) ∧ (n : Int) < 2147483648 := ⟨by omega, by omega⟩
  have loop : ∀ f m : Nat, m + f = 30 → ∀ N, (∀ b, b < 218 ∨ 222 ≤ b → N b = M b) → N 218 3 = (m : Int) → N 218 4 = ((pst t n m : Nat) : Int) → 3 * m ≤ pst t n m → pst t n m ≤ n → (∀ i, i < m → cok t n (pst t n i) ∧ N 219 i = t (pst t n i) ∧ N 220 i = nv t n (pst t n i + 1) ∧ N 221 i = csn t n (pst t n i)) → per t n f m = per t n 30 0 → pct t n f m = pct t n 30 0 → RT (Sp (d + 3)) 0 Q 12 [some (.inr (.inr 218)), some (.inr (.inr 212)), some (.inl (m : Int))] [] N := by
    intro f
    induction f with
    | zero =>
      intro m hm N g1 g2 g3 g4 g5 g6 g7 g8
      omega
    | succ f ih =>
      intro m hm N g1 g2 g3 g4 g5 g6 g7 g8
      have hm1 : ¬ (m : Int) ≥ 30 := by omega
      have hm2 : -2147483648 ≤ (m : Int) ∧ (m : Int) < 2147483648 := ⟨by omega, by omega⟩
      have hTN : Tq N t n := ⟨by rw [g1 212 (by omega)]; exact hT.1, fun j hj => by rw [g1 213 (by omega)]; exact hT.2 j hj⟩
      rw [per_s] at g7
      rw [pct_s] at g8
      rw [e0_12]
      simp only [↓e0, ↓e0_0, ↓e0_1, ↓e0_2, ↓e0_5, ↓e0_6, ↓e0_7, ↓e0_10, ↓e0_11, ↓e0_13, ↓e0_15, ↓e0_18, ↓e0_19, ↓e0_20, ↓e0_21, ↓e0_24, ↓e0_27, ↓e0_28, ↓e0_31, ↓e0_32, ↓e0_33, ↓e0_33i, ↓e0_34, ↓e0_37, ↓e0_38, ↓e0_39, ↓e0_42, ↓e0_43, ↓e0_46, ↓e0_47, ↓e0_50, ↓e0_53, ↓e0_54, ↓e0_55, ↓e0_56, ↓e0_57, ↓e0_59, ↓e0_62, ↓e0_65, ↓e0_66, ↓e0_69, ↓e0_70, ↓e0_73, ↓e0_76, ↓e0_77, ↓e0_80, znl_i, znl_r, znl_n, zcs_0, zcs_1, zcs_2, zcs_3, zcat_0, zcat_1, zcat_2, zcat_3, zbl_0, zbl_1, true_and, and_true, ↓zret_some, ↓zret_none, Nat.reduceAdd, Nat.reduceLeDiff, Nat.reduceMul, eq_self, Int.reduceToNat, Int.reduceLE, Int.reduceLT, Int.reduceNeg, and_self, zrg, zkc_0, zin_1, zin_2, zin_3, zin_4, zin_5, zin_6, zin_7, zin_8, zin_9, zaa_9, zkc_10, zin_11, zin_12, zkc_13, zin_14, zin_15, zkc_16, zin_17, zin_18, zkc_19, zin_20, zin_21, zin_22, zin_23, zin_24, zin_25, zin_26, zin_27, zin_28, zaa_28, zkc_29, zin_30, zin_31, zkc_32, zin_33, zin_34, zkc_35, zin_36, zin_37, zkc_38, zin_39, zin_40, zin_41, zin_42, zin_43, zin_44, zin_45, zin_46, zin_47, zaa_47, zkc_48, zin_49, zin_50, zkc_51, zin_52, zin_53, zkc_54, zin_55, zin_56, zkc_209, zkc_210, zin_211, zaa_211, zkc_212, zin_213, zkc_214, zkc_215, zin_216, zin_217, zkc_218, zin_219, zin_220, zin_221, zkc_222, zin_223, zaa_223, zin_224, zin_225, zkc_226, zin_227, zin_228, zin_229, zin_230, zin_231, zin_232, zkc_233, zin_234, zaa_234, zin_235, zin_236, zin_237, zin_238, zin_239, zin_240, zin_241, zin_242, zin_243, zin_244, zin_245, zin_246, zin_247, zin_248, zin_249, zin_250, zkc_251, zin_252, zin_253, zkc_374, zin_375, zin_376, zin_377, zin_378, zin_379, zin_380, zin_381, zin_382, zin_383, zin_384, zin_385, zin_386, zin_387, hm1, hm2, ↓reduceIte]
      refine s_readCommand d _ N t n (pst t n m) m hn g5 (by omega) htr hTN g3 (fun N2 u1 u2 u3 u4 => ?_)
      have hcr := zb01 (cok t n (pst t n m))
      have hle := cen_le (t := t) (n := n) g5
      rw [zret_some]
      by_cases hok : cok t n (pst t n m)
      · rw [if_pos hok] at g7 g8
        have hge := cen_ok hok
        have ee3 : N2 218 3 = (m : Int) := u2.2.trans g2
        have hb2 : ∀ b, b < 218 ∨ 222 ≤ b → N2 b = M b := fun b hb => (u2.1 b hb).trans (g1 b hb)
        have hTN2 : Tq N2 t n := ⟨by rw [hb2 212 (by omega)]; exact hT.1, fun j hj => by rw [hb2 213 (by omega)]; exact hT.2 j hj⟩
        have hl2 : zup N2 218 3 ((m : Int) + 1) 212 0 = (n : Int) := by rw [zup_off _ _ (by omega), hTN2.1]
        have ha2 : zup N2 218 3 ((m : Int) + 1) 218 4 = ((cen t n (pst t n m) : Nat) : Int) := by rw [zup_off _ _ (by omega), u1]
        have hTN3 : Tq (zup N2 218 3 ((m : Int) + 1)) t n := Tq_up hTN2 (by omega)
        have hcer : -2147483648 ≤ ((cen t n (pst t n m) : Nat) : Int) ∧ ((cen t n (pst t n m) : Nat) : Int) < 2147483648 := ⟨by omega, by omega⟩
        have hall : ∀ (P : zM), (∀ b, 219 ≤ b → b ≤ 221 → P b = N2 b) → ∀ i, i < m + 1 → cok t n (pst t n i) ∧ P 219 i = t (pst t n i) ∧ P 220 i = nv t n (pst t n i + 1) ∧ P 221 i = csn t n (pst t n i) := fun P hP i hi => by
          rw [hP 219 (by omega) (by omega), hP 220 (by omega) (by omega), hP 221 (by omega) (by omega)]
          by_cases z : i = m
          · subst z; exact ⟨hok, u4 hok⟩
          · rw [u3 219 i (by omega) (by omega) z, u3 220 i (by omega) (by omega) z, u3 221 i (by omega) (by omega) z]
            exact g6 i (by omega)
        have hsg := fun Q => s_readSign (d + 1) Q (zup N2 218 3 ((m : Int) + 1)) t n (cen t n (pst t n m)) 59 ⟨by omega, by omega⟩ hn (by omega) htr hTN3 ha2
        simp only [↓e0, ↓e0_0, ↓e0_1, ↓e0_2, ↓e0_5, ↓e0_6, ↓e0_7, ↓e0_10, ↓e0_11, ↓e0_13, ↓e0_15, ↓e0_18, ↓e0_19, ↓e0_20, ↓e0_21, ↓e0_24, ↓e0_27, ↓e0_28, ↓e0_31, ↓e0_32, ↓e0_33, ↓e0_33i, ↓e0_34, ↓e0_37, ↓e0_38, ↓e0_39, ↓e0_42, ↓e0_43, ↓e0_46, ↓e0_47, ↓e0_50, ↓e0_53, ↓e0_54, ↓e0_56, ↓e0_57, ↓e0_59, ↓e0_62, ↓e0_65, ↓e0_66, ↓e0_69, ↓e0_70, ↓e0_73, ↓e0_76, ↓e0_77, ↓e0_80, znl_i, znl_r, znl_n, zcs_0, zcs_1, zcs_2, zcs_3, zcat_0, zcat_1, zcat_2, zcat_3, zbl_0, zbl_1, true_and, and_true, ↓zret_some, ↓zret_none, Nat.reduceAdd, Nat.reduceLeDiff, Nat.reduceMul, eq_self, Int.reduceToNat, Int.reduceLE, Int.reduceLT, Int.reduceNeg, and_self, zrg, zkc_0, zin_1, zin_2, zin_3, zin_4, zin_5, zin_6, zin_7, zin_8, zin_9, zaa_9, zkc_10, zin_11, zin_12, zkc_13, zin_14, zin_15, zkc_16, zin_17, zin_18, zkc_19, zin_20, zin_21, zin_22, zin_23, zin_24, zin_25, zin_26, zin_27, zin_28, zaa_28, zkc_29, zin_30, zin_31, zkc_32, zin_33, zin_34, zkc_35, zin_36, zin_37, zkc_38, zin_39, zin_40, zin_41, zin_42, zin_43, zin_44, zin_45, zin_46, zin_47, zaa_47, zkc_48, zin_49, zin_50, zkc_51, zin_52, zin_53, zkc_54, zin_55, zin_56, zkc_209, zkc_210, zin_211, zaa_211, zkc_212, zin_213, zkc_214, zkc_215, zin_216, zin_217, zkc_218, zin_219, zin_220, zin_221, zkc_222, zin_223, zaa_223, zin_224, zin_225, zkc_226, zin_227, zin_228, zin_229, zin_230, zin_231, zin_232, zkc_233, zin_234, zaa_234, zin_235, zin_236, zin_237, zin_238, zin_239, zin_240, zin_241, zin_242, zin_243, zin_244, zin_245, zin_246, zin_247, zin_248, zin_249, zin_250, zkc_251, zin_252, zin_253, zkc_374, zin_375, zin_376, zin_377, zin_378, zin_379, zin_380, zin_381, zin_382, zin_383, zin_384, zin_385, zin_386, zin_387, show zb (cok t n (pst t n m)) = 1 from if_pos hok, show ¬ (1 : Int) = 0 by omega, ne_eq, not_false_eq_true, ↓reduceIte, ee3, hl2, ha2, hcer, hnr, ite_not]
        by_cases q1 : cen t n (pst t n m) = n
        · rw [if_pos q1] at g7 g8
          have h9 := hQ (zup N2 218 3 ((m : Int) + 1)) (fun b hb => by rw [zup_ne _ _ _ (by omega)]; exact hb2 b hb) (fun _ => by
            rw [← g8]
            refine ⟨by rw [zup_at]; omega, by omega, hall _ (fun b b1 b2 => zup_ne _ _ _ (by omega))⟩)
          rw [← g7] at h9
          rw [if_pos (by omega)]
          exact h9
        · rw [if_neg q1] at g7 g8
          rw [if_neg (by omega)]
          by_cases q2 : isc t n (cen t n (pst t n m)) 59
          · rw [if_pos q2] at g7 g8
            simp only [if_pos q2] at hsg
            simp only [↓e0, ↓e0_0, ↓e0_1, ↓e0_2, ↓e0_5, ↓e0_6, ↓e0_7, ↓e0_10, ↓e0_11, ↓e0_13, ↓e0_15, ↓e0_18, ↓e0_19, ↓e0_20, ↓e0_21, ↓e0_24, ↓e0_27, ↓e0_28, ↓e0_31, ↓e0_32, ↓e0_33, ↓e0_33i, ↓e0_34, ↓e0_37, ↓e0_38, ↓e0_39, ↓e0_42, ↓e0_43, ↓e0_46, ↓e0_47, ↓e0_50, ↓e0_53, ↓e0_54, ↓e0_55, ↓e0_56, ↓e0_57, ↓e0_59, ↓e0_62, ↓e0_65, ↓e0_66, ↓e0_69, ↓e0_70, ↓e0_73, ↓e0_76, ↓e0_77, ↓e0_80, znl_i, znl_r, znl_n, zcs_0, zcs_1, zcs_2, zcs_3, zcat_0, zcat_1, zcat_2, zcat_3, zbl_0, zbl_1, true_and, and_true, ↓zret_some, ↓zret_none, Nat.reduceAdd, Nat.reduceLeDiff, Nat.reduceMul, eq_self, Int.reduceToNat, Int.reduceLE, Int.reduceLT, Int.reduceNeg, and_self, zrg, zkc_0, zin_1, zin_2, zin_3, zin_4, zin_5, zin_6, zin_7, zin_8, zin_9, zaa_9, zkc_10, zin_11, zin_12, zkc_13, zin_14, zin_15, zkc_16, zin_17, zin_18, zkc_19, zin_20, zin_21, zin_22, zin_23, zin_24, zin_25, zin_26, zin_27, zin_28, zaa_28, zkc_29, zin_30, zin_31, zkc_32, zin_33, zin_34, zkc_35, zin_36, zin_37, zkc_38, zin_39, zin_40, zin_41, zin_42, zin_43, zin_44, zin_45, zin_46, zin_47, zaa_47, zkc_48, zin_49, zin_50, zkc_51, zin_52, zin_53, zkc_54, zin_55, zin_56, zkc_209, zkc_210, zin_211, zaa_211, zkc_212, zin_213, zkc_214, zkc_215, zin_216, zin_217, zkc_218, zin_219, zin_220, zin_221, zkc_222, zin_223, zaa_223, zin_224, zin_225, zkc_226, zin_227, zin_228, zin_229, zin_230, zin_231, zin_232, zkc_233, zin_234, zaa_234, zin_235, zin_236, zin_237, zin_238, zin_239, zin_240, zin_241, zin_242, zin_243, zin_244, zin_245, zin_246, zin_247, zin_248, zin_249, zin_250, zkc_251, zin_252, zin_253, zkc_374, zin_375, zin_376, zin_377, zin_378, zin_379, zin_380, zin_381, zin_382, zin_383, zin_384, zin_385, zin_386, zin_387, ↓hsg, show ¬ (1 : Int) = 0 by omega, ne_eq, not_false_eq_true, ↓reduceIte]
            rw [show ((m : Int) + 1) = ((m + 1 : Nat) : Int) by omega]
            refine ih (m + 1) (by omega) _ (fun b hb => by rw [zup_ne _ _ _ (by omega), zup_ne _ _ _ (by omega)]; exact hb2 b hb) (by rw [zup_off _ _ (by omega), zup_at]) (zup_at _ _ _ _) (by show 3 * (m + 1) ≤ cen t n (pst t n m) + 1; omega) (by show cen t n (pst t n m) + 1 ≤ n; have := q2.1; omega) (hall _ (fun b b1 b2 => by rw [zup_ne _ _ _ (by omega), zup_ne _ _ _ (by omega)])) g7 g8
          · rw [if_neg q2] at g7 g8
            simp only [if_neg q2] at hsg
            have h9 := hQ (zup N2 218 3 ((m : Int) + 1)) (fun b hb => by rw [zup_ne _ _ _ (by omega)]; exact hb2 b hb) (fun z => by omega)
            rw [← g7] at h9
            simp only [↓e0, ↓e0_0, ↓e0_1, ↓e0_2, ↓e0_5, ↓e0_6, ↓e0_7, ↓e0_10, ↓e0_11, ↓e0_13, ↓e0_15, ↓e0_18, ↓e0_19, ↓e0_20, ↓e0_21, ↓e0_24, ↓e0_27, ↓e0_28, ↓e0_31, ↓e0_32, ↓e0_33, ↓e0_33i, ↓e0_34, ↓e0_37, ↓e0_38, ↓e0_39, ↓e0_42, ↓e0_43, ↓e0_46, ↓e0_47, ↓e0_50, ↓e0_53, ↓e0_54, ↓e0_55, ↓e0_56, ↓e0_57, ↓e0_59, ↓e0_62, ↓e0_65, ↓e0_66, ↓e0_69, ↓e0_70, ↓e0_73, ↓e0_76, ↓e0_77, ↓e0_80, znl_i, znl_r, znl_n, zcs_0, zcs_1, zcs_2, zcs_3, zcat_0, zcat_1, zcat_2, zcat_3, zbl_0, zbl_1, true_and, and_true, ↓zret_some, ↓zret_none, Nat.reduceAdd, Nat.reduceLeDiff, Nat.reduceMul, eq_self, Int.reduceToNat, Int.reduceLE, Int.reduceLT, Int.reduceNeg, and_self, zrg, zkc_0, zin_1, zin_2, zin_3, zin_4, zin_5, zin_6, zin_7, zin_8, zin_9, zaa_9, zkc_10, zin_11, zin_12, zkc_13, zin_14, zin_15, zkc_16, zin_17, zin_18, zkc_19, zin_20, zin_21, zin_22, zin_23, zin_24, zin_25, zin_26, zin_27, zin_28, zaa_28, zkc_29, zin_30, zin_31, zkc_32, zin_33, zin_34, zkc_35, zin_36, zin_37, zkc_38, zin_39, zin_40, zin_41, zin_42, zin_43, zin_44, zin_45, zin_46, zin_47, zaa_47, zkc_48, zin_49, zin_50, zkc_51, zin_52, zin_53, zkc_54, zin_55, zin_56, zkc_209, zkc_210, zin_211, zaa_211, zkc_212, zin_213, zkc_214, zkc_215, zin_216, zin_217, zkc_218, zin_219, zin_220, zin_221, zkc_222, zin_223, zaa_223, zin_224, zin_225, zkc_226, zin_227, zin_228, zin_229, zin_230, zin_231, zin_232, zkc_233, zin_234, zaa_234, zin_235, zin_236, zin_237, zin_238, zin_239, zin_240, zin_241, zin_242, zin_243, zin_244, zin_245, zin_246, zin_247, zin_248, zin_249, zin_250, zkc_251, zin_252, zin_253, zkc_374, zin_375, zin_376, zin_377, zin_378, zin_379, zin_380, zin_381, zin_382, zin_383, zin_384, zin_385, zin_386, zin_387, ↓hsg, ne_eq, not_true_eq_false, ↓reduceIte, ha2]
            exact h9
      · rw [if_neg hok] at g7 g8
        have h9 := hQ N2 (fun b hb => (u2.1 b hb).trans (g1 b hb)) (fun z => by omega)
        rw [← g7] at h9
        simp only [↓e0, ↓e0_0, ↓e0_1, ↓e0_2, ↓e0_5, ↓e0_6, ↓e0_7, ↓e0_10, ↓e0_11, ↓e0_13, ↓e0_15, ↓e0_18, ↓e0_19, ↓e0_20, ↓e0_21, ↓e0_24, ↓e0_27, ↓e0_28, ↓e0_31, ↓e0_32, ↓e0_33, ↓e0_33i, ↓e0_34, ↓e0_37, ↓e0_38, ↓e0_39, ↓e0_42, ↓e0_43, ↓e0_46, ↓e0_47, ↓e0_50, ↓e0_53, ↓e0_54, ↓e0_55, ↓e0_56, ↓e0_57, ↓e0_59, ↓e0_62, ↓e0_65, ↓e0_66, ↓e0_69, ↓e0_70, ↓e0_73, ↓e0_76, ↓e0_77, ↓e0_80, znl_i, znl_r, znl_n, zcs_0, zcs_1, zcs_2, zcs_3, zcat_0, zcat_1, zcat_2, zcat_3, zbl_0, zbl_1, true_and, and_true, ↓zret_some, ↓zret_none, Nat.reduceAdd, Nat.reduceLeDiff, Nat.reduceMul, eq_self, Int.reduceToNat, Int.reduceLE, Int.reduceLT, Int.reduceNeg, and_self, zrg, zkc_0, zin_1, zin_2, zin_3, zin_4, zin_5, zin_6, zin_7, zin_8, zin_9, zaa_9, zkc_10, zin_11, zin_12, zkc_13, zin_14, zin_15, zkc_16, zin_17, zin_18, zkc_19, zin_20, zin_21, zin_22, zin_23, zin_24, zin_25, zin_26, zin_27, zin_28, zaa_28, zkc_29, zin_30, zin_31, zkc_32, zin_33, zin_34, zkc_35, zin_36, zin_37, zkc_38, zin_39, zin_40, zin_41, zin_42, zin_43, zin_44, zin_45, zin_46, zin_47, zaa_47, zkc_48, zin_49, zin_50, zkc_51, zin_52, zin_53, zkc_54, zin_55, zin_56, zkc_209, zkc_210, zin_211, zaa_211, zkc_212, zin_213, zkc_214, zkc_215, zin_216, zin_217, zkc_218, zin_219, zin_220, zin_221, zkc_222, zin_223, zaa_223, zin_224, zin_225, zkc_226, zin_227, zin_228, zin_229, zin_230, zin_231, zin_232, zkc_233, zin_234, zaa_234, zin_235, zin_236, zin_237, zin_238, zin_239, zin_240, zin_241, zin_242, zin_243, zin_244, zin_245, zin_246, zin_247, zin_248, zin_249, zin_250, zkc_251, zin_252, zin_253, zkc_374, zin_375, zin_376, zin_377, zin_378, zin_379, zin_380, zin_381, zin_382, zin_383, zin_384, zin_385, zin_386, zin_387, show zb (cok t n (pst t n m)) = 0 from if_neg hok, ne_eq, not_true_eq_false, ↓reduceIte, u1]
        exact h9
  have h9 := loop 30 0 rfl (zup (zup M 218 3 0) 218 4 0) (fun b hb => by rw [zup_ne _ _ _ (by omega), zup_ne _ _ _ (by omega)]) (by rw [zup_off _ _ (by omega), zup_at]; rfl) (zup_at _ _ _ _) (by show 3 * 0 ≤ 0; omega) (Nat.zero_le n) (fun i hi => absurd hi (Nat.not_lt_zero i)) rfl rfl
  simp only [↓e0, ↓e0_0, ↓e0_1, ↓e0_2, ↓e0_5, ↓e0_6, ↓e0_7, ↓e0_10, ↓e0_11, ↓e0_13, ↓e0_15, ↓e0_18, ↓e0_19, ↓e0_20, ↓e0_21, ↓e0_24, ↓e0_27, ↓e0_28, ↓e0_31, ↓e0_32, ↓e0_33, ↓e0_33i, ↓e0_34, ↓e0_37, ↓e0_38, ↓e0_39, ↓e0_42, ↓e0_43, ↓e0_46, ↓e0_47, ↓e0_50, ↓e0_53, ↓e0_54, ↓e0_55, ↓e0_56, ↓e0_57, ↓e0_59, ↓e0_62, ↓e0_65, ↓e0_66, ↓e0_69, ↓e0_70, ↓e0_73, ↓e0_76, ↓e0_77, ↓e0_80, znl_i, znl_r, znl_n, zcs_0, zcs_1, zcs_2, zcs_3, zcat_0, zcat_1, zcat_2, zcat_3, zbl_0, zbl_1, true_and, and_true, ↓zret_some, ↓zret_none, Nat.reduceAdd, Nat.reduceLeDiff, Nat.reduceMul, eq_self, Int.reduceToNat, Int.reduceLE, Int.reduceLT, Int.reduceNeg, and_self, zrg, zkc_0, zin_1, zin_2, zin_3, zin_4, zin_5, zin_6, zin_7, zin_8, zin_9, zaa_9, zkc_10, zin_11, zin_12, zkc_13, zin_14, zin_15, zkc_16, zin_17, zin_18, zkc_19, zin_20, zin_21, zin_22, zin_23, zin_24, zin_25, zin_26, zin_27, zin_28, zaa_28, zkc_29, zin_30, zin_31, zkc_32, zin_33, zin_34, zkc_35, zin_36, zin_37, zkc_38, zin_39, zin_40, zin_41, zin_42, zin_43, zin_44, zin_45, zin_46, zin_47, zaa_47, zkc_48, zin_49, zin_50, zkc_51, zin_52, zin_53, zkc_54, zin_55, zin_56, zkc_209, zkc_210, zin_211, zaa_211, zkc_212, zin_213, zkc_214, zkc_215, zin_216, zin_217, zkc_218, zin_219, zin_220, zin_221, zkc_222, zin_223, zaa_223, zin_224, zin_225, zkc_226, zin_227, zin_228, zin_229, zin_230, zin_231, zin_232, zkc_233, zin_234, zaa_234, zin_235, zin_236, zin_237, zin_238, zin_239, zin_240, zin_241, zin_242, zin_243, zin_244, zin_245, zin_246, zin_247, zin_248, zin_249, zin_250, zkc_251, zin_252, zin_253, zkc_374, zin_375, zin_376, zin_377, zin_378, zin_379, zin_380, zin_381, zin_382, zin_383, zin_384, zin_385, zin_386, zin_387]
  exact h9
