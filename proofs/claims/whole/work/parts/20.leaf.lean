/-! ### small rows for the evaluation -/
theorem znl_i (x : Int) : znl (some (.inl x)) = True := rfl
theorem znl_r (a : Nat) : znl (some (.inr (.inr a))) = True := rfl
theorem znl_n : znl none = True := rfl
theorem zcs_0 : zcs [] = True := eq_true (by show (0 : Nat) ≤ 8; omega)
theorem zcs_1 (x : Int) (st : List zV) : zcs (.inl x :: st) = (1 + (st.map zcat).sum ≤ 8) := rfl
theorem zcs_2 (a : Nat) (st : List zV) : zcs (.inr (.inr a) :: st) = (1 + (st.map zcat).sum ≤ 8) := rfl
theorem zcs_3 (x : Int) (st : List zV) : zcs (.inr (.inl x) :: st) = (2 + (st.map zcat).sum ≤ 8) := rfl
theorem zcat_1 (x : Int) (st : List zV) : ((Sum.inl x :: st : List zV).map zcat).sum = 1 + (st.map zcat).sum := rfl
theorem zcat_2 (a : Nat) (st : List zV) : ((Sum.inr (Sum.inr a) :: st : List zV).map zcat).sum = 1 + (st.map zcat).sum := rfl
theorem zcat_3 (x : Int) (st : List zV) : ((Sum.inr (Sum.inl x) :: st : List zV).map zcat).sum = 2 + (st.map zcat).sum := rfl
theorem zcat_0 : (([] : List zV).map zcat).sum = 0 := rfl
def zb (c : Prop) [Decidable c] : Int := if c then 1 else 0
theorem zbl_0 : zbl 0 = True := eq_true (Or.inl rfl)
theorem zbl_1 : zbl 1 = True := eq_true (Or.inr rfl)
/-! ### leaves of the class -/
theorem s_isCell (d : Nat) (Q : zQ) (M : zM) (c : Int) (hc : zrg c) : Sp (d + 1) 92 [.inl c] M Q = Q (some (.inl (zb (0 ≤ c ∧ c < 120)))) M := by
  simp only [↓e92, ↓e92_0, ↓e92_1, ↓e92_4, ↓e92_5, ↓e92_7, ↓e92_10, ↓e92_11, ↓e92_14, ↓e92_15, zbl_0, zbl_1, true_and, zrg, zb] at hc ⊢
  grind
theorem s_isShape (d : Nat) (Q : zQ) (M : zM) (c : Int) (hc : zrg c) : Sp (d + 1) 93 [.inl c] M Q = Q (some (.inl (zb (0 ≤ c ∧ c < 3)))) M := by
  simp only [↓e93, ↓e93_0, ↓e93_1, ↓e93_4, ↓e93_5, ↓e93_6, ↓e93_9, ↓e93_10, ↓e93_13, ↓e93_14, zbl_0, zbl_1, true_and, zrg, zb] at hc ⊢
  grind
theorem s_isByte (d : Nat) (Q : zQ) (M : zM) (c : Int) (hc : zrg c) : Sp (d + 1) 94 [.inl c] M Q = Q (some (.inl (zb (0 ≤ c ∧ c ≤ 127)))) M := by
  simp only [↓e94, ↓e94_0, ↓e94_1, ↓e94_4, ↓e94_5, ↓e94_7, ↓e94_10, ↓e94_11, ↓e94_14, ↓e94_15, zbl_0, zbl_1, true_and, zrg, zb] at hc ⊢
  grind
theorem s_cellAt (d : Nat) (Q : zQ) (M : zM) (x y : Int) (hx : zrg x) (hy : zrg y) : Sp (d + 1) 95 [.inl x, .inl y] M Q = Q (some (.inl (if 0 ≤ x ∧ x < 12 ∧ 0 ≤ y ∧ y < 10 then 12 * y + x else -5))) M := by
  simp only [↓e95, ↓e95_0, ↓e95_1, ↓e95_4, ↓e95_5, ↓e95_7, ↓e95_10, ↓e95_11, ↓e95_14, ↓e95_15, ↓e95_17, ↓e95_20, ↓e95_21, ↓e95_24, ↓e95_25, ↓e95_26, ↓e95_27, ↓e95_30, ↓e95_32, ↓e95_33, ↓e95_34, ↓e95_35, ↓e95_36, ↓e95_39, ↓e95_41, znl_i, zbl_0, zbl_1, true_and, zrg] at hx hy ⊢
  grind
theorem s_neighbor (d : Nat) (Q : zQ) (M : zM) (c k : Int) (hc : 0 ≤ c) (hc2 : c < 120) (hk : 0 ≤ k) (hk2 : k < 4) : Sp (d + 1) 96 [.inl c, .inl k] M Q = Q (some (.inl (if k = 0 then (if c % 12 + 1 < 12 then c + 1 else -5) else if k = 1 then (if c / 12 + 1 < 10 then c + 12 else -5) else if k = 2 then (if c % 12 > 0 then c - 1 else -5) else (if c / 12 > 0 then c - 12 else -5)))) M := by
  simp only [↓e96, ↓e96_0, ↓e96_1, ↓e96_28, ↓e96_29, ↓e96_31, ↓e96_32, ↓e96_33, ↓e96_34, ↓e96_36, ↓e96_39, ↓e96_40, ↓e96_41, ↓e96_42, ↓e96_45, ↓e96_47, ↓e96_48, ↓e96_49, ↓e96_51, ↓e96_52, ↓e96_53, ↓e96_54, ↓e96_56, ↓e96_59, ↓e96_60, ↓e96_62, ↓e96_63, ↓e96_66, ↓e96_68, ↓e96_69, ↓e96_70, ↓e96_72, ↓e96_73, ↓e96_76, ↓e96_77, ↓e96_78, ↓e96_79, ↓e96_82, ↓e96_84, ↓e96_85, ↓e96_86, ↓e96_88, ↓e96_89, ↓e96_92, ↓e96_93, ↓e96_95, ↓e96_96, ↓e96_99, ↓e96_101, znl_i, zbl_0, zbl_1, true_and, zrg]
  grind
