/-! ### all that lasts between calls: the abstract state X: 0 the present world, 1 to 8 the worlds kept, 9 the snapshot, 10 (row 0: how many are kept, whether there is a snapshot, the tape's length, the reason of the last refusal or 0, its command; row 1: the tape) -/
abbrev zX : Type := Nat → zM
def Wb (B : Int) (S : zM) : Prop := WfS S ∧ S 7 6 = sumW S 120 ∧ Bw S B
def WX (B : Int) (X : zX) : Prop := Wb B (X 0) ∧ (0 ≤ X 10 0 0 ∧ X 10 0 0 ≤ 8) ∧ (∀ k : Nat, 1 ≤ k → (k : Int) ≤ X 10 0 0 → Wb B (X k)) ∧ (X 10 0 1 = 0 ∨ X 10 0 1 = 1) ∧ (X 10 0 1 = 1 → Wb B (X 9)) ∧ (0 ≤ X 10 0 2 ∧ X 10 0 2 ≤ 60) ∧ (∀ j : Nat, (j : Int) < X 10 0 2 → 0 ≤ X 10 1 j ∧ X 10 1 j ≤ 127) ∧ (0 ≤ X 10 0 3 ∧ X 10 0 3 ≤ 6)
def PastC (M : zM) (X : zX) : Prop := ∃ nx : Nat, nx < 8 ∧ M 210 2 = nx ∧ M 210 0 = X 10 0 0 ∧ ∀ k : Nat, 1 ≤ k → (k : Int) ≤ X 10 0 0 → RelC M (57 + 19 * ((nx + 7 + k - (X 10 0 0).toNat) % 8)) (X k)
def RestC (M : zM) (X : zX) : Prop := M 209 3 = X 10 0 1 ∧ (X 10 0 1 = 1 → RelC M 38 (X 9)) ∧ M 212 0 = X 10 0 2 ∧ (∀ j : Nat, (j : Int) < X 10 0 2 → M 213 j = X 10 1 j) ∧ M 209 11 = (if X 10 0 3 = 0 then -5 else X 10 0 3) ∧ M 209 12 = (if X 10 0 3 = 0 then -5 else X 10 0 4)
def IC (X : zX) (M : zM) : Prop := RelC M 0 (X 0) ∧ Wv M (X 0 0) ∧ PastC M X ∧ RestC M X
def RelR' (M : zM) (o : Nat) (S : zM) : Prop := RelR M o S ∧ M 375 (o + 9) = S 7 5
def IR (X : zX) (M : zM) : Prop := RelR' M 0 (X 0) ∧ M 374 1 = X 10 0 0 ∧ (∀ k : Nat, 1 ≤ k → (k : Int) ≤ X 10 0 0 → RelR' M (258 * k) (X k)) ∧ M 374 2 = X 10 0 1 ∧ (X 10 0 1 = 1 → RelR' M 2322 (X 9)) ∧ M 374 15 = X 10 0 2 ∧ (∀ j : Nat, (j : Int) < X 10 0 2 → M 385 j = X 10 1 j) ∧ M 374 21 = X 10 0 3 ∧ (X 10 0 3 ≠ 0 → M 374 22 = X 10 0 4)
theorem RelC_cong {M N S : zM} {a : Nat} (h : ∀ b, a ≤ b → b < a + 19 → N b = M b) (hR : RelC M a S) : RelC N a S := by
  unfold RelC at *
  obtain ⟨r1, r2, r3, r4, r5, r6, r7, r8, r9, r10, r11, r12⟩ := hR
  rw [h a (by omega) (by omega), h (a + 1) (by omega) (by omega), h (a + 2) (by omega) (by omega), h (a + 3) (by omega) (by omega), h (a + 4) (by omega) (by omega), h (a + 5) (by omega) (by omega), h (a + 6) (by omega) (by omega), h (a + 7) (by omega) (by omega), h (a + 8) (by omega) (by omega)]
  refine ⟨r1, r2, r3, r4, r5, r6, r7, r8, r9, r10, r11, fun j hj => ?_⟩
  rw [h (a + 10 + 3 * j) (by omega) (by omega), h (a + 11 + 3 * j) (by omega) (by omega), h (a + 12 + 3 * j) (by omega) (by omega)]
  exact r12 j hj
theorem RelR_shift {M N S : zM} {o p : Nat} (hW : WfS S) (h : ∀ j, j < 258 → N 375 (p + j) = M 375 (o + j)) (hR : RelR M o S) : RelR N p S := by
  obtain ⟨⟨a1, a2, a3, a4⟩, r2, r3, r4, r5⟩ := hR
  have h0 : N 375 p = M 375 o := h 0 (by omega)
  refine ⟨⟨h0.trans a1, (h 1 (by omega)).trans a2, (h 2 (by omega)).trans a3, (h 3 (by omega)).trans a4⟩, fun k hk k5 k6 => ?_, fun m hm hl => ?_, fun c hc => ?_, fun j hj => ?_⟩
  · have := h (4 + k) (by omega)
    rw [show p + 4 + k = p + (4 + k) by omega, this, show o + (4 + k) = o + 4 + k by omega]
    exact r2 k hk k5 k6
  · obtain ⟨q1, q2, q3, q4, q5, q6⟩ := r3 m hm hl
    refine ⟨?_, ?_, ?_, ?_, ?_, ?_⟩
    · rw [show p + 12 + 6 * m = p + (12 + 6 * m) by omega, h _ (by omega), ← q1]; congr 1; omega
    · rw [show p + 12 + 6 * m + 1 = p + (12 + 6 * m + 1) by omega, h _ (by omega), ← q2]; congr 1; omega
    · rw [show p + 12 + 6 * m + 2 = p + (12 + 6 * m + 2) by omega, h _ (by omega), ← q3]; congr 1; omega
    · rw [show p + 12 + 6 * m + 3 = p + (12 + 6 * m + 3) by omega, h _ (by omega), ← q4]; congr 1; omega
    · rw [show p + 12 + 6 * m + 4 = p + (12 + 6 * m + 4) by omega, h _ (by omega), ← q5]; congr 1; omega
    · rw [show p + 12 + 6 * m + 5 = p + (12 + 6 * m + 5) by omega, h _ (by omega), ← q6]; congr 1; omega
  · rw [show p + 72 + c = p + (72 + c) by omega, h _ (by omega), ← r4 c hc]; congr 1; omega
  · obtain ⟨q1, q2, q3⟩ := r5 j hj
    refine ⟨?_, fun w => ?_, fun s hs => ?_⟩
    · rw [show p + 192 + 22 * j = p + (192 + 22 * j) by omega, h _ (by omega), ← q1]; congr 1; omega
    · rw [show p + 193 + 22 * j = p + (193 + 22 * j) by omega, h _ (by omega), ← q2 w]; congr 1; omega
    · have h10 := (hW.2.2.2.2.2.2.2.2.2 j hj).2.1
      obtain ⟨w1, w2⟩ := q3 s hs
      refine ⟨?_, ?_⟩
      · rw [show p + 194 + 22 * j + 2 * s = p + (194 + 22 * j + 2 * s) by omega, h _ (by omega), ← w1]; congr 1; omega
      · rw [show p + 195 + 22 * j + 2 * s = p + (195 + 22 * j + 2 * s) by omega, h _ (by omega), ← w2]; congr 1; omega
theorem RelR'_shift {M N S : zM} {o p : Nat} (hW : WfS S) (h : ∀ j, j < 258 → N 375 (p + j) = M 375 (o + j)) (hR : RelR' M o S) : RelR' N p S :=
  ⟨RelR_shift hW h hR.1, (h 9 (by omega)).trans hR.2⟩
theorem Wb_mono {B C : Int} {S : zM} (h : B ≤ C) (hW : Wb B S) : Wb C S := ⟨hW.1, hW.2.1, fun m hm => ⟨(hW.2.2 m hm).1, by have := (hW.2.2 m hm).2; omega⟩⟩
theorem WX_mono {B C : Int} {X : zX} (h : B ≤ C) (hX : WX B X) : WX C X := by
  obtain ⟨h1, h2, h3, h4, h5, h6⟩ := hX
  exact ⟨Wb_mono h h1, h2, fun k k1 k2 => Wb_mono h (h3 k k1 k2), h4, fun z => Wb_mono h (h5 z), h6⟩
theorem IC_cong {X : zX} {M N : zM} (h : ∀ b, b < 374 → N b = M b) (hC : IC X M) : IC X N := by
  obtain ⟨h1, h2, ⟨nx, p1, p2, p3, p4⟩, q1, q2, q3, q4, q5, q6⟩ := hC
  refine ⟨RelC_congr (fun b hb => h b (by omega)) h1, fun x hx => ?_, ⟨nx, p1, ?_, ?_, fun k k1 k2 => RelC_cong (fun b b1 b2 => h b (by omega)) (p4 k k1 k2)⟩, ?_, fun z => RelC_cong (fun b b1 b2 => h b (by omega)) (q2 z), ?_, fun j hj => ?_, ?_, ?_⟩
  · rw [h 224 (by omega), h (254 + x) (by omega)]; exact h2 x hx
  · rw [h 210 (by omega)]; exact p2
  · rw [h 210 (by omega)]; exact p3
  · rw [h 209 (by omega)]; exact q1
  · rw [h 212 (by omega)]; exact q3
  · rw [h 213 (by omega)]; exact q4 j hj
  · rw [h 209 (by omega)]; exact q5
  · rw [h 209 (by omega)]; exact q6
theorem IR_cong {X : zX} {M N : zM} (h : ∀ b, 374 ≤ b → N b = M b) (hI : IR X M) : IR X N := by
  unfold IR RelR' RelR at *
  rw [h 374 (by omega), h 375 (by omega), h 385 (by omega)]
  exact hI
/-- another present world -/
def setX (X : zX) (S : zM) : zX := fun k => if k = 0 then S else X k
theorem setX_0 (X : zX) (S : zM) : setX X S 0 = S := rfl
theorem setX_ne (X : zX) (S : zM) {k : Nat} (h : k ≠ 0) : setX X S k = X k := if_neg h
theorem WX_set {B : Int} {X : zX} {S : zM} (hX : WX B X) (hS : Wb B S) : WX B (setX X S) := by
  obtain ⟨h1, h2, h3, h4, h5, h6⟩ := hX
  refine ⟨hS, ?_⟩
  rw [setX_ne X S (show 10 ≠ 0 by omega), setX_ne X S (show 9 ≠ 0 by omega)]
  exact ⟨h2, fun k k1 k2 => by rw [setX_ne X S (by omega)]; exact h3 k k1 k2, h4, h5, h6⟩
theorem IC_set {X : zX} {S M N : zM} (hC : IC X M) (hR : RelC N 0 S) (hV : Wv N (S 0)) (h : ∀ b, 38 ≤ b → b < 214 → N b = M b) : IC (setX X S) N := by
  obtain ⟨h1, h2, ⟨nx, p1, p2, p3, p4⟩, q1, q2, q3, q4, q5, q6⟩ := hC
  refine ⟨hR, hV, ?_⟩
  unfold PastC RestC
  rw [setX_ne X S (show 10 ≠ 0 by omega), setX_ne X S (show 9 ≠ 0 by omega), h 209 (by omega) (by omega), h 210 (by omega) (by omega), h 212 (by omega) (by omega), h 213 (by omega) (by omega)]
  exact ⟨⟨nx, p1, p2, p3, fun k k1 k2 => by rw [setX_ne X S (by omega)]; exact RelC_cong (fun b b1 b2 => h b (by omega) (by omega)) (p4 k k1 k2)⟩, q1, fun z => RelC_cong (fun b b1 b2 => h b (by omega) (by omega)) (q2 z), q3, q4, q5, q6⟩
theorem IR_set {B : Int} {X : zX} {S M N : zM} (hX : WX B X) (hI : IR X M) (hR : RelR' N 0 S) (h5 : ∀ j, 258 ≤ j → j < 2580 → N 375 j = M 375 j) (h4 : ∀ j, j = 1 ∨ j = 2 ∨ j = 15 ∨ j = 21 ∨ j = 22 → N 374 j = M 374 j) (h3 : N 385 = M 385) : IR (setX X S) N := by
  obtain ⟨h1, i2, i3, i4, i5, i6, i7, i8, i9⟩ := hI
  obtain ⟨w1, w2, w3, w4, w5, w6⟩ := hX
  unfold IR
  rw [setX_ne X S (show 10 ≠ 0 by omega), setX_ne X S (show 9 ≠ 0 by omega), h4 1 (by omega), h4 2 (by omega), h4 15 (by omega), h4 21 (by omega), h4 22 (by omega), h3]
  exact ⟨hR, i2, fun k k1 k2 => by rw [setX_ne X S (by omega)]; exact RelR'_shift (w3 k k1 k2).1 (fun j hj => h5 _ (by omega) (by omega)) (i3 k k1 k2), i4, fun z => RelR'_shift (w5 z).1 (fun j hj => h5 _ (by omega) (by omega)) (i5 z), i6, i7, i8, i9⟩
/-- a world more is kept -/
def push (X : zX) (T : zM) : zX := fun k => if X 10 0 0 = 8 then (if 1 ≤ k ∧ k ≤ 7 then X (k + 1) else if k = 8 then T else X k) else (if k = (X 10 0 0).toNat + 1 then T else if k = 10 then zup (X 10) 0 0 (X 10 0 0 + 1) else X k)
theorem push_0 (X : zX) (T : zM) : push X T 0 = X 0 := by unfold push; split <;> rfl
theorem push_9 {X : zX} (T : zM) (h : 0 ≤ X 10 0 0 ∧ X 10 0 0 ≤ 8) : push X T 9 = X 9 := by
  unfold push
  split
  · rfl
  · rw [if_neg (by omega)]; rfl
theorem push_10 {X : zX} (T : zM) (h : 0 ≤ X 10 0 0 ∧ X 10 0 0 ≤ 8) : push X T 10 = if X 10 0 0 = 8 then X 10 else zup (X 10) 0 0 (X 10 0 0 + 1) := by
  unfold push
  split
  · rfl
  · rw [if_neg (by omega)]; rfl
theorem push_n {X : zX} (T : zM) (h : 0 ≤ X 10 0 0 ∧ X 10 0 0 ≤ 8) : push X T 10 0 0 = if X 10 0 0 = 8 then 8 else X 10 0 0 + 1 := by
  rw [push_10 T h]
  split
  · rename_i h; exact h
  · exact zup_at _ _ _ _
theorem push_o {X : zX} (T : zM) (h : 0 ≤ X 10 0 0 ∧ X 10 0 0 ≤ 8) {b j : Nat} (hb : b ≠ 0 ∨ j ≠ 0) : push X T 10 b j = X 10 b j := by
  rw [push_10 T h]
  split
  · rfl
  · exact zup_off _ _ hb
theorem push_k {X : zX} (T : zM) (h : 0 ≤ X 10 0 0 ∧ X 10 0 0 ≤ 8) {k : Nat} (k1 : 1 ≤ k) (k2 : (k : Int) ≤ push X T 10 0 0) : push X T k = if (k : Int) = push X T 10 0 0 then T else if X 10 0 0 = 8 then X (k + 1) else X k := by
  rw [push_n T h] at k2 ⊢
  unfold push
  by_cases a : X 10 0 0 = 8
  · simp only [if_pos a] at k2 ⊢
    by_cases z : k ≤ 7
    · rw [if_pos ⟨k1, z⟩, if_neg (by omega)]
    · rw [if_neg (fun y => z y.2), if_pos (by omega), if_pos (by omega)]
  · simp only [if_neg a] at k2 ⊢
    by_cases z : k = (X 10 0 0).toNat + 1
    · rw [if_pos z, if_pos (by omega)]
    · rw [if_neg z, if_neg (by omega), if_neg (by omega)]
theorem WX_push {B : Int} {X : zX} {T : zM} (hX : WX B X) (hT : Wb B T) : WX B (push X T) := by
  obtain ⟨h1, h2, h3, h4, h5, h6, h7, h8⟩ := hX
  unfold WX
  rw [push_0, push_9 T h2, push_o T h2 (show (0 : Nat) ≠ 0 ∨ 1 ≠ 0 by omega), push_o T h2 (show (0 : Nat) ≠ 0 ∨ 2 ≠ 0 by omega), push_o T h2 (show (0 : Nat) ≠ 0 ∨ 3 ≠ 0 by omega)]
  refine ⟨h1, ?_, fun k k1 k2 => ?_, h4, h5, h6, fun j hj => ?_, h8⟩
  · rw [push_n T h2]; split <;> omega
  · rw [push_k T h2 k1 k2]
    rw [push_n T h2] at k2 ⊢
    by_cases a : X 10 0 0 = 8
    · simp only [if_pos a] at k2 ⊢
      by_cases z : (k : Int) = 8
      · rw [if_pos z]; exact hT
      · rw [if_neg z]; exact h3 (k + 1) (by omega) (by omega)
    · simp only [if_neg a] at k2 ⊢
      by_cases z : (k : Int) = X 10 0 0 + 1
      · rw [if_pos z]; exact hT
      · rw [if_neg z]; exact h3 k k1 (by omega)
  · rw [push_o T h2 (Or.inl (by omega))]
    exact h7 j hj
