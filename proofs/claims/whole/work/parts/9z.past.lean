/-! ### the past's cells -/
def pW (ca : Nat → ClassId) (w : va_W) : Prop := ∃ h : Nat, pst9 ca h w
theorem pst9_len {ca : Nat → ClassId} {h : Nat} {w : va_W} (hw : pst9 ca h w) : w.length = 19 := by
  obtain ⟨q0, q1, q2, q3, q4, q5, q6, q7, q8, q9, q10, q11, q12, q13, q14, q15, q16, q17, rfl⟩ := hw
  rfl
theorem pst9_head {ca : Nat → ClassId} {h : Nat} {w : va_W} (hw : pst9 ca h w) : zfa w 0 = h := by
  obtain ⟨q0, q1, q2, q3, q4, q5, q6, q7, q8, q9, q10, q11, q12, q13, q14, q15, q16, q17, rfl⟩ := hw
  rfl
theorem pst9_mk (ca : Nat → ClassId) (h q0 q1 q2 q3 q4 q5 q6 q7 q8 q9 q10 q11 q12 q13 q14 q15 q16 q17 : Nat) : pst9 ca h (blk9 ca h q0 q1 q2 q3 q4 q5 q6 q7 q8 q9 q10 q11 q12 q13 q14 q15 q16 q17) := ⟨_, _, _, _, _, _, _, _, _, _, _, _, _, _, _, _, _, _, rfl⟩
def pstP (ca : Nat → ClassId) (h : Nat) (w : va_W) : Prop := ∃ (q0 q1 q2 q3 q4 q5 q6 q7 q8 : Nat) (r1 r2 r3 r4 r5 r6 r7 r8 : va_W), w = (h, .inr (3, [.int (Int32.ofInt 0), .ref q0, .int (Int32.ofInt 0)])) :: (q0, .inl (ca 6, 8, .inr (.inr (.inr (.inr (va_up (va_up (va_up (va_up (va_up (va_up (va_up (va_up (fun _ => none) 0 (some q1)) 1 (some q2)) 2 (some q3)) 3 (some q4)) 4 (some q5)) 5 (some q6)) 6 (some q7)) 7 (some q8))))))) :: (((((((r1 ++ r2) ++ r3) ++ r4) ++ r5) ++ r6) ++ r7) ++ r8) ∧ pst9 ca q1 r1 ∧ pst9 ca q2 r2 ∧ pst9 ca q3 r3 ∧ pst9 ca q4 r4 ∧ pst9 ca q5 r5 ∧ pst9 ca q6 r6 ∧ pst9 ca q7 r7 ∧ pst9 ca q8 r8
theorem pst9_pk {ca : Nat → ClassId} (h : Nat) (P : va_W → Prop) (x : ∃ q0 q1 q2 q3 q4 q5 q6 q7 q8 q9 q10 q11 q12 q13 q14 q15 q16 q17 : Nat, P (blk9 ca h q0 q1 q2 q3 q4 q5 q6 q7 q8 q9 q10 q11 q12 q13 q14 q15 q16 q17)) : ∃ r : va_W, pst9 ca h r ∧ P r := by
  obtain ⟨q0, q1, q2, q3, q4, q5, q6, q7, q8, q9, q10, q11, q12, q13, q14, q15, q16, q17, x⟩ := x
  exact ⟨_, pst9_mk ca h q0 q1 q2 q3 q4 q5 q6 q7 q8 q9 q10 q11 q12 q13 q14 q15 q16 q17, x⟩
set_option maxRecDepth 100000 in
set_option maxHeartbeats 400000 in
theorem pst3_P {ca : Nat → ClassId} {h : Nat} {w : va_W} (hw : pst3 ca h w) : pstP ca h w := by
  unfold pst3 blk3 at hw
  obtain ⟨q0, q1, hw⟩ := hw
  obtain ⟨r1, s1, hw⟩ := pst9_pk (ca := ca) q1 (fun r1 => ∃ q2 q2_0 q2_1 q2_2 q2_3 q2_4 q2_5 q2_6 q2_7 q2_8 q2_9 q2_10 q2_11 q2_12 q2_13 q2_14 q2_15 q2_16 q2_17 q3 q3_0 q3_1 q3_2 q3_3 q3_4 q3_5 q3_6 q3_7 q3_8 q3_9 q3_10 q3_11 q3_12 q3_13 q3_14 q3_15 q3_16 q3_17 q4 q4_0 q4_1 q4_2 q4_3 q4_4 q4_5 q4_6 q4_7 q4_8 q4_9 q4_10 q4_11 q4_12 q4_13 q4_14 q4_15 q4_16 q4_17 q5 q5_0 q5_1 q5_2 q5_3 q5_4 q5_5 q5_6 q5_7 q5_8 q5_9 q5_10 q5_11 q5_12 q5_13 q5_14 q5_15 q5_16 q5_17 q6 q6_0 q6_1 q6_2 q6_3 q6_4 q6_5 q6_6 q6_7 q6_8 q6_9 q6_10 q6_11 q6_12 q6_13 q6_14 q6_15 q6_16 q6_17 q7 q7_0 q7_1 q7_2 q7_3 q7_4 q7_5 q7_6 q7_7 q7_8 q7_9 q7_10 q7_11 q7_12 q7_13 q7_14 q7_15 q7_16 q7_17 q8 q8_0 q8_1 q8_2 q8_3 q8_4 q8_5 q8_6 q8_7 q8_8 q8_9 q8_10 q8_11 q8_12 q8_13 q8_14 q8_15 q8_16 q8_17 : Nat, w = (h, .inr (3, [.int (Int32.ofInt 0), .ref q0, .int (Int32.ofInt 0)])) :: (q0, .inl (ca 6, 8, .inr (.inr (.inr (.inr (va_up (va_up (va_up (va_up (va_up (va_up (va_up (va_up (fun _ => none) 0 (some q1)) 1 (some q2)) 2 (some q3)) 3 (some q4)) 4 (some q5)) 5 (some q6)) 6 (some q7)) 7 (some q8))))))) :: (((((((r1 ++ blk9 ca q2 q2_0 q2_1 q2_2 q2_3 q2_4 q2_5 q2_6 q2_7 q2_8 q2_9 q2_10 q2_11 q2_12 q2_13 q2_14 q2_15 q2_16 q2_17) ++ blk9 ca q3 q3_0 q3_1 q3_2 q3_3 q3_4 q3_5 q3_6 q3_7 q3_8 q3_9 q3_10 q3_11 q3_12 q3_13 q3_14 q3_15 q3_16 q3_17) ++ blk9 ca q4 q4_0 q4_1 q4_2 q4_3 q4_4 q4_5 q4_6 q4_7 q4_8 q4_9 q4_10 q4_11 q4_12 q4_13 q4_14 q4_15 q4_16 q4_17) ++ blk9 ca q5 q5_0 q5_1 q5_2 q5_3 q5_4 q5_5 q5_6 q5_7 q5_8 q5_9 q5_10 q5_11 q5_12 q5_13 q5_14 q5_15 q5_16 q5_17) ++ blk9 ca q6 q6_0 q6_1 q6_2 q6_3 q6_4 q6_5 q6_6 q6_7 q6_8 q6_9 q6_10 q6_11 q6_12 q6_13 q6_14 q6_15 q6_16 q6_17) ++ blk9 ca q7 q7_0 q7_1 q7_2 q7_3 q7_4 q7_5 q7_6 q7_7 q7_8 q7_9 q7_10 q7_11 q7_12 q7_13 q7_14 q7_15 q7_16 q7_17) ++ blk9 ca q8 q8_0 q8_1 q8_2 q8_3 q8_4 q8_5 q8_6 q8_7 q8_8 q8_9 q8_10 q8_11 q8_12 q8_13 q8_14 q8_15 q8_16 q8_17)) hw
  obtain ⟨q2, hw⟩ := hw
  obtain ⟨r2, s2, hw⟩ := pst9_pk (ca := ca) q2 (fun r2 => ∃ q3 q3_0 q3_1 q3_2 q3_3 q3_4 q3_5 q3_6 q3_7 q3_8 q3_9 q3_10 q3_11 q3_12 q3_13 q3_14 q3_15 q3_16 q3_17 q4 q4_0 q4_1 q4_2 q4_3 q4_4 q4_5 q4_6 q4_7 q4_8 q4_9 q4_10 q4_11 q4_12 q4_13 q4_14 q4_15 q4_16 q4_17 q5 q5_0 q5_1 q5_2 q5_3 q5_4 q5_5 q5_6 q5_7 q5_8 q5_9 q5_10 q5_11 q5_12 q5_13 q5_14 q5_15 q5_16 q5_17 q6 q6_0 q6_1 q6_2 q6_3 q6_4 q6_5 q6_6 q6_7 q6_8 q6_9 q6_10 q6_11 q6_12 q6_13 q6_14 q6_15 q6_16 q6_17 q7 q7_0 q7_1 q7_2 q7_3 q7_4 q7_5 q7_6 q7_7 q7_8 q7_9 q7_10 q7_11 q7_12 q7_13 q7_14 q7_15 q7_16 q7_17 q8 q8_0 q8_1 q8_2 q8_3 q8_4 q8_5 q8_6 q8_7 q8_8 q8_9 q8_10 q8_11 q8_12 q8_13 q8_14 q8_15 q8_16 q8_17 : Nat, w = (h, .inr (3, [.int (Int32.ofInt 0), .ref q0, .int (Int32.ofInt 0)])) :: (q0, .inl (ca 6, 8, .inr (.inr (.inr (.inr (va_up (va_up (va_up (va_up (va_up (va_up (va_up (va_up (fun _ => none) 0 (some q1)) 1 (some q2)) 2 (some q3)) 3 (some q4)) 4 (some q5)) 5 (some q6)) 6 (some q7)) 7 (some q8))))))) :: (((((((r1 ++ r2) ++ blk9 ca q3 q3_0 q3_1 q3_2 q3_3 q3_4 q3_5 q3_6 q3_7 q3_8 q3_9 q3_10 q3_11 q3_12 q3_13 q3_14 q3_15 q3_16 q3_17) ++ blk9 ca q4 q4_0 q4_1 q4_2 q4_3 q4_4 q4_5 q4_6 q4_7 q4_8 q4_9 q4_10 q4_11 q4_12 q4_13 q4_14 q4_15 q4_16 q4_17) ++ blk9 ca q5 q5_0 q5_1 q5_2 q5_3 q5_4 q5_5 q5_6 q5_7 q5_8 q5_9 q5_10 q5_11 q5_12 q5_13 q5_14 q5_15 q5_16 q5_17) ++ blk9 ca q6 q6_0 q6_1 q6_2 q6_3 q6_4 q6_5 q6_6 q6_7 q6_8 q6_9 q6_10 q6_11 q6_12 q6_13 q6_14 q6_15 q6_16 q6_17) ++ blk9 ca q7 q7_0 q7_1 q7_2 q7_3 q7_4 q7_5 q7_6 q7_7 q7_8 q7_9 q7_10 q7_11 q7_12 q7_13 q7_14 q7_15 q7_16 q7_17) ++ blk9 ca q8 q8_0 q8_1 q8_2 q8_3 q8_4 q8_5 q8_6 q8_7 q8_8 q8_9 q8_10 q8_11 q8_12 q8_13 q8_14 q8_15 q8_16 q8_17)) hw
  obtain ⟨q3, hw⟩ := hw
  obtain ⟨r3, s3, hw⟩ := pst9_pk (ca := ca) q3 (fun r3 => ∃ q4 q4_0 q4_1 q4_2 q4_3 q4_4 q4_5 q4_6 q4_7 q4_8 q4_9 q4_10 q4_11 q4_12 q4_13 q4_14 q4_15 q4_16 q4_17 q5 q5_0 q5_1 q5_2 q5_3 q5_4 q5_5 q5_6 q5_7 q5_8 q5_9 q5_10 q5_11 q5_12 q5_13 q5_14 q5_15 q5_16 q5_17 q6 q6_0 q6_1 q6_2 q6_3 q6_4 q6_5 q6_6 q6_7 q6_8 q6_9 q6_10 q6_11 q6_12 q6_13 q6_14 q6_15 q6_16 q6_17 q7 q7_0 q7_1 q7_2 q7_3 q7_4 q7_5 q7_6 q7_7 q7_8 q7_9 q7_10 q7_11 q7_12 q7_13 q7_14 q7_15 q7_16 q7_17 q8 q8_0 q8_1 q8_2 q8_3 q8_4 q8_5 q8_6 q8_7 q8_8 q8_9 q8_10 q8_11 q8_12 q8_13 q8_14 q8_15 q8_16 q8_17 : Nat, w = (h, .inr (3, [.int (Int32.ofInt 0), .ref q0, .int (Int32.ofInt 0)])) :: (q0, .inl (ca 6, 8, .inr (.inr (.inr (.inr (va_up (va_up (va_up (va_up (va_up (va_up (va_up (va_up (fun _ => none) 0 (some q1)) 1 (some q2)) 2 (some q3)) 3 (some q4)) 4 (some q5)) 5 (some q6)) 6 (some q7)) 7 (some q8))))))) :: (((((((r1 ++ r2) ++ r3) ++ blk9 ca q4 q4_0 q4_1 q4_2 q4_3 q4_4 q4_5 q4_6 q4_7 q4_8 q4_9 q4_10 q4_11 q4_12 q4_13 q4_14 q4_15 q4_16 q4_17) ++ blk9 ca q5 q5_0 q5_1 q5_2 q5_3 q5_4 q5_5 q5_6 q5_7 q5_8 q5_9 q5_10 q5_11 q5_12 q5_13 q5_14 q5_15 q5_16 q5_17) ++ blk9 ca q6 q6_0 q6_1 q6_2 q6_3 q6_4 q6_5 q6_6 q6_7 q6_8 q6_9 q6_10 q6_11 q6_12 q6_13 q6_14 q6_15 q6_16 q6_17) ++ blk9 ca q7 q7_0 q7_1 q7_2 q7_3 q7_4 q7_5 q7_6 q7_7 q7_8 q7_9 q7_10 q7_11 q7_12 q7_13 q7_14 q7_15 q7_16 q7_17) ++ blk9 ca q8 q8_0 q8_1 q8_2 q8_3 q8_4 q8_5 q8_6 q8_7 q8_8 q8_9 q8_10 q8_11 q8_12 q8_13 q8_14 q8_15 q8_16 q8_17)) hw
  obtain ⟨q4, hw⟩ := hw
  obtain ⟨r4, s4, hw⟩ := pst9_pk (ca := ca) q4 (fun r4 => ∃ q5 q5_0 q5_1 q5_2 q5_3 q5_4 q5_5 q5_6 q5_7 q5_8 q5_9 q5_10 q5_11 q5_12 q5_13 q5_14 q5_15 q5_16 q5_17 q6 q6_0 q6_1 q6_2 q6_3 q6_4 q6_5 q6_6 q6_7 q6_8 q6_9 q6_10 q6_11 q6_12 q6_13 q6_14 q6_15 q6_16 q6_17 q7 q7_0 q7_1 q7_2 q7_3 q7_4 q7_5 q7_6 q7_7 q7_8 q7_9 q7_10 q7_11 q7_12 q7_13 q7_14 q7_15 q7_16 q7_17 q8 q8_0 q8_1 q8_2 q8_3 q8_4 q8_5 q8_6 q8_7 q8_8 q8_9 q8_10 q8_11 q8_12 q8_13 q8_14 q8_15 q8_16 q8_17 : Nat, w = (h, .inr (3, [.int (Int32.ofInt 0), .ref q0, .int (Int32.ofInt 0)])) :: (q0, .inl (ca 6, 8, .inr (.inr (.inr (.inr (va_up (va_up (va_up (va_up (va_up (va_up (va_up (va_up (fun _ => none) 0 (some q1)) 1 (some q2)) 2 (some q3)) 3 (some q4)) 4 (some q5)) 5 (some q6)) 6 (some q7)) 7 (some q8))))))) :: (((((((r1 ++ r2) ++ r3) ++ r4) ++ blk9 ca q5 q5_0 q5_1 q5_2 q5_3 q5_4 q5_5 q5_6 q5_7 q5_8 q5_9 q5_10 q5_11 q5_12 q5_13 q5_14 q5_15 q5_16 q5_17) ++ blk9 ca q6 q6_0 q6_1 q6_2 q6_3 q6_4 q6_5 q6_6 q6_7 q6_8 q6_9 q6_10 q6_11 q6_12 q6_13 q6_14 q6_15 q6_16 q6_17) ++ blk9 ca q7 q7_0 q7_1 q7_2 q7_3 q7_4 q7_5 q7_6 q7_7 q7_8 q7_9 q7_10 q7_11 q7_12 q7_13 q7_14 q7_15 q7_16 q7_17) ++ blk9 ca q8 q8_0 q8_1 q8_2 q8_3 q8_4 q8_5 q8_6 q8_7 q8_8 q8_9 q8_10 q8_11 q8_12 q8_13 q8_14 q8_15 q8_16 q8_17)) hw
  obtain ⟨q5, hw⟩ := hw
  obtain ⟨r5, s5, hw⟩ := pst9_pk (ca := ca) q5 (fun r5 => ∃ q6 q6_0 q6_1 q6_2 q6_3 q6_4 q6_5 q6_6 q6_7 q6_8 q6_9 q6_10 q6_11 q6_12 q6_13 q6_14 q6_15 q6_16 q6_17 q7 q7_0 q7_1 q7_2 q7_3 q7_4 q7_5 q7_6 q7_7 q7_8 q7_9 q7_10 q7_11 q7_12 q7_13 q7_14 q7_15 q7_16 q7_17 q8 q8_0 q8_1 q8_2 q8_3 q8_4 q8_5 q8_6 q8_7 q8_8 q8_9 q8_10 q8_11 q8_12 q8_13 q8_14 q8_15 q8_16 q8_17 : Nat, w = (h, .inr (3, [.int (Int32.ofInt 0), .ref q0, .int (Int32.ofInt 0)])) :: (q0, .inl (ca 6, 8, .inr (.inr (.inr (.inr (va_up (va_up (va_up (va_up (va_up (va_up (va_up (va_up (fun _ => none) 0 (some q1)) 1 (some q2)) 2 (some q3)) 3 (some q4)) 4 (some q5)) 5 (some q6)) 6 (some q7)) 7 (some q8))))))) :: (((((((r1 ++ r2) ++ r3) ++ r4) ++ r5) ++ blk9 ca q6 q6_0 q6_1 q6_2 q6_3 q6_4 q6_5 q6_6 q6_7 q6_8 q6_9 q6_10 q6_11 q6_12 q6_13 q6_14 q6_15 q6_16 q6_17) ++ blk9 ca q7 q7_0 q7_1 q7_2 q7_3 q7_4 q7_5 q7_6 q7_7 q7_8 q7_9 q7_10 q7_11 q7_12 q7_13 q7_14 q7_15 q7_16 q7_17) ++ blk9 ca q8 q8_0 q8_1 q8_2 q8_3 q8_4 q8_5 q8_6 q8_7 q8_8 q8_9 q8_10 q8_11 q8_12 q8_13 q8_14 q8_15 q8_16 q8_17)) hw
  obtain ⟨q6, hw⟩ := hw
  obtain ⟨r6, s6, hw⟩ := pst9_pk (ca := ca) q6 (fun r6 => ∃ q7 q7_0 q7_1 q7_2 q7_3 q7_4 q7_5 q7_6 q7_7 q7_8 q7_9 q7_10 q7_11 q7_12 q7_13 q7_14 q7_15 q7_16 q7_17 q8 q8_0 q8_1 q8_2 q8_3 q8_4 q8_5 q8_6 q8_7 q8_8 q8_9 q8_10 q8_11 q8_12 q8_13 q8_14 q8_15 q8_16 q8_17 : Nat, w = (h, .inr (3, [.int (Int32.ofInt 0), .ref q0, .int (Int32.ofInt 0)])) :: (q0, .inl (ca 6, 8, .inr (.inr (.inr (.inr (va_up (va_up (va_up (va_up (va_up (va_up (va_up (va_up (fun _ => none) 0 (some q1)) 1 (some q2)) 2 (some q3)) 3 (some q4)) 4 (some q5)) 5 (some q6)) 6 (some q7)) 7 (some q8))))))) :: (((((((r1 ++ r2) ++ r3) ++ r4) ++ r5) ++ r6) ++ blk9 ca q7 q7_0 q7_1 q7_2 q7_3 q7_4 q7_5 q7_6 q7_7 q7_8 q7_9 q7_10 q7_11 q7_12 q7_13 q7_14 q7_15 q7_16 q7_17) ++ blk9 ca q8 q8_0 q8_1 q8_2 q8_3 q8_4 q8_5 q8_6 q8_7 q8_8 q8_9 q8_10 q8_11 q8_12 q8_13 q8_14 q8_15 q8_16 q8_17)) hw
  obtain ⟨q7, hw⟩ := hw
  obtain ⟨r7, s7, hw⟩ := pst9_pk (ca := ca) q7 (fun r7 => ∃ q8 q8_0 q8_1 q8_2 q8_3 q8_4 q8_5 q8_6 q8_7 q8_8 q8_9 q8_10 q8_11 q8_12 q8_13 q8_14 q8_15 q8_16 q8_17 : Nat, w = (h, .inr (3, [.int (Int32.ofInt 0), .ref q0, .int (Int32.ofInt 0)])) :: (q0, .inl (ca 6, 8, .inr (.inr (.inr (.inr (va_up (va_up (va_up (va_up (va_up (va_up (va_up (va_up (fun _ => none) 0 (some q1)) 1 (some q2)) 2 (some q3)) 3 (some q4)) 4 (some q5)) 5 (some q6)) 6 (some q7)) 7 (some q8))))))) :: (((((((r1 ++ r2) ++ r3) ++ r4) ++ r5) ++ r6) ++ r7) ++ blk9 ca q8 q8_0 q8_1 q8_2 q8_3 q8_4 q8_5 q8_6 q8_7 q8_8 q8_9 q8_10 q8_11 q8_12 q8_13 q8_14 q8_15 q8_16 q8_17)) hw
  obtain ⟨q8, hw⟩ := hw
  obtain ⟨r8, s8, hw⟩ := pst9_pk (ca := ca) q8 (fun r8 => w = (h, .inr (3, [.int (Int32.ofInt 0), .ref q0, .int (Int32.ofInt 0)])) :: (q0, .inl (ca 6, 8, .inr (.inr (.inr (.inr (va_up (va_up (va_up (va_up (va_up (va_up (va_up (va_up (fun _ => none) 0 (some q1)) 1 (some q2)) 2 (some q3)) 3 (some q4)) 4 (some q5)) 5 (some q6)) 6 (some q7)) 7 (some q8))))))) :: (((((((r1 ++ r2) ++ r3) ++ r4) ++ r5) ++ r6) ++ r7) ++ r8)) hw
  exact ⟨q0, q1, q2, q3, q4, q5, q6, q7, q8, r1, r2, r3, r4, r5, r6, r7, r8, hw, s1, s2, s3, s4, s5, s6, s7, s8⟩
set_option maxRecDepth 100000 in
theorem zg_past {D : va_G} {ad : Nat → Nat} {ca : Nat → ClassId} {H : Heap} {h : Nat} {w : va_W} (hw : pst3 ca h w) (hP : va_P D vwCl w H) (he : ∀ i, i < 152 → ad (57 + i) = zfa w (2 + i)) (h210 : ad 210 = zfa w 0) (h211 : ad 211 = zfa w 1) : (∀ i, i < 152 → va_at D vwCl (ad (57 + i), zcell ad ca Mz (57 + i)) H) ∧ va_at D vwCl (ad 210, zcell ad ca Mz 210) H ∧ va_at D vwCl (ad 211, zcell ad ca Mz 211) H := by
  obtain ⟨q0, q1, q2, q3, q4, q5, q6, q7, q8, r1, r2, r3, r4, r5, r6, r7, r8, rfl, s1, s2, s3, s4, s5, s6, s7, s8⟩ := pst3_P hw
  have hT := va_P_t (va_P_t hP)
  have l1 := pst9_len s1
  have l2 := pst9_len s2
  have l3 := pst9_len s3
  have l4 := pst9_len s4
  have l5 := pst9_len s5
  have l6 := pst9_len s6
  have l7 := pst9_len s7
  have l8 := pst9_len s8
  have L1 : r1.length = 19 := l1
  have L2 : (r1 ++ r2).length = 38 := by rw [List.length_append, L1, l2]
  have L3 : ((r1 ++ r2) ++ r3).length = 57 := by rw [List.length_append, L2, l3]
  have L4 : (((r1 ++ r2) ++ r3) ++ r4).length = 76 := by rw [List.length_append, L3, l4]
  have L5 : ((((r1 ++ r2) ++ r3) ++ r4) ++ r5).length = 95 := by rw [List.length_append, L4, l5]
  have L6 : (((((r1 ++ r2) ++ r3) ++ r4) ++ r5) ++ r6).length = 114 := by rw [List.length_append, L5, l6]
  have L7 : ((((((r1 ++ r2) ++ r3) ++ r4) ++ r5) ++ r6) ++ r7).length = 133 := by rw [List.length_append, L6, l7]
  have L8 : (((((((r1 ++ r2) ++ r3) ++ r4) ++ r5) ++ r6) ++ r7) ++ r8).length = 152 := by rw [List.length_append, L7, l8]
  have he2 : ∀ i, i < 152 → ad (57 + i) = zfa (((((((r1 ++ r2) ++ r3) ++ r4) ++ r5) ++ r6) ++ r7) ++ r8) i := fun i hi => by rw [he i hi, show 2 + i = i + 1 + 1 by omega]; rfl
  have T8 := hT
  have T7 : va_P D vwCl ((((((r1 ++ r2) ++ r3) ++ r4) ++ r5) ++ r6) ++ r7) H := va_P_l T8
  have e8_ : ∀ i, i < 19 → zfa (((((((r1 ++ r2) ++ r3) ++ r4) ++ r5) ++ r6) ++ r7) ++ r8) (133 + i) = zfa r8 i := fun i hi => by rw [zfa_r (by rw [L7]; omega), L7, show 133 + i - 133 = i by omega]
  have f7_ : ∀ i, i < 133 → zfa (((((((r1 ++ r2) ++ r3) ++ r4) ++ r5) ++ r6) ++ r7) ++ r8) i = zfa ((((((r1 ++ r2) ++ r3) ++ r4) ++ r5) ++ r6) ++ r7) i := fun i hi => zfa_l (by rw [L7]; exact hi)
  have T6 : va_P D vwCl (((((r1 ++ r2) ++ r3) ++ r4) ++ r5) ++ r6) H := va_P_l T7
  have e7_ : ∀ i, i < 19 → zfa ((((((r1 ++ r2) ++ r3) ++ r4) ++ r5) ++ r6) ++ r7) (114 + i) = zfa r7 i := fun i hi => by rw [zfa_r (by rw [L6]; omega), L6, show 114 + i - 114 = i by omega]
  have f6_ : ∀ i, i < 114 → zfa ((((((r1 ++ r2) ++ r3) ++ r4) ++ r5) ++ r6) ++ r7) i = zfa (((((r1 ++ r2) ++ r3) ++ r4) ++ r5) ++ r6) i := fun i hi => zfa_l (by rw [L6]; exact hi)
  have T5 : va_P D vwCl ((((r1 ++ r2) ++ r3) ++ r4) ++ r5) H := va_P_l T6
  have e6_ : ∀ i, i < 19 → zfa (((((r1 ++ r2) ++ r3) ++ r4) ++ r5) ++ r6) (95 + i) = zfa r6 i := fun i hi => by rw [zfa_r (by rw [L5]; omega), L5, show 95 + i - 95 = i by omega]
  have f5_ : ∀ i, i < 95 → zfa (((((r1 ++ r2) ++ r3) ++ r4) ++ r5) ++ r6) i = zfa ((((r1 ++ r2) ++ r3) ++ r4) ++ r5) i := fun i hi => zfa_l (by rw [L5]; exact hi)
  have T4 : va_P D vwCl (((r1 ++ r2) ++ r3) ++ r4) H := va_P_l T5
  have e5_ : ∀ i, i < 19 → zfa ((((r1 ++ r2) ++ r3) ++ r4) ++ r5) (76 + i) = zfa r5 i := fun i hi => by rw [zfa_r (by rw [L4]; omega), L4, show 76 + i - 76 = i by omega]
  have f4_ : ∀ i, i < 76 → zfa ((((r1 ++ r2) ++ r3) ++ r4) ++ r5) i = zfa (((r1 ++ r2) ++ r3) ++ r4) i := fun i hi => zfa_l (by rw [L4]; exact hi)
  have T3 : va_P D vwCl ((r1 ++ r2) ++ r3) H := va_P_l T4
  have e4_ : ∀ i, i < 19 → zfa (((r1 ++ r2) ++ r3) ++ r4) (57 + i) = zfa r4 i := fun i hi => by rw [zfa_r (by rw [L3]; omega), L3, show 57 + i - 57 = i by omega]
  have f3_ : ∀ i, i < 57 → zfa (((r1 ++ r2) ++ r3) ++ r4) i = zfa ((r1 ++ r2) ++ r3) i := fun i hi => zfa_l (by rw [L3]; exact hi)
  have T2 : va_P D vwCl (r1 ++ r2) H := va_P_l T3
  have e3_ : ∀ i, i < 19 → zfa ((r1 ++ r2) ++ r3) (38 + i) = zfa r3 i := fun i hi => by rw [zfa_r (by rw [L2]; omega), L2, show 38 + i - 38 = i by omega]
  have f2_ : ∀ i, i < 38 → zfa ((r1 ++ r2) ++ r3) i = zfa (r1 ++ r2) i := fun i hi => zfa_l (by rw [L2]; exact hi)
  have T1 : va_P D vwCl r1 H := va_P_l T2
  have e2_ : ∀ i, i < 19 → zfa (r1 ++ r2) (19 + i) = zfa r2 i := fun i hi => by rw [zfa_r (by rw [L1]; omega), L1, show 19 + i - 19 = i by omega]
  have f1_ : ∀ i, i < 19 → zfa (r1 ++ r2) i = zfa r1 i := fun i hi => zfa_l (by rw [L1]; exact hi)
  have w1 := zg_worldP (ad := ad) (b := 57) s1 rfl (by decide) T1 (fun i hi => by rw [he2 _ (by omega), f7_ _ (by omega), f6_ _ (by omega), f5_ _ (by omega), f4_ _ (by omega), f3_ _ (by omega), f2_ _ (by omega), f1_ _ (by omega)])
  have w2 := zg_worldP (ad := ad) (b := 76) s2 rfl (by decide) (va_P_r T2) (fun i hi => by rw [show 76 + i = 57 + (19 + i) by omega, he2 _ (by omega), f7_ _ (by omega), f6_ _ (by omega), f5_ _ (by omega), f4_ _ (by omega), f3_ _ (by omega), f2_ _ (by omega), e2_ i hi])
  have w3 := zg_worldP (ad := ad) (b := 95) s3 rfl (by decide) (va_P_r T3) (fun i hi => by rw [show 95 + i = 57 + (38 + i) by omega, he2 _ (by omega), f7_ _ (by omega), f6_ _ (by omega), f5_ _ (by omega), f4_ _ (by omega), f3_ _ (by omega), e3_ i hi])
  have w4 := zg_worldP (ad := ad) (b := 114) s4 rfl (by decide) (va_P_r T4) (fun i hi => by rw [show 114 + i = 57 + (57 + i) by omega, he2 _ (by omega), f7_ _ (by omega), f6_ _ (by omega), f5_ _ (by omega), f4_ _ (by omega), e4_ i hi])
  have w5 := zg_worldP (ad := ad) (b := 133) s5 rfl (by decide) (va_P_r T5) (fun i hi => by rw [show 133 + i = 57 + (76 + i) by omega, he2 _ (by omega), f7_ _ (by omega), f6_ _ (by omega), f5_ _ (by omega), e5_ i hi])
  have w6 := zg_worldP (ad := ad) (b := 152) s6 rfl (by decide) (va_P_r T6) (fun i hi => by rw [show 152 + i = 57 + (95 + i) by omega, he2 _ (by omega), f7_ _ (by omega), f6_ _ (by omega), e6_ i hi])
  have w7 := zg_worldP (ad := ad) (b := 171) s7 rfl (by decide) (va_P_r T7) (fun i hi => by rw [show 171 + i = 57 + (114 + i) by omega, he2 _ (by omega), f7_ _ (by omega), e7_ i hi])
  have w8 := zg_worldP (ad := ad) (b := 190) s8 rfl (by decide) (va_P_r T8) (fun i hi => by rw [show 190 + i = 57 + (133 + i) by omega, he2 _ (by omega), e8_ i hi])
  refine ⟨fun i hi => ?_, ?_, ?_⟩
  · rcases (show (0 ≤ i ∧ i < 19) ∨ (19 ≤ i ∧ i < 38) ∨ (38 ≤ i ∧ i < 57) ∨ (57 ≤ i ∧ i < 76) ∨ (76 ≤ i ∧ i < 95) ∨ (95 ≤ i ∧ i < 114) ∨ (114 ≤ i ∧ i < 133) ∨ (133 ≤ i ∧ i < 152) by omega) with z | z | z | z | z | z | z | z
    · have y := w1 (i - 0) (by omega)
      rw [show 57 + (i - 0) = 57 + i by omega] at y
      exact y
    · have y := w2 (i - 19) (by omega)
      rw [show 76 + (i - 19) = 57 + i by omega] at y
      exact y
    · have y := w3 (i - 38) (by omega)
      rw [show 95 + (i - 38) = 57 + i by omega] at y
      exact y
    · have y := w4 (i - 57) (by omega)
      rw [show 114 + (i - 57) = 57 + i by omega] at y
      exact y
    · have y := w5 (i - 76) (by omega)
      rw [show 133 + (i - 76) = 57 + i by omega] at y
      exact y
    · have y := w6 (i - 95) (by omega)
      rw [show 152 + (i - 95) = 57 + i by omega] at y
      exact y
    · have y := w7 (i - 114) (by omega)
      rw [show 171 + (i - 114) = 57 + i by omega] at y
      exact y
    · have y := w8 (i - 133) (by omega)
      rw [show 190 + (i - 133) = 57 + i by omega] at y
      exact y
  · refine zg_at (k := 0) hP rfl h210 ?_
    show (.inr (3, [.int (Int32.ofInt 0), .ref (ad 211), .int (Int32.ofInt 0)]) : va_E) = _
    rw [h211]
    rfl
  · refine zg_arr (k := 1) hP rfl h211 (y := (8, .inr (.inr (.inr (.inr (fun i => some (ad (57 + 19 * i)))))))) rfl ?_
    rw [vp_cell_q, vp_cell_q]
    refine arrV_cong (fun j hj => ?_)
    rcases (show j = 0 ∨ j = 1 ∨ j = 2 ∨ j = 3 ∨ j = 4 ∨ j = 5 ∨ j = 6 ∨ j = 7 by omega) with rfl | rfl | rfl | rfl | rfl | rfl | rfl | rfl
    · show va_rf (some q1) = va_rf (some (ad (57 + 19 * 0)))
      have y : ad (57 + 0) = q1 := by rw [he2 0 (by omega), f7_ _ (by omega), f6_ _ (by omega), f5_ _ (by omega), f4_ _ (by omega), f3_ _ (by omega), f2_ _ (by omega), f1_ _ (by omega)]; exact (pst9_head s1)
      rw [show 57 + 19 * 0 = 57 + 0 from rfl, y]
    · show va_rf (some q2) = va_rf (some (ad (57 + 19 * 1)))
      have y : ad (57 + 19) = q2 := by rw [he2 19 (by omega), f7_ _ (by omega), f6_ _ (by omega), f5_ _ (by omega), f4_ _ (by omega), f3_ _ (by omega), f2_ _ (by omega)]; exact (e2_ 0 (by omega)).trans (pst9_head s2)
      rw [show 57 + 19 * 1 = 57 + 19 from rfl, y]
    · show va_rf (some q3) = va_rf (some (ad (57 + 19 * 2)))
      have y : ad (57 + 38) = q3 := by rw [he2 38 (by omega), f7_ _ (by omega), f6_ _ (by omega), f5_ _ (by omega), f4_ _ (by omega), f3_ _ (by omega)]; exact (e3_ 0 (by omega)).trans (pst9_head s3)
      rw [show 57 + 19 * 2 = 57 + 38 from rfl, y]
    · show va_rf (some q4) = va_rf (some (ad (57 + 19 * 3)))
      have y : ad (57 + 57) = q4 := by rw [he2 57 (by omega), f7_ _ (by omega), f6_ _ (by omega), f5_ _ (by omega), f4_ _ (by omega)]; exact (e4_ 0 (by omega)).trans (pst9_head s4)
      rw [show 57 + 19 * 3 = 57 + 57 from rfl, y]
    · show va_rf (some q5) = va_rf (some (ad (57 + 19 * 4)))
      have y : ad (57 + 76) = q5 := by rw [he2 76 (by omega), f7_ _ (by omega), f6_ _ (by omega), f5_ _ (by omega)]; exact (e5_ 0 (by omega)).trans (pst9_head s5)
      rw [show 57 + 19 * 4 = 57 + 76 from rfl, y]
    · show va_rf (some q6) = va_rf (some (ad (57 + 19 * 5)))
      have y : ad (57 + 95) = q6 := by rw [he2 95 (by omega), f7_ _ (by omega), f6_ _ (by omega)]; exact (e6_ 0 (by omega)).trans (pst9_head s6)
      rw [show 57 + 19 * 5 = 57 + 95 from rfl, y]
    · show va_rf (some q7) = va_rf (some (ad (57 + 19 * 6)))
      have y : ad (57 + 114) = q7 := by rw [he2 114 (by omega), f7_ _ (by omega)]; exact (e7_ 0 (by omega)).trans (pst9_head s7)
      rw [show 57 + 19 * 6 = 57 + 114 from rfl, y]
    · show va_rf (some q8) = va_rf (some (ad (57 + 19 * 7)))
      have y : ad (57 + 133) = q8 := by rw [he2 133 (by omega)]; exact (e8_ 0 (by omega)).trans (pst9_head s8)
      rw [show 57 + 19 * 7 = 57 + 133 from rfl, y]
