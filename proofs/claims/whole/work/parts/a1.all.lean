/-! ### all cells of both objects are the abstract machine's at its start -/
/-- the place of the cell a in the list of the cells as they are made -/
def zps (a : Nat) : Nat := if a < 57 then a + 1 else if a < 209 then a + 3 else if a < 210 then a - 209 else if a < 212 then a - 152 else if a < 224 then a + 0 else if a < 230 then a + 120 else if a < 233 then a + 138 else if a < 235 then a + 117 else if a < 240 then a + 127 else if a < 250 then a + 112 else if a < 251 then a + 117 else if a < 254 then a + 120 else if a < 374 then a - 30 else a + 0
def zpi (a : Nat) : Nat := if a < 1 then a + 209 else if a < 58 then a - 1 else if a < 60 then a + 152 else if a < 212 then a - 3 else if a < 224 then a + 0 else if a < 344 then a + 30 else if a < 350 then a - 120 else if a < 352 then a - 117 else if a < 362 then a - 112 else if a < 367 then a - 127 else if a < 368 then a - 117 else if a < 371 then a - 138 else if a < 374 then a - 120 else a + 0
set_option maxRecDepth 100000 in
theorem zps_all : (List.range 388).all (fun a => zpi (zps a) == a && decide (zps a < 388)) = true := by decide +kernel
theorem zps_ok {a : Nat} (h : a < 388) : zpi (zps a) = a ∧ zps a < 388 := by
  have h2 := List.all_eq_true.mp zps_all a (List.mem_range.mpr h)
  simp only [Bool.and_eq_true, beq_iff_eq, decide_eq_true_eq] at h2
  exact h2
theorem zfa_at {w : va_W} {i : Nat} (h : i < w.length) : ∃ e : va_E, w[i]? = some (zfa w i, e) := by
  refine ⟨(w[i]).2, ?_⟩
  have h2 : w[i]? = some w[i] := List.getElem?_eq_getElem h
  rw [zfa_get (q := (w[i]).1) (e := (w[i]).2) h2]
  exact h2
theorem zps_0 {i : Nat} (h : i < 57) : zps (0 + i) = 1 + i := by
  unfold zps
  rw [if_pos (by omega)]
  omega
theorem zps_1 {i : Nat} (h : i < 152) : zps (57 + i) = 60 + i := by
  unfold zps
  rw [if_neg (by omega), if_pos (by omega)]
  omega
theorem zps_2 {i : Nat} (h : i < 1) : zps (209 + i) = 0 + i := by
  unfold zps
  rw [if_neg (by omega), if_neg (by omega), if_pos (by omega)]
  omega
theorem zps_3 {i : Nat} (h : i < 2) : zps (210 + i) = 58 + i := by
  unfold zps
  rw [if_neg (by omega), if_neg (by omega), if_neg (by omega), if_pos (by omega)]
  omega
theorem zps_4 {i : Nat} (h : i < 12) : zps (212 + i) = 212 + i := by
  unfold zps
  rw [if_neg (by omega), if_neg (by omega), if_neg (by omega), if_neg (by omega), if_pos (by omega)]
  omega
theorem zps_5 {i : Nat} (h : i < 6) : zps (224 + i) = 344 + i := by
  unfold zps
  rw [if_neg (by omega), if_neg (by omega), if_neg (by omega), if_neg (by omega), if_neg (by omega), if_pos (by omega)]
  omega
theorem zps_6 {i : Nat} (h : i < 3) : zps (230 + i) = 368 + i := by
  unfold zps
  rw [if_neg (by omega), if_neg (by omega), if_neg (by omega), if_neg (by omega), if_neg (by omega), if_neg (by omega), if_pos (by omega)]
  omega
theorem zps_7 {i : Nat} (h : i < 2) : zps (233 + i) = 350 + i := by
  unfold zps
  rw [if_neg (by omega), if_neg (by omega), if_neg (by omega), if_neg (by omega), if_neg (by omega), if_neg (by omega), if_neg (by omega), if_pos (by omega)]
  omega
theorem zps_8 {i : Nat} (h : i < 5) : zps (235 + i) = 362 + i := by
  unfold zps
  rw [if_neg (by omega), if_neg (by omega), if_neg (by omega), if_neg (by omega), if_neg (by omega), if_neg (by omega), if_neg (by omega), if_neg (by omega), if_pos (by omega)]
  omega
theorem zps_9 {i : Nat} (h : i < 10) : zps (240 + i) = 352 + i := by
  unfold zps
  rw [if_neg (by omega), if_neg (by omega), if_neg (by omega), if_neg (by omega), if_neg (by omega), if_neg (by omega), if_neg (by omega), if_neg (by omega), if_neg (by omega), if_pos (by omega)]
  omega
theorem zps_10 {i : Nat} (h : i < 1) : zps (250 + i) = 367 + i := by
  unfold zps
  rw [if_neg (by omega), if_neg (by omega), if_neg (by omega), if_neg (by omega), if_neg (by omega), if_neg (by omega), if_neg (by omega), if_neg (by omega), if_neg (by omega), if_neg (by omega), if_pos (by omega)]
  omega
theorem zps_11 {i : Nat} (h : i < 3) : zps (251 + i) = 371 + i := by
  unfold zps
  rw [if_neg (by omega), if_neg (by omega), if_neg (by omega), if_neg (by omega), if_neg (by omega), if_neg (by omega), if_neg (by omega), if_neg (by omega), if_neg (by omega), if_neg (by omega), if_neg (by omega), if_pos (by omega)]
  omega
theorem zps_12 {i : Nat} (h : i < 120) : zps (254 + i) = 224 + i := by
  unfold zps
  rw [if_neg (by omega), if_neg (by omega), if_neg (by omega), if_neg (by omega), if_neg (by omega), if_neg (by omega), if_neg (by omega), if_neg (by omega), if_neg (by omega), if_neg (by omega), if_neg (by omega), if_neg (by omega), if_pos (by omega)]
  omega
theorem zps_13 {i : Nat} (h : i < 14) : zps (374 + i) = 374 + i := by
  unfold zps
  rw [if_neg (by omega), if_neg (by omega), if_neg (by omega), if_neg (by omega), if_neg (by omega), if_neg (by omega), if_neg (by omega), if_neg (by omega), if_neg (by omega), if_neg (by omega), if_neg (by omega), if_neg (by omega), if_neg (by omega)]
  omega
set_option maxRecDepth 100000 in
set_option maxHeartbeats 4000000 in
theorem zg_all {D : va_G} {A : Nat → Prop} {ca : Nat → ClassId} {H : Heap} {h0 h1 : Nat} {w wr : va_W} (hw : pst10 ca h0 w) (hr : pst11 ca h1 wr) (hP : va_P D vwCl (w ++ wr) H) (hD : va_D A (w ++ wr)) : ∃ ad : Nat → Nat, va_P D vwCl (zws ad ca Mz) H ∧ va_D A (zws ad ca Mz) ∧ ad 209 = h0 ∧ ad 374 = h1 := by
  obtain ⟨q0, q1, q2, q3, q4, q5, q6, q7, q8, q9, w0, w1, w2, w3, w4, w5, w6, w7, w8, w9, rfl, s0, s1, s2, s3, s4, s5, s6, s7, s8, s9⟩ := hw
  unfold blk10 at hP hD
  have l0 := pst9_len s0
  have l1 := pst9_len s1
  have l2 := pst9_len s2
  have l3 := (pst3_len s3).1
  have l4 := (pst6_len s4).1
  have l5 := (pst5_len s5).1
  have l6 := (pst0_len s6).1
  have l7 := (pst8_len s7).1
  have l8 := (pst1_len s8).1
  have l9 := (pst7_len s9).1
  have lr := (pst11_len hr).1
  have L0 : w0.length = 19 := l0
  have L1 : (w0 ++ w1).length = 38 := by rw [List.length_append, L0, l1]
  have L2 : ((w0 ++ w1) ++ w2).length = 57 := by rw [List.length_append, L1, l2]
  have L3 : (((w0 ++ w1) ++ w2) ++ w3).length = 211 := by rw [List.length_append, L2, l3]
  have L4 : ((((w0 ++ w1) ++ w2) ++ w3) ++ w4).length = 213 := by rw [List.length_append, L3, l4]
  have L5 : (((((w0 ++ w1) ++ w2) ++ w3) ++ w4) ++ w5).length = 217 := by rw [List.length_append, L4, l5]
  have L6 : ((((((w0 ++ w1) ++ w2) ++ w3) ++ w4) ++ w5) ++ w6).length = 221 := by rw [List.length_append, L5, l6]
  have L7 : (((((((w0 ++ w1) ++ w2) ++ w3) ++ w4) ++ w5) ++ w6) ++ w7).length = 345 := by rw [List.length_append, L6, l7]
  have L8 : ((((((((w0 ++ w1) ++ w2) ++ w3) ++ w4) ++ w5) ++ w6) ++ w7) ++ w8).length = 370 := by rw [List.length_append, L7, l8]
  have L9 : (((((((((w0 ++ w1) ++ w2) ++ w3) ++ w4) ++ w5) ++ w6) ++ w7) ++ w8) ++ w9).length = 373 := by rw [List.length_append, L8, l9]
  generalize hx : (Sum.inr (10, [Value.ref q0, .ref q1, .ref q2, .int (Int32.ofInt 0), .ref q3, .ref q4, .ref q5, .ref q6, .ref q7, .ref q8, .ref q9, .int (Int32.ofInt (-5)), .int (Int32.ofInt (-5))]) : va_E) = x at hP hD
  generalize hW : ((h0, x) :: (((((((((w0 ++ w1) ++ w2) ++ w3) ++ w4) ++ w5) ++ w6) ++ w7) ++ w8) ++ w9)) ++ wr = W at hP hD
  have lW : W.length = 388 := by rw [← hW, List.length_append, List.length_cons, L9, lr]
  have P0 : va_P D vwCl (((h0, x) :: (((((((((w0 ++ w1) ++ w2) ++ w3) ++ w4) ++ w5) ++ w6) ++ w7) ++ w8) ++ w9)) ++ wr) H := by rw [hW]; exact hP
  have PR := va_P_r P0
  have P1 := va_P_l P0
  have T9 : va_P D vwCl (((((((((w0 ++ w1) ++ w2) ++ w3) ++ w4) ++ w5) ++ w6) ++ w7) ++ w8) ++ w9) H := va_P_t P1
  have T8 : va_P D vwCl ((((((((w0 ++ w1) ++ w2) ++ w3) ++ w4) ++ w5) ++ w6) ++ w7) ++ w8) H := va_P_l T9
  have T7 : va_P D vwCl (((((((w0 ++ w1) ++ w2) ++ w3) ++ w4) ++ w5) ++ w6) ++ w7) H := va_P_l T8
  have T6 : va_P D vwCl ((((((w0 ++ w1) ++ w2) ++ w3) ++ w4) ++ w5) ++ w6) H := va_P_l T7
  have T5 : va_P D vwCl (((((w0 ++ w1) ++ w2) ++ w3) ++ w4) ++ w5) H := va_P_l T6
  have T4 : va_P D vwCl ((((w0 ++ w1) ++ w2) ++ w3) ++ w4) H := va_P_l T5
  have T3 : va_P D vwCl (((w0 ++ w1) ++ w2) ++ w3) H := va_P_l T4
  have T2 : va_P D vwCl ((w0 ++ w1) ++ w2) H := va_P_l T3
  have T1 : va_P D vwCl (w0 ++ w1) H := va_P_l T2
  have T0 : va_P D vwCl w0 H := va_P_l T1
  have U1 : va_P D vwCl w1 H := va_P_r T1
  have U2 : va_P D vwCl w2 H := va_P_r T2
  have U3 : va_P D vwCl w3 H := va_P_r T3
  have U4 : va_P D vwCl w4 H := va_P_r T4
  have U5 : va_P D vwCl w5 H := va_P_r T5
  have U6 : va_P D vwCl w6 H := va_P_r T6
  have U7 : va_P D vwCl w7 H := va_P_r T7
  have U8 : va_P D vwCl w8 H := va_P_r T8
  have U9 : va_P D vwCl w9 H := va_P_r T9
  have z0 : zfa W 0 = h0 := by rw [← hW]; rfl
  have zC : ∀ i, i < 373 → zfa W (1 + i) = zfa (((((((((w0 ++ w1) ++ w2) ++ w3) ++ w4) ++ w5) ++ w6) ++ w7) ++ w8) ++ w9) i := fun i hi => by rw [← hW, zfa_l (by rw [List.length_cons, L9]; omega), Nat.add_comm 1 i]; rfl
  have zR : ∀ i, i < 14 → zfa W (374 + i) = zfa wr i := fun i hi => by rw [← hW, zfa_r (by rw [List.length_cons, L9]; omega), List.length_cons, L9, show 374 + i - (373 + 1) = i by omega]
  have f9_ : ∀ i, i < 370 → zfa (((((((((w0 ++ w1) ++ w2) ++ w3) ++ w4) ++ w5) ++ w6) ++ w7) ++ w8) ++ w9) i = zfa ((((((((w0 ++ w1) ++ w2) ++ w3) ++ w4) ++ w5) ++ w6) ++ w7) ++ w8) i := fun i hi => zfa_l (by rw [L8]; exact hi)
  have g9_ : ∀ i, i < 3 → zfa (((((((((w0 ++ w1) ++ w2) ++ w3) ++ w4) ++ w5) ++ w6) ++ w7) ++ w8) ++ w9) (370 + i) = zfa w9 i := fun i hi => by rw [zfa_r (by rw [L8]; omega), L8, show 370 + i - 370 = i by omega]
  have f8_ : ∀ i, i < 345 → zfa ((((((((w0 ++ w1) ++ w2) ++ w3) ++ w4) ++ w5) ++ w6) ++ w7) ++ w8) i = zfa (((((((w0 ++ w1) ++ w2) ++ w3) ++ w4) ++ w5) ++ w6) ++ w7) i := fun i hi => zfa_l (by rw [L7]; exact hi)
  have g8_ : ∀ i, i < 25 → zfa ((((((((w0 ++ w1) ++ w2) ++ w3) ++ w4) ++ w5) ++ w6) ++ w7) ++ w8) (345 + i) = zfa w8 i := fun i hi => by rw [zfa_r (by rw [L7]; omega), L7, show 345 + i - 345 = i by omega]
  have f7_ : ∀ i, i < 221 → zfa (((((((w0 ++ w1) ++ w2) ++ w3) ++ w4) ++ w5) ++ w6) ++ w7) i = zfa ((((((w0 ++ w1) ++ w2) ++ w3) ++ w4) ++ w5) ++ w6) i := fun i hi => zfa_l (by rw [L6]; exact hi)
  have g7_ : ∀ i, i < 124 → zfa (((((((w0 ++ w1) ++ w2) ++ w3) ++ w4) ++ w5) ++ w6) ++ w7) (221 + i) = zfa w7 i := fun i hi => by rw [zfa_r (by rw [L6]; omega), L6, show 221 + i - 221 = i by omega]
  have f6_ : ∀ i, i < 217 → zfa ((((((w0 ++ w1) ++ w2) ++ w3) ++ w4) ++ w5) ++ w6) i = zfa (((((w0 ++ w1) ++ w2) ++ w3) ++ w4) ++ w5) i := fun i hi => zfa_l (by rw [L5]; exact hi)
  have g6_ : ∀ i, i < 4 → zfa ((((((w0 ++ w1) ++ w2) ++ w3) ++ w4) ++ w5) ++ w6) (217 + i) = zfa w6 i := fun i hi => by rw [zfa_r (by rw [L5]; omega), L5, show 217 + i - 217 = i by omega]
  have f5_ : ∀ i, i < 213 → zfa (((((w0 ++ w1) ++ w2) ++ w3) ++ w4) ++ w5) i = zfa ((((w0 ++ w1) ++ w2) ++ w3) ++ w4) i := fun i hi => zfa_l (by rw [L4]; exact hi)
  have g5_ : ∀ i, i < 4 → zfa (((((w0 ++ w1) ++ w2) ++ w3) ++ w4) ++ w5) (213 + i) = zfa w5 i := fun i hi => by rw [zfa_r (by rw [L4]; omega), L4, show 213 + i - 213 = i by omega]
  have f4_ : ∀ i, i < 211 → zfa ((((w0 ++ w1) ++ w2) ++ w3) ++ w4) i = zfa (((w0 ++ w1) ++ w2) ++ w3) i := fun i hi => zfa_l (by rw [L3]; exact hi)
  have g4_ : ∀ i, i < 2 → zfa ((((w0 ++ w1) ++ w2) ++ w3) ++ w4) (211 + i) = zfa w4 i := fun i hi => by rw [zfa_r (by rw [L3]; omega), L3, show 211 + i - 211 = i by omega]
  have f3_ : ∀ i, i < 57 → zfa (((w0 ++ w1) ++ w2) ++ w3) i = zfa ((w0 ++ w1) ++ w2) i := fun i hi => zfa_l (by rw [L2]; exact hi)
  have g3_ : ∀ i, i < 154 → zfa (((w0 ++ w1) ++ w2) ++ w3) (57 + i) = zfa w3 i := fun i hi => by rw [zfa_r (by rw [L2]; omega), L2, show 57 + i - 57 = i by omega]
  have f2_ : ∀ i, i < 38 → zfa ((w0 ++ w1) ++ w2) i = zfa (w0 ++ w1) i := fun i hi => zfa_l (by rw [L1]; exact hi)
  have g2_ : ∀ i, i < 19 → zfa ((w0 ++ w1) ++ w2) (38 + i) = zfa w2 i := fun i hi => by rw [zfa_r (by rw [L1]; omega), L1, show 38 + i - 38 = i by omega]
  have f1_ : ∀ i, i < 19 → zfa (w0 ++ w1) i = zfa w0 i := fun i hi => zfa_l (by rw [L0]; exact hi)
  have g1_ : ∀ i, i < 19 → zfa (w0 ++ w1) (19 + i) = zfa w1 i := fun i hi => by rw [zfa_r (by rw [L0]; omega), L0, show 19 + i - 19 = i by omega]
  have y0 : ∀ i, i < 19 → zfa W (1 + i) = zfa w0 i := fun i hi => by rw [zC _ (by omega), f9_ _ (by omega), f8_ _ (by omega), f7_ _ (by omega), f6_ _ (by omega), f5_ _ (by omega), f4_ _ (by omega), f3_ _ (by omega), f2_ _ (by omega), f1_ _ (by omega)]
  have y1 : ∀ i, i < 19 → zfa W (20 + i) = zfa w1 i := fun i hi => by rw [show 20 + i = 1 + (19 + i) by omega, zC _ (by omega), f9_ _ (by omega), f8_ _ (by omega), f7_ _ (by omega), f6_ _ (by omega), f5_ _ (by omega), f4_ _ (by omega), f3_ _ (by omega), f2_ _ (by omega), g1_ i hi]
  have y2 : ∀ i, i < 19 → zfa W (39 + i) = zfa w2 i := fun i hi => by rw [show 39 + i = 1 + (38 + i) by omega, zC _ (by omega), f9_ _ (by omega), f8_ _ (by omega), f7_ _ (by omega), f6_ _ (by omega), f5_ _ (by omega), f4_ _ (by omega), f3_ _ (by omega), g2_ i hi]
  have y3 : ∀ i, i < 154 → zfa W (58 + i) = zfa w3 i := fun i hi => by rw [show 58 + i = 1 + (57 + i) by omega, zC _ (by omega), f9_ _ (by omega), f8_ _ (by omega), f7_ _ (by omega), f6_ _ (by omega), f5_ _ (by omega), f4_ _ (by omega), g3_ i hi]
  have y4 : ∀ i, i < 2 → zfa W (212 + i) = zfa w4 i := fun i hi => by rw [show 212 + i = 1 + (211 + i) by omega, zC _ (by omega), f9_ _ (by omega), f8_ _ (by omega), f7_ _ (by omega), f6_ _ (by omega), f5_ _ (by omega), g4_ i hi]
  have y5 : ∀ i, i < 4 → zfa W (214 + i) = zfa w5 i := fun i hi => by rw [show 214 + i = 1 + (213 + i) by omega, zC _ (by omega), f9_ _ (by omega), f8_ _ (by omega), f7_ _ (by omega), f6_ _ (by omega), g5_ i hi]
  have y6 : ∀ i, i < 4 → zfa W (218 + i) = zfa w6 i := fun i hi => by rw [show 218 + i = 1 + (217 + i) by omega, zC _ (by omega), f9_ _ (by omega), f8_ _ (by omega), f7_ _ (by omega), g6_ i hi]
  have y7 : ∀ i, i < 124 → zfa W (222 + i) = zfa w7 i := fun i hi => by rw [show 222 + i = 1 + (221 + i) by omega, zC _ (by omega), f9_ _ (by omega), f8_ _ (by omega), g7_ i hi]
  have y8 : ∀ i, i < 25 → zfa W (346 + i) = zfa w8 i := fun i hi => by rw [show 346 + i = 1 + (345 + i) by omega, zC _ (by omega), f9_ _ (by omega), g8_ i hi]
  have y9 : ∀ i, i < 3 → zfa W (371 + i) = zfa w9 i := fun i hi => by rw [show 371 + i = 1 + (370 + i) by omega, zC _ (by omega), g9_ i hi]
  clear f1_ f2_ f3_ f4_ f5_ f6_ f7_ f8_ f9_ g1_ g2_ g3_ g4_ g5_ g6_ g7_ g8_ g9_
  obtain ⟨ad, had⟩ : ∃ ad : Nat → Nat, ∀ a, ad a = zfa W (zps a) := ⟨fun a => zfa W (zps a), fun _ => rfl⟩
  have a0 : ∀ i, i < 57 → ad (0 + i) = zfa W (1 + i) := fun i hi => by rw [had, zps_0 hi]
  have a1 : ∀ i, i < 152 → ad (57 + i) = zfa W (60 + i) := fun i hi => by rw [had, zps_1 hi]
  have a2 : ∀ i, i < 1 → ad (209 + i) = zfa W (0 + i) := fun i hi => by rw [had, zps_2 hi]
  have a3 : ∀ i, i < 2 → ad (210 + i) = zfa W (58 + i) := fun i hi => by rw [had, zps_3 hi]
  have a4 : ∀ i, i < 12 → ad (212 + i) = zfa W (212 + i) := fun i hi => by rw [had, zps_4 hi]
  have a5 : ∀ i, i < 6 → ad (224 + i) = zfa W (344 + i) := fun i hi => by rw [had, zps_5 hi]
  have a6 : ∀ i, i < 3 → ad (230 + i) = zfa W (368 + i) := fun i hi => by rw [had, zps_6 hi]
  have a7 : ∀ i, i < 2 → ad (233 + i) = zfa W (350 + i) := fun i hi => by rw [had, zps_7 hi]
  have a8 : ∀ i, i < 5 → ad (235 + i) = zfa W (362 + i) := fun i hi => by rw [had, zps_8 hi]
  have a9 : ∀ i, i < 10 → ad (240 + i) = zfa W (352 + i) := fun i hi => by rw [had, zps_9 hi]
  have a10 : ∀ i, i < 1 → ad (250 + i) = zfa W (367 + i) := fun i hi => by rw [had, zps_10 hi]
  have a11 : ∀ i, i < 3 → ad (251 + i) = zfa W (371 + i) := fun i hi => by rw [had, zps_11 hi]
  have a12 : ∀ i, i < 120 → ad (254 + i) = zfa W (224 + i) := fun i hi => by rw [had, zps_12 hi]
  have a13 : ∀ i, i < 14 → ad (374 + i) = zfa W (374 + i) := fun i hi => by rw [had, zps_13 hi]
  have v0 := zg_worldP (ad := ad) (b := 0) s0 rfl (by decide) T0 (fun i hi => by rw [a0 i (by omega), y0 i hi])
  have v1 := zg_worldP (ad := ad) (b := 19) s1 rfl (by decide) U1 (fun i hi => by rw [show 19 + i = 0 + (19 + i) by omega, a0 _ (by omega), show 1 + (19 + i) = 20 + i by omega, y1 i hi])
  have v2 := zg_worldP (ad := ad) (b := 38) s2 rfl (by decide) U2 (fun i hi => by rw [show 38 + i = 0 + (38 + i) by omega, a0 _ (by omega), show 1 + (38 + i) = 39 + i by omega, y2 i hi])
  obtain ⟨v3, v3a, v3b⟩ := zg_past (ad := ad) s3 U3 (fun i hi => by rw [a1 i hi, show 60 + i = 58 + (2 + i) by omega, y3 _ (by omega)]) ((a3 0 (by decide)).trans (y3 0 (by decide))) ((a3 1 (by decide)).trans (y3 1 (by decide)))
  have v4 := zg_tape (ad := ad) s4 U4 (fun i hi => by rw [a4 i (by omega), y4 i hi])
  have v5 := zg_text (ad := ad) s5 U5 (fun i hi => by rw [show 214 + i = 212 + (2 + i) by omega, a4 _ (by omega), show 212 + (2 + i) = 214 + i by omega, y5 i hi])
  have v6 := zg_cmd (ad := ad) s6 U6 (fun i hi => by rw [show 218 + i = 212 + (6 + i) by omega, a4 _ (by omega), show 212 + (6 + i) = 218 + i by omega, y6 i hi])
  have h0_ : ad 0 = q0 := (a0 0 (by decide)).trans ((y0 0 (by decide)).trans (pst9_head s0))
  have h222 : ad 222 = zfa w7 0 := (a4 10 (by decide)).trans (y7 0 (by decide))
  have h222q : ad 222 = q7 := h222.trans (pst8_len s7).2
  have h226q : ad 226 = q8 := (a5 2 (by decide)).trans ((y8 0 (by decide)).trans (pst1_len s8).2)
  obtain ⟨v7a, v7b, v7c, v7d, v7⟩ := zg_ways (ad := ad) s7 U7 h222 ((a4 11 (by decide)).trans (y7 1 (by decide))) (fun i hi => by rw [a12 i hi, show 224 + i = 222 + (2 + i) by omega, y7 _ (by omega)]) ((a5 0 (by decide)).trans (y7 122 (by decide))) ((a5 1 (by decide)).trans (y7 123 (by decide))) h0_
  have v8 := zg_giving (ad := ad) s8 U8 (fun i hi => by rw [show 226 + i = 224 + (2 + i) by omega, a5 _ (by omega), show 344 + (2 + i) = 346 + i by omega, y8 _ (by omega)]) ((a7 0 (by decide)).trans (y8 4 (by decide))) ((a7 1 (by decide)).trans (y8 5 (by decide))) (fun i hi => by rw [a9 i hi, show 352 + i = 346 + (6 + i) by omega, y8 _ (by omega)]) (fun i hi => by rw [a8 i hi, show 362 + i = 346 + (16 + i) by omega, y8 _ (by omega)]) ((a10 0 (by decide)).trans (y8 21 (by decide))) (fun i hi => by rw [a6 i hi, show 368 + i = 346 + (22 + i) by omega, y8 _ (by omega)]) h0_ h222q
  have v9 := zg_turns (ad := ad) s9 U9 (fun i hi => by rw [a11 i hi, y9 i hi]) h0_ h222q h226q
  have vr := zg_ref (ad := ad) hr PR (fun i hi => by rw [a13 i hi, zR i hi])
  have h209 : ad 209 = h0 := (a2 0 (by decide)).trans z0
  have h19 : ad 19 = q1 := (a0 19 (by decide)).trans ((y1 0 (by decide)).trans (pst9_head s1))
  have h38 : ad 38 = q2 := (a0 38 (by decide)).trans ((y2 0 (by decide)).trans (pst9_head s2))
  have h210 : ad 210 = q3 := (a3 0 (by decide)).trans ((y3 0 (by decide)).trans (pst3_len s3).2)
  have h212 : ad 212 = q4 := (a4 0 (by decide)).trans ((y4 0 (by decide)).trans (pst6_len s4).2)
  have h214 : ad 214 = q5 := (a4 2 (by decide)).trans ((y5 0 (by decide)).trans (pst5_len s5).2)
  have h218 : ad 218 = q6 := (a4 6 (by decide)).trans ((y6 0 (by decide)).trans (pst0_len s6).2)
  have h251 : ad 251 = q9 := (a11 0 (by decide)).trans ((y9 0 (by decide)).trans (pst7_len s9).2)
  have vh : va_at D vwCl (ad 209, zcell ad ca Mz 209) H := by
    refine zg_at (k := 0) P1 rfl h209 ?_
    rw [← hx, zc_o (show zk 209 = (4, 10, [1, 20, 39, 0, 211, 213, 215, 219, 223, 227, 252, 0, 0]) from rfl)]
    show (.inr (10, [.ref (ad 0), .ref (ad 19), .ref (ad 38), .int (Int32.ofInt (Mz 209 3)), .ref (ad 210), .ref (ad 212), .ref (ad 214), .ref (ad 218), .ref (ad 222), .ref (ad 226), .ref (ad 251), .int (Int32.ofInt (Mz 209 11)), .int (Int32.ofInt (Mz 209 12))]) : va_E) = _
    rw [h0_, h19, h38, h210, h212, h214, h218, h222q, h226q, h251]
    rfl
  have hz : ∀ (k : Nat) (q : Nat × va_E), (zws ad ca Mz)[k]? = some q → k < 388 ∧ q = (ad k, zcell ad ca Mz k) := fun k q hk => by
    have h1 : k < 388 := by have := (List.getElem?_eq_some_iff.mp hk).1; rw [zws_len] at this; exact this
    rw [zws_get h1] at hk
    exact ⟨h1, (Option.some.inj hk).symm⟩
  refine ⟨ad, fun k q hk => ?_, ⟨fun i j p q hi hj he => ?_, fun k q hk => ?_⟩, h209, (a13 0 (by decide)).trans ((zR 0 (by decide)).trans (pst11_len hr).2)⟩
  · obtain ⟨h1, rfl⟩ := hz k q hk
    rcases (show (0 ≤ k ∧ k < 19) ∨ (19 ≤ k ∧ k < 38) ∨ (38 ≤ k ∧ k < 57) ∨ (57 ≤ k ∧ k < 209) ∨ k = 209 ∨ k = 210 ∨ k = 211 ∨ (212 ≤ k ∧ k < 214) ∨ (214 ≤ k ∧ k < 218) ∨ (218 ≤ k ∧ k < 222) ∨ k = 222 ∨ k = 223 ∨ k = 224 ∨ k = 225 ∨ (226 ≤ k ∧ k < 251) ∨ (251 ≤ k ∧ k < 254) ∨ (254 ≤ k ∧ k < 374) ∨ (374 ≤ k ∧ k < 388) by omega) with z | z | z | z | rfl | rfl | rfl | z | z | z | rfl | rfl | rfl | rfl | z | z | z | z
    · have y := v0 (k - 0) (by omega)
      rw [show 0 + (k - 0) = k by omega] at y
      exact y
    · have y := v1 (k - 19) (by omega)
      rw [show 19 + (k - 19) = k by omega] at y
      exact y
    · have y := v2 (k - 38) (by omega)
      rw [show 38 + (k - 38) = k by omega] at y
      exact y
    · have y := v3 (k - 57) (by omega)
      rw [show 57 + (k - 57) = k by omega] at y
      exact y
    · exact vh
    · exact v3a
    · exact v3b
    · have y := v4 (k - 212) (by omega)
      rw [show 212 + (k - 212) = k by omega] at y
      exact y
    · have y := v5 (k - 214) (by omega)
      rw [show 214 + (k - 214) = k by omega] at y
      exact y
    · have y := v6 (k - 218) (by omega)
      rw [show 218 + (k - 218) = k by omega] at y
      exact y
    · exact v7a
    · exact v7b
    · exact v7c
    · exact v7d
    · have y := v8 (k - 226) (by omega)
      rw [show 226 + (k - 226) = k by omega] at y
      exact y
    · have y := v9 (k - 251) (by omega)
      rw [show 251 + (k - 251) = k by omega] at y
      exact y
    · have y := v7 (k - 254) (by omega)
      rw [show 254 + (k - 254) = k by omega] at y
      exact y
    · have y := vr (k - 374) (by omega)
      rw [show 374 + (k - 374) = k by omega] at y
      exact y
  · obtain ⟨i1, rfl⟩ := hz i p hi
    obtain ⟨j1, rfl⟩ := hz j q hj
    obtain ⟨i2, i3⟩ := zps_ok i1
    obtain ⟨j2, j3⟩ := zps_ok j1
    obtain ⟨e1, e1_⟩ := zfa_at (w := W) (i := zps i) (by omega)
    obtain ⟨e2, e2_⟩ := zfa_at (w := W) (i := zps j) (by omega)
    have y := hD.1 _ _ _ _ e1_ e2_ (by rw [← had, ← had]; exact he)
    rw [← i2, y, j2]
  · obtain ⟨h1, rfl⟩ := hz k q hk
    obtain ⟨i2, i3⟩ := zps_ok h1
    obtain ⟨e1, e1_⟩ := zfa_at (w := W) (i := zps k) (by omega)
    have y := hD.2 _ _ e1_
    rw [← had] at y
    exact y
