/-! ### the small blocks' cells -/
theorem zc_0 {ad : Nat → Nat} {ca : Nat → ClassId} {a n : Nat} (h : zk a = (0, n, [])) (hz : ∀ j, Mz a j = 0) : zcell ad ca Mz a = .inl (ca 0, n, .inl (fun _ => Int32.ofInt 0)) := by
  unfold zcell
  rw [h, show Mz a = fun _ => 0 from funext hz]
  rfl
theorem zc_1 {ad : Nat → Nat} {ca : Nat → ClassId} {a n : Nat} (h : zk a = (1, n, [])) (hz : ∀ j, Mz a j = 0) : zcell ad ca Mz a = .inl (ca 1, n, .inl (fun _ => Int32.ofInt 0)) := by
  unfold zcell
  rw [h, show Mz a = fun _ => 0 from funext hz]
  rfl
theorem zc_2 {ad : Nat → Nat} {ca : Nat → ClassId} {a n : Nat} (h : zk a = (2, n, [])) (hz : ∀ j, Mz a j = 0) : zcell ad ca Mz a = .inl (ca 2, n, .inr (.inl (fun _ => Int64.ofInt 0))) := by
  unfold zcell
  rw [h, show Mz a = fun _ => 0 from funext hz]
  rfl
theorem zc_o {ad : Nat → Nat} {ca : Nat → ClassId} {a c : Nat} {fs : List Nat} (h : zk a = (4, c, fs)) : zcell ad ca Mz a = .inr (c, zfv ad (Mz a) fs 0) := by
  unfold zcell
  rw [h]
  rfl
theorem Mz_n {a : Nat} (h : 209 ≤ a) (h1 : a ≠ 209) (h2 : a ≠ 215) (h3 : a ≠ 375) (j : Nat) : Mz a j = 0 := Mz_o h (Or.inl h1) (Or.inl h2) (Or.inl h3)
theorem zfa_get {w : va_W} {i q : Nat} {e : va_E} (h : w[i]? = some (q, e)) : zfa w i = q := by
  unfold zfa
  rw [List.getD_eq_getElem?_getD, List.getElem?_map, h]
  rfl
theorem mnL_len {ca : Nat → ClassId} {tA tB : Nat} {a0 : vp_A} {N o : Nat} : (mnL ca tA tB a0 N o).length = N + 1 := by simp [mnL]
theorem mnL_at {ca : Nat → ClassId} {tA tB : Nat} {a0 : vp_A} {N o i : Nat} (h : i < N) : (mnL ca tA tB a0 N o)[i + 1]? = some (o + 1 + i, .inl (ca tB, a0)) := by
  unfold mnL
  rw [List.getElem?_cons_succ, List.getElem?_map, List.getElem?_range h]
  rfl
section ZS
variable {D : va_G} {ad : Nat → Nat} {ca : Nat → ClassId} {H : Heap} {h : Nat} {w : va_W}
theorem pst6_len (hw : pst6 ca h w) : w.length = 2 ∧ zfa w 0 = h := by
  obtain ⟨q0, rfl⟩ := hw
  exact ⟨rfl, rfl⟩
theorem pst5_len (hw : pst5 ca h w) : w.length = 4 ∧ zfa w 0 = h := by
  obtain ⟨q0, q1, q2, rfl⟩ := hw
  exact ⟨rfl, rfl⟩
theorem pst0_len (hw : pst0 ca h w) : w.length = 4 ∧ zfa w 0 = h := by
  obtain ⟨q0, q1, q2, rfl⟩ := hw
  exact ⟨rfl, rfl⟩
theorem pst7_len {a1 a2 a3 : Nat} (hw : pst7 ca h a1 a2 a3 w) : w.length = 3 ∧ zfa w 0 = h := by
  obtain ⟨q0, q1, rfl⟩ := hw
  exact ⟨rfl, rfl⟩
theorem pst8_len {a1 : Nat} (hw : pst8 ca h a1 w) : w.length = 124 ∧ zfa w 0 = h := by
  obtain ⟨q0, q1, q2, rfl⟩ := hw
  refine ⟨?_, rfl⟩
  unfold blk8
  rw [List.length_cons, List.length_append, mnL_len]
  rfl
theorem pst1_len {a1 a2 : Nat} (hw : pst1 ca h a1 a2 w) : w.length = 25 ∧ zfa w 0 = h := by
  obtain ⟨q0, q1, q2, q3, q3_0, q3_1, q3_2, q3_3, q3_4, q3_5, q3_6, q4, q5, q6, rfl⟩ := hw
  exact ⟨rfl, rfl⟩
theorem pst3_len (hw : pst3 ca h w) : w.length = 154 ∧ zfa w 0 = h := by
  obtain ⟨q0, q1, q2, q3, q4, q5, q6, q7, q8, r1, r2, r3, r4, r5, r6, r7, r8, rfl, s1, s2, s3, s4, s5, s6, s7, s8⟩ := pst3_P hw
  refine ⟨?_, rfl⟩
  rw [List.length_cons, List.length_cons, List.length_append, List.length_append, List.length_append, List.length_append, List.length_append, List.length_append, List.length_append, pst9_len s1, pst9_len s2, pst9_len s3, pst9_len s4, pst9_len s5, pst9_len s6, pst9_len s7, pst9_len s8]
theorem zg_tape (hw : pst6 ca h w) (hP : va_P D vwCl w H) (he : ∀ i, i < 2 → ad (212 + i) = zfa w i) : ∀ i, i < 2 → va_at D vwCl (ad (212 + i), zcell ad ca Mz (212 + i)) H := by
  obtain ⟨q0, rfl⟩ := hw
  have e1_ : ad 213 = q0 := he 1 (by decide)
  intro i hi
  match i, hi with
  | 0, _ => exact zg_at (k := 0) hP rfl (he 0 (by decide)) (by
      rw [zc_o (show zk (212 + 0) = (4, 6, [0, 214]) from rfl)]
      show (.inr (6, [.int (Int32.ofInt (Mz 212 0)), .ref (ad 213)]) : va_E) = _
      rw [e1_]; rfl)
  | 1, _ => exact zg_at (k := 1) hP rfl (he 1 (by decide)) (zc_0 rfl (fun j => Mz_n (by decide) (by decide) (by decide) (by decide) j))
theorem zg_text (hw : pst5 ca h w) (hP : va_P D vwCl w H) (he : ∀ i, i < 4 → ad (214 + i) = zfa w i) : ∀ i, i < 4 → va_at D vwCl (ad (214 + i), zcell ad ca Mz (214 + i)) H := by
  obtain ⟨q0, q1, q2, rfl⟩ := hw
  have e1_ : ad 215 = q0 := he 1 (by decide)
  have e2_ : ad 216 = q1 := he 2 (by decide)
  have e3_ : ad 217 = q2 := he 3 (by decide)
  intro i hi
  match i, hi with
  | 0, _ => exact zg_at (k := 0) hP rfl (he 0 (by decide)) (by
      rw [zc_o (show zk (214 + 0) = (4, 5, [216, 0, 0]) from rfl)]
      show (.inr (5, [.ref (ad 215), .int (Int32.ofInt (Mz 214 1)), .int (Int32.ofInt (Mz 214 2))]) : va_E) = _
      rw [e1_]; rfl)
  | 1, _ => exact zg_at (k := 1) hP rfl (he 1 (by decide)) (by
      rw [zc_o (show zk (214 + 1) = (4, 4, [217, 218, 0, 0]) from rfl)]
      show (.inr (4, [.ref (ad 216), .ref (ad 217), .int (Int32.ofInt (Mz 215 2)), .int (Int32.ofInt (Mz 215 3))]) : va_E) = _
      rw [e2_, e3_]; rfl)
  | 2, _ => exact zg_at (k := 2) hP rfl (he 2 (by decide)) (zc_0 rfl (fun j => Mz_n (by decide) (by decide) (by decide) (by decide) j))
  | 3, _ => exact zg_at (k := 3) hP rfl (he 3 (by decide)) (zc_0 rfl (fun j => Mz_n (by decide) (by decide) (by decide) (by decide) j))
theorem zg_cmd (hw : pst0 ca h w) (hP : va_P D vwCl w H) (he : ∀ i, i < 4 → ad (218 + i) = zfa w i) : ∀ i, i < 4 → va_at D vwCl (ad (218 + i), zcell ad ca Mz (218 + i)) H := by
  obtain ⟨q0, q1, q2, rfl⟩ := hw
  have e1_ : ad 219 = q0 := he 1 (by decide)
  have e2_ : ad 220 = q1 := he 2 (by decide)
  have e3_ : ad 221 = q2 := he 3 (by decide)
  intro i hi
  match i, hi with
  | 0, _ => exact zg_at (k := 0) hP rfl (he 0 (by decide)) (by
      rw [zc_o (show zk (218 + 0) = (4, 0, [220, 221, 222, 0, 0]) from rfl)]
      show (.inr (0, [.ref (ad 219), .ref (ad 220), .ref (ad 221), .int (Int32.ofInt (Mz 218 3)), .int (Int32.ofInt (Mz 218 4))]) : va_E) = _
      rw [e1_, e2_, e3_]; rfl)
  | 1, _ => exact zg_at (k := 1) hP rfl (he 1 (by decide)) (zc_0 rfl (fun j => Mz_n (by decide) (by decide) (by decide) (by decide) j))
  | 2, _ => exact zg_at (k := 2) hP rfl (he 2 (by decide)) (zc_0 rfl (fun j => Mz_n (by decide) (by decide) (by decide) (by decide) j))
  | 3, _ => exact zg_at (k := 3) hP rfl (he 3 (by decide)) (zc_0 rfl (fun j => Mz_n (by decide) (by decide) (by decide) (by decide) j))
theorem zg_turns {a1 a2 a3 : Nat} (hw : pst7 ca h a1 a2 a3 w) (hP : va_P D vwCl w H) (he : ∀ i, i < 3 → ad (251 + i) = zfa w i) (h1 : ad 0 = a1) (h2 : ad 222 = a2) (h3 : ad 226 = a3) : ∀ i, i < 3 → va_at D vwCl (ad (251 + i), zcell ad ca Mz (251 + i)) H := by
  obtain ⟨q0, q1, rfl⟩ := hw
  have e1_ : ad 252 = q0 := he 1 (by decide)
  have e2_ : ad 253 = q1 := he 2 (by decide)
  intro i hi
  match i, hi with
  | 0, _ => exact zg_at (k := 0) hP rfl (he 0 (by decide)) (by
      rw [zc_o (show zk (251 + 0) = (4, 7, [1, 223, 227, 253, 254, 0]) from rfl)]
      show (.inr (7, [.ref (ad 0), .ref (ad 222), .ref (ad 226), .ref (ad 252), .ref (ad 253), .int (Int32.ofInt (Mz 251 5))]) : va_E) = _
      rw [h1, h2, h3, e1_, e2_]; rfl)
  | 1, _ => exact zg_at (k := 1) hP rfl (he 1 (by decide)) (zc_0 rfl (fun j => Mz_n (by decide) (by decide) (by decide) (by decide) j))
  | 2, _ => exact zg_at (k := 2) hP rfl (he 2 (by decide)) (zc_0 rfl (fun j => Mz_n (by decide) (by decide) (by decide) (by decide) j))
theorem zk_d {i : Nat} (h : i < 120) : zk (254 + i) = (0, 120, []) := by
  unfold zk
  rw [if_neg (by omega), if_neg (by omega), if_pos (by omega)]
theorem zg_ways {a1 : Nat} (hw : pst8 ca h a1 w) (hP : va_P D vwCl w H) (h0 : ad 222 = zfa w 0) (h1 : ad 223 = zfa w 1) (hi : ∀ i, i < 120 → ad (254 + i) = zfa w (2 + i)) (h2 : ad 224 = zfa w 122) (h3 : ad 225 = zfa w 123) (h4 : ad 0 = a1) : va_at D vwCl (ad 222, zcell ad ca Mz 222) H ∧ va_at D vwCl (ad 223, zcell ad ca Mz 223) H ∧ va_at D vwCl (ad 224, zcell ad ca Mz 224) H ∧ va_at D vwCl (ad 225, zcell ad ca Mz 225) H ∧ ∀ i, i < 120 → va_at D vwCl (ad (254 + i), zcell ad ca Mz (254 + i)) H := by
  obtain ⟨q0, q1, q2, rfl⟩ := hw
  unfold blk8 at hP h0 h1 hi h2 h3
  have hT := va_P_t hP
  have hA := va_P_l hT
  have hB := va_P_r hT
  have h1 : ad 223 = q0 := h1
  have h2 : ad 224 = q1 := by
    rw [h2, show (122 : Nat) = 121 + 1 from rfl, zfa_s, zfa_r (by rw [mnL_len]; decide), mnL_len]
    rfl
  have h3 : ad 225 = q2 := by
    rw [h3, show (123 : Nat) = 122 + 1 from rfl, zfa_s, zfa_r (by rw [mnL_len]; decide), mnL_len]
    rfl
  have hi : ∀ i, i < 120 → ad (254 + i) = q0 + 1 + i := fun i hh => by
    rw [hi i hh, show 2 + i = i + 1 + 1 by omega, zfa_s, zfa_l (by rw [mnL_len]; omega)]
    exact zfa_get (mnL_at hh)
  refine ⟨zg_at (k := 0) hP rfl h0 ?_, zg_arr (k := 0) hA rfl h1 (y := (120, .inr (.inr (.inr (.inr (fun i => some (ad (254 + 1 * i)))))))) rfl ?_, zg_at (k := 0) hB rfl h2 (zc_1 rfl (fun j => Mz_n (by decide) (by decide) (by decide) (by decide) j)), zg_at (k := 1) hB rfl h3 (zc_0 rfl (fun j => Mz_n (by decide) (by decide) (by decide) (by decide) j)), fun i hh => zg_at (k := i + 1) hA (mnL_at hh) (hi i hh) (zc_0 (zk_d hh) (fun j => Mz_n (by omega) (by omega) (by omega) (by omega) j))⟩
  · rw [zc_o (show zk 222 = (4, 8, [1, 224, 225, 226]) from rfl)]
    show (.inr (8, [.ref (ad 0), .ref (ad 223), .ref (ad 224), .ref (ad 225)]) : va_E) = _
    rw [h4, h1, h2, h3]
  · rw [vp_cell_q, vp_cell_q]
    refine arrV_cong (fun j hj => ?_)
    show va_rf (some (q0 + 1 + j)) = va_rf (some (ad (254 + 1 * j)))
    rw [Nat.one_mul, hi j hj]
theorem zk_p {i : Nat} (h : i < 10) : zk (240 + i) = (2, 20, []) := by
  rcases (show i = 0 ∨ i = 1 ∨ i = 2 ∨ i = 3 ∨ i = 4 ∨ i = 5 ∨ i = 6 ∨ i = 7 ∨ i = 8 ∨ i = 9 by omega) with rfl | rfl | rfl | rfl | rfl | rfl | rfl | rfl | rfl | rfl <;> rfl
/-- the matching's block -/
theorem zg_match {q0 q1 q2 q3 q4 q5 q6 : Nat} (hP : va_P D vwCl (blk2 ca h q0 q1 q2 q3 q4 q5 q6) H) (h0 : ad 233 = h) (h1 : ad 234 = q0) (hi : ∀ i, i < 10 → ad (240 + i) = q0 + 1 + i) (h2 : ad 235 = q1) (h3 : ad 236 = q2) (h4 : ad 237 = q3) (h5 : ad 238 = q4) (h6 : ad 239 = q5) (h7 : ad 250 = q6) : (∀ i, i < 18 → va_at D vwCl (ad (233 + i), zcell ad ca Mz (233 + i)) H) := by
  unfold blk2 at hP
  have hT := va_P_t hP
  have hA := va_P_l hT
  have hB := va_P_r hT
  have hq : ∀ i, i < 10 → va_at D vwCl (ad (240 + i), zcell ad ca Mz (240 + i)) H := fun i hh => zg_at (k := i + 1) hA (mnL_at hh) (hi i hh) (zc_2 (zk_p hh) (fun j => Mz_n (by omega) (by omega) (by omega) (by omega) j))
  intro i hh
  rcases (show i = 0 ∨ i = 1 ∨ i = 2 ∨ i = 3 ∨ i = 4 ∨ i = 5 ∨ i = 6 ∨ (7 ≤ i ∧ i < 17) ∨ i = 17 by omega) with rfl | rfl | rfl | rfl | rfl | rfl | rfl | z | rfl
  · refine zg_at (k := 0) hP rfl h0 ?_
    rw [zc_o (show zk (233 + 0) = (4, 2, [235, 236, 237, 238, 239, 240, 251]) from rfl)]
    show (.inr (2, [.ref (ad 234), .ref (ad 235), .ref (ad 236), .ref (ad 237), .ref (ad 238), .ref (ad 239), .ref (ad 250)]) : va_E) = _
    rw [h1, h2, h3, h4, h5, h6, h7]
  · refine zg_arr (k := 0) hA rfl h1 (y := (10, .inr (.inr (.inr (.inr (fun i => some (ad (240 + 1 * i)))))))) rfl ?_
    rw [vp_cell_q, vp_cell_q]
    refine arrV_cong (fun j hj => ?_)
    show va_rf (some (q0 + 1 + j)) = va_rf (some (ad (240 + 1 * j)))
    rw [Nat.one_mul, hi j hj]
  · exact zg_at (k := 0) hB rfl h2 (zc_0 rfl (fun j => Mz_n (by decide) (by decide) (by decide) (by decide) j))
  · exact zg_at (k := 1) hB rfl h3 (zc_2 rfl (fun j => Mz_n (by decide) (by decide) (by decide) (by decide) j))
  · exact zg_at (k := 2) hB rfl h4 (zc_2 rfl (fun j => Mz_n (by decide) (by decide) (by decide) (by decide) j))
  · exact zg_at (k := 3) hB rfl h5 (zc_2 rfl (fun j => Mz_n (by decide) (by decide) (by decide) (by decide) j))
  · exact zg_at (k := 4) hB rfl h6 (zc_0 rfl (fun j => Mz_n (by decide) (by decide) (by decide) (by decide) j))
  · have y := hq (i - 7) (by omega)
    rw [show 240 + (i - 7) = 233 + i by omega] at y
    exact y
  · exact zg_at (k := 5) hB rfl h7 (zc_1 rfl (fun j => Mz_n (by decide) (by decide) (by decide) (by decide) j))
theorem zg_giving {a1 a2 : Nat} (hw : pst1 ca h a1 a2 w) (hP : va_P D vwCl w H) (hf : ∀ i, i < 4 → ad (226 + i) = zfa w i) (h4 : ad 233 = zfa w 4) (h5 : ad 234 = zfa w 5) (hi : ∀ i, i < 10 → ad (240 + i) = zfa w (6 + i)) (hm : ∀ i, i < 5 → ad (235 + i) = zfa w (16 + i)) (h6 : ad 250 = zfa w 21) (hl : ∀ i, i < 3 → ad (230 + i) = zfa w (22 + i)) (h1 : ad 0 = a1) (h2 : ad 222 = a2) : ∀ i, i < 25 → va_at D vwCl (ad (226 + i), zcell ad ca Mz (226 + i)) H := by
  obtain ⟨q0, q1, q2, q3, q3_0, q3_1, q3_2, q3_3, q3_4, q3_5, q3_6, q4, q5, q6, rfl⟩ := hw
  have f0 : ad 226 = h := hf 0 (by decide)
  have f1 : ad 227 = q0 := hf 1 (by decide)
  have f2 : ad 228 = q1 := hf 2 (by decide)
  have f3 : ad 229 = q2 := hf 3 (by decide)
  have f4 : ad 233 = q3 := h4
  have f5 : ad 234 = q3_0 := h5
  have g1 : ad 235 = q3_1 := hm 0 (by decide)
  have g2 : ad 236 = q3_2 := hm 1 (by decide)
  have g3 : ad 237 = q3_3 := hm 2 (by decide)
  have g4 : ad 238 = q3_4 := hm 3 (by decide)
  have g5 : ad 239 = q3_5 := hm 4 (by decide)
  have g6 : ad 250 = q3_6 := h6
  have k1 : ad 230 = q4 := hl 0 (by decide)
  have k2 : ad 231 = q5 := hl 1 (by decide)
  have k3 : ad 232 = q6 := hl 2 (by decide)
  have hi : ∀ i, i < 10 → ad (240 + i) = q3_0 + 1 + i := fun i hh => by
    rw [hi i hh]
    rcases (show i = 0 ∨ i = 1 ∨ i = 2 ∨ i = 3 ∨ i = 4 ∨ i = 5 ∨ i = 6 ∨ i = 7 ∨ i = 8 ∨ i = 9 by omega) with rfl | rfl | rfl | rfl | rfl | rfl | rfl | rfl | rfl | rfl <;> rfl
  unfold blk1 at hP
  have hT := va_P_t (va_P_t (va_P_t (va_P_t hP)))
  have hA := va_P_l hT
  have hB := va_P_r hT
  have hM := zg_match hA f4 f5 hi g1 g2 g3 g4 g5 g6
  intro i hh
  rcases (show i = 0 ∨ i = 1 ∨ i = 2 ∨ i = 3 ∨ i = 4 ∨ i = 5 ∨ i = 6 ∨ (7 ≤ i ∧ i < 25) by omega) with rfl | rfl | rfl | rfl | rfl | rfl | rfl | z
  · refine zg_at (k := 0) hP rfl f0 ?_
    rw [zc_o (show zk (226 + 0) = (4, 1, [228, 229, 230, 0, 0, 0, 1, 223, 234, 231, 0, 232, 233]) from rfl)]
    show (.inr (1, [.ref (ad 227), .ref (ad 228), .ref (ad 229), .int (Int32.ofInt (Mz 226 3)), .int (Int32.ofInt (Mz 226 4)), .int (Int32.ofInt (Mz 226 5)), .ref (ad 0), .ref (ad 222), .ref (ad 233), .ref (ad 230), .int (Int32.ofInt (Mz 226 10)), .ref (ad 231), .ref (ad 232)]) : va_E) = _
    rw [f1, f2, f3, h1, h2, f4, k1, k2, k3]; rfl
  · exact zg_at (k := 1) hP rfl f1 (zc_0 rfl (fun j => Mz_n (by decide) (by decide) (by decide) (by decide) j))
  · exact zg_at (k := 2) hP rfl f2 (zc_0 rfl (fun j => Mz_n (by decide) (by decide) (by decide) (by decide) j))
  · exact zg_at (k := 3) hP rfl f3 (zc_0 rfl (fun j => Mz_n (by decide) (by decide) (by decide) (by decide) j))
  · exact zg_at (k := 0) hB rfl k1 (zc_0 rfl (fun j => Mz_n (by decide) (by decide) (by decide) (by decide) j))
  · exact zg_at (k := 1) hB rfl k2 (zc_0 rfl (fun j => Mz_n (by decide) (by decide) (by decide) (by decide) j))
  · exact zg_at (k := 2) hB rfl k3 (zc_0 rfl (fun j => Mz_n (by decide) (by decide) (by decide) (by decide) j))
  · have y := hM (i - 7) (by omega)
    rw [show 233 + (i - 7) = 226 + i by omega] at y
    exact y
/-- the reference's block -/
def pst11 (ca : Nat → ClassId) (h0 : Nat) (w : va_W) : Prop := ∃ q0 q1 q2 q3 q4 q5 q6 q7 q8 q9 q10 q11 q12 : Nat, w = blk11 ca h0 q0 q1 q2 q3 q4 q5 q6 q7 q8 q9 q10 q11 q12
theorem pst11_len (hw : pst11 ca h w) : w.length = 14 ∧ zfa w 0 = h := by
  obtain ⟨q0, q1, q2, q3, q4, q5, q6, q7, q8, q9, q10, q11, q12, rfl⟩ := hw
  exact ⟨rfl, rfl⟩
theorem zg_ref (hw : pst11 ca h w) (hP : va_P D vwCl w H) (he : ∀ i, i < 14 → ad (374 + i) = zfa w i) : ∀ i, i < 14 → va_at D vwCl (ad (374 + i), zcell ad ca Mz (374 + i)) H := by
  obtain ⟨q0, q1, q2, q3, q4, q5, q6, q7, q8, q9, q10, q11, q12, rfl⟩ := hw
  have e0 : ad 375 = q0 := he 1 (by decide)
  have e1_ : ad 376 = q1 := he 2 (by decide)
  have e2_ : ad 377 = q2 := he 3 (by decide)
  have e3_ : ad 378 = q3 := he 4 (by decide)
  have e4_ : ad 379 = q4 := he 5 (by decide)
  have e5_ : ad 380 = q5 := he 6 (by decide)
  have e6_ : ad 381 = q6 := he 7 (by decide)
  have e7_ : ad 382 = q7 := he 8 (by decide)
  have e8_ : ad 383 = q8 := he 9 (by decide)
  have e9_ : ad 384 = q9 := he 10 (by decide)
  have e10_ : ad 385 = q10 := he 11 (by decide)
  have e11_ : ad 386 = q11 := he 12 (by decide)
  have e12_ : ad 387 = q12 := he 13 (by decide)
  intro i hh
  rcases (show i = 0 ∨ i = 1 ∨ i = 2 ∨ i = 3 ∨ i = 4 ∨ i = 5 ∨ i = 6 ∨ i = 7 ∨ i = 8 ∨ i = 9 ∨ i = 10 ∨ i = 11 ∨ i = 12 ∨ i = 13 by omega) with rfl | rfl | rfl | rfl | rfl | rfl | rfl | rfl | rfl | rfl | rfl | rfl | rfl | rfl
  · refine zg_at (k := 0) hP rfl (he 0 (by decide)) ?_
    rw [zc_o (show zk (374 + 0) = (4, 11, [376, 0, 0, 377, 378, 379, 380, 381, 0, 0, 382, 383, 384, 385, 386, 0, 0, 0, 387, 388, 0, 0, 0, 0, 0]) from rfl), show Mz (374 + 0) = fun _ => 0 from funext (fun j => Mz_n (by decide) (by decide) (by decide) (by decide) j)]
    show (.inr (11, [.ref (ad 375), .int (Int32.ofInt 0), .int (Int32.ofInt 0), .ref (ad 376), .ref (ad 377), .ref (ad 378), .ref (ad 379), .ref (ad 380), .int (Int32.ofInt 0), .int (Int32.ofInt 0), .ref (ad 381), .ref (ad 382), .ref (ad 383), .ref (ad 384), .ref (ad 385), .int (Int32.ofInt 0), .int (Int32.ofInt 0), .int (Int32.ofInt 0), .ref (ad 386), .ref (ad 387), .int (Int32.ofInt 0), .int (Int32.ofInt 0), .int (Int32.ofInt 0), .int (Int32.ofInt 0), .int (Int32.ofInt 0)]) : va_E) = _
    rw [e0, e1_, e2_, e3_, e4_, e5_, e6_, e7_, e8_, e9_, e10_, e11_, e12_]
  · refine zg_at (k := 1) hP rfl e0 ?_
    unfold zcell
    rw [show zk (374 + 1) = (0, 2838, []) from rfl, show Mz (374 + 1) = fun j => if j = 1 ∨ j = 2 then -1 else 0 from funext (fun j => ?_)]
    · show (.inl (ca 0, 2838, .inl (fun j => Int32.ofInt (if j = 1 ∨ j = 2 then -1 else 0))) : va_E) = _
      rw [show (fun j : Nat => Int32.ofInt (if j = 1 ∨ j = 2 then -1 else 0)) = upd (upd (fun _ => Int32.ofInt 0) 1 (Int32.ofInt (-1))) 2 (Int32.ofInt (-1)) from funext (fun j => ?_)]
      unfold upd
      by_cases a : j = 2
      · rw [if_pos (Or.inr a), if_pos a]
      · rw [if_neg a]
        by_cases b : j = 1
        · rw [if_pos (Or.inl b), if_pos b]
        · rw [if_neg (by omega), if_neg b]
    · show Mz 375 j = _
      unfold Mz
      rw [if_neg (by omega), if_neg (by omega), if_neg (by omega)]
      by_cases a : j = 1 ∨ j = 2
      · rw [if_pos a, if_pos ⟨rfl, a⟩]
      · rw [if_neg a, if_neg (fun z => a z.2)]
  · exact zg_at (k := 2) hP rfl e1_ (zc_0 rfl (fun j => Mz_n (by decide) (by decide) (by decide) (by decide) j))
  · exact zg_at (k := 3) hP rfl e2_ (zc_0 rfl (fun j => Mz_n (by decide) (by decide) (by decide) (by decide) j))
  · exact zg_at (k := 4) hP rfl e3_ (zc_0 rfl (fun j => Mz_n (by decide) (by decide) (by decide) (by decide) j))
  · exact zg_at (k := 5) hP rfl e4_ (zc_0 rfl (fun j => Mz_n (by decide) (by decide) (by decide) (by decide) j))
  · exact zg_at (k := 6) hP rfl e5_ (zc_0 rfl (fun j => Mz_n (by decide) (by decide) (by decide) (by decide) j))
  · exact zg_at (k := 7) hP rfl e6_ (zc_0 rfl (fun j => Mz_n (by decide) (by decide) (by decide) (by decide) j))
  · exact zg_at (k := 8) hP rfl e7_ (zc_0 rfl (fun j => Mz_n (by decide) (by decide) (by decide) (by decide) j))
  · exact zg_at (k := 9) hP rfl e8_ (zc_0 rfl (fun j => Mz_n (by decide) (by decide) (by decide) (by decide) j))
  · exact zg_at (k := 10) hP rfl e9_ (zc_0 rfl (fun j => Mz_n (by decide) (by decide) (by decide) (by decide) j))
  · exact zg_at (k := 11) hP rfl e10_ (zc_0 rfl (fun j => Mz_n (by decide) (by decide) (by decide) (by decide) j))
  · exact zg_at (k := 12) hP rfl e11_ (zc_0 rfl (fun j => Mz_n (by decide) (by decide) (by decide) (by decide) j))
  · exact zg_at (k := 13) hP rfl e12_ (zc_0 rfl (fun j => Mz_n (by decide) (by decide) (by decide) (by decide) j))
end ZS
