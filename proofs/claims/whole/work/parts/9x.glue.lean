/-! ### the cells made are those of the abstract machine -/
theorem zg_at {D : va_G} {ad : Nat → Nat} {ca : Nat → ClassId} {H : Heap} {ws : va_W} {M : zM} {a k : Nat} {q : Nat} {e : va_E} (hP : va_P D vwCl ws H) (hk : ws[k]? = some (q, e)) (ha : ad a = q) (he : zcell ad ca M a = e) : va_at D vwCl (ad a, zcell ad ca M a) H := by
  rw [ha, he]
  exact hP k _ hk
theorem zg_arr {D : va_G} {ad : Nat → Nat} {ca : Nat → ClassId} {H : Heap} {ws : va_W} {M : zM} {a k : Nat} {q : Nat} {c : ClassId} {x y : vp_A} (hP : va_P D vwCl ws H) (hk : ws[k]? = some (q, .inl (c, x))) (ha : ad a = q) (he : zcell ad ca M a = .inl (c, y)) (hxy : vp_cell c x = vp_cell c y) : va_at D vwCl (ad a, zcell ad ca M a) H := by
  rw [ha, he]
  show H[q]? = some (vp_cell c y)
  rw [← hxy]
  exact hP k _ hk
theorem zk_w {b i : Nat} (hb : b % 19 = 0) (hb2 : b < 209) (hi : i < 19) : zk (b + i) = zkW (b + i) i := by
  unfold zk
  rw [if_pos (by omega), show (b + i) % 19 = i by omega]
theorem Mz_b {b i : Nat} (hb : b % 19 = 0) (hb2 : b < 209) (hi : i < 19) : Mz (b + i) = Mw i := by
  funext j
  rw [Mz_w (by omega), show (b + i) % 19 = i by omega]
set_option maxRecDepth 100000 in
theorem zg_world {D : va_G} {ad : Nat → Nat} {ca : Nat → ClassId} {H : Heap} {b h0 q0 q1 q2 q3 q4 q5 q6 q7 q8 q9 q9_0 q9_1 q10 q10_0 q10_1 q11 q11_0 q11_1 : Nat} (hb : b % 19 = 0) (hb2 : b < 209) (hP : va_P D vwCl (blk9 ca h0 q0 q1 q2 q3 q4 q5 q6 q7 q8 q9 q9_0 q9_1 q10 q10_0 q10_1 q11 q11_0 q11_1) H) (e0_ : ad (b + 0) = h0) (e1_ : ad (b + 1) = q0) (e2_ : ad (b + 2) = q1) (e3_ : ad (b + 3) = q2) (e4_ : ad (b + 4) = q3) (e5_ : ad (b + 5) = q4) (e6_ : ad (b + 6) = q5) (e7_ : ad (b + 7) = q6) (e8_ : ad (b + 8) = q7) (e9_ : ad (b + 9) = q8) (e10_ : ad (b + 10) = q9) (e11_ : ad (b + 11) = q9_0) (e12_ : ad (b + 12) = q9_1) (e13_ : ad (b + 13) = q10) (e14_ : ad (b + 14) = q10_0) (e15_ : ad (b + 15) = q10_1) (e16_ : ad (b + 16) = q11) (e17_ : ad (b + 17) = q11_0) (e18_ : ad (b + 18) = q11_1) : ∀ i, i < 19 → va_at D vwCl (ad (b + i), zcell ad ca Mz (b + i)) H := by
  intro i hi
  have hz : zcell ad ca Mz (b + i) = zcl1 ad ca (Mw i) (zkW (b + i) i) := by unfold zcell; rw [Mz_b hb hb2 hi, zk_w hb hb2 hi]
  match i, hi, hz with
  | 0, _, hz => exact zg_at (k := 0) hP rfl e0_ (hz.trans (by
      show (.inr (9, [.ref (ad (b + 1)), .ref (ad (b + 2)), .ref (ad (b + 3)), .ref (ad (b + 4)), .ref (ad (b + 5)), .ref (ad (b + 6)), .ref (ad (b + 7)), .ref (ad (b + 8)), .ref (ad (b + 9)), .int (Int32.ofInt (-5)), .int (Int32.ofInt (-5)), .int (Int32.ofInt 0)]) : va_E) = _
      rw [e1_, e2_, e3_, e4_, e5_, e6_, e7_, e8_, e9_]))
  | 1, _, hz => exact zg_at (k := 1) hP rfl e1_ (hz.trans rfl)
  | 2, _, hz => exact zg_at (k := 2) hP rfl e2_ (hz.trans rfl)
  | 3, _, hz => exact zg_at (k := 3) hP rfl e3_ (hz.trans rfl)
  | 4, _, hz => exact zg_at (k := 4) hP rfl e4_ (hz.trans rfl)
  | 5, _, hz => exact zg_at (k := 5) hP rfl e5_ (hz.trans rfl)
  | 6, _, hz => exact zg_at (k := 6) hP rfl e6_ (hz.trans rfl)
  | 7, _, hz => exact zg_at (k := 7) hP rfl e7_ (hz.trans rfl)
  | 8, _, hz => exact zg_at (k := 8) hP rfl e8_ (hz.trans rfl)
  | 9, _, hz => exact zg_arr (k := 9) hP rfl e9_ hz (by
      rw [vp_cell_q, vp_cell_q]
      refine arrV_cong (fun j hj => ?_)
      rcases (show j = 0 ∨ j = 1 ∨ j = 2 by omega) with rfl | rfl | rfl
      · show va_rf (some _) = va_rf (some (ad (b + 9 + 1 + 3 * 0)))
        rw [show b + 9 + 1 + 3 * 0 = b + 10 by omega, e10_]
      · show va_rf (some _) = va_rf (some (ad (b + 9 + 1 + 3 * 1)))
        rw [show b + 9 + 1 + 3 * 1 = b + 13 by omega, e13_]
      · show va_rf (some _) = va_rf (some (ad (b + 9 + 1 + 3 * 2)))
        rw [show b + 9 + 1 + 3 * 2 = b + 16 by omega, e16_])
  | 10, _, hz => exact zg_at (k := 10) hP rfl e10_ (hz.trans (by
      show (.inr (4, [.ref (ad (b + 11)), .ref (ad (b + 12)), .int (Int32.ofInt 0), .int (Int32.ofInt (-5))]) : va_E) = _
      rw [e11_, e12_]))
  | 11, _, hz => exact zg_at (k := 11) hP rfl e11_ (hz.trans rfl)
  | 12, _, hz => exact zg_at (k := 12) hP rfl e12_ (hz.trans rfl)
  | 13, _, hz => exact zg_at (k := 13) hP rfl e13_ (hz.trans (by
      show (.inr (4, [.ref (ad (b + 14)), .ref (ad (b + 15)), .int (Int32.ofInt 0), .int (Int32.ofInt (-5))]) : va_E) = _
      rw [e14_, e15_]))
  | 14, _, hz => exact zg_at (k := 14) hP rfl e14_ (hz.trans rfl)
  | 15, _, hz => exact zg_at (k := 15) hP rfl e15_ (hz.trans rfl)
  | 16, _, hz => exact zg_at (k := 16) hP rfl e16_ (hz.trans (by
      show (.inr (4, [.ref (ad (b + 17)), .ref (ad (b + 18)), .int (Int32.ofInt 0), .int (Int32.ofInt (-5))]) : va_E) = _
      rw [e17_, e18_]))
  | 17, _, hz => exact zg_at (k := 17) hP rfl e17_ (hz.trans rfl)
  | 18, _, hz => exact zg_at (k := 18) hP rfl e18_ (hz.trans rfl)
  | i + 19, hi, _ => omega
