/-! ### addresses out of the blocks -/
def zfa (w : va_W) (i : Nat) : Nat := (w.map Prod.fst).getD i 0
theorem zg_worldP {D : va_G} {ad : Nat → Nat} {ca : Nat → ClassId} {H : Heap} {b h : Nat} {w : va_W} (hw : pst9 ca h w) (hb : b % 19 = 0) (hb2 : b < 209) (hP : va_P D vwCl w H) (he : ∀ i, i < 19 → ad (b + i) = zfa w i) : ∀ i, i < 19 → va_at D vwCl (ad (b + i), zcell ad ca Mz (b + i)) H := by
  obtain ⟨q0, q1, q2, q3, q4, q5, q6, q7, q8, q9, q9_0, q9_1, q10, q10_0, q10_1, q11, q11_0, q11_1, rfl⟩ := hw
  exact zg_world hb hb2 hP (he 0 (by omega)) (he 1 (by omega)) (he 2 (by omega)) (he 3 (by omega)) (he 4 (by omega)) (he 5 (by omega)) (he 6 (by omega)) (he 7 (by omega)) (he 8 (by omega)) (he 9 (by omega)) (he 10 (by omega)) (he 11 (by omega)) (he 12 (by omega)) (he 13 (by omega)) (he 14 (by omega)) (he 15 (by omega)) (he 16 (by omega)) (he 17 (by omega)) (he 18 (by omega))
theorem va_P_l {D : va_G} {cl : List vw_C} {w1 w2 : va_W} {H : Heap} (h : va_P D cl (w1 ++ w2) H) : va_P D cl w1 H := fun k q hk => h k q (by rw [List.getElem?_append_left (List.getElem?_eq_some_iff.mp hk).1]; exact hk)
theorem va_P_r {D : va_G} {cl : List vw_C} {w1 w2 : va_W} {H : Heap} (h : va_P D cl (w1 ++ w2) H) : va_P D cl w2 H := fun k q hk => h (w1.length + k) q (by rw [List.getElem?_append_right (by omega), Nat.add_sub_cancel_left]; exact hk)
theorem va_P_t {D : va_G} {cl : List vw_C} {x : Nat × va_E} {w : va_W} {H : Heap} (h : va_P D cl (x :: w) H) : va_P D cl w H := fun k q hk => h (k + 1) q (by rw [List.getElem?_cons_succ]; exact hk)
theorem zfa_l {w1 w2 : va_W} {i : Nat} (h : i < w1.length) : zfa (w1 ++ w2) i = zfa w1 i := by
  unfold zfa
  rw [List.map_append, List.getD_eq_getElem?_getD, List.getD_eq_getElem?_getD, List.getElem?_append_left (by rw [List.length_map]; exact h)]
theorem zfa_r {w1 w2 : va_W} {i : Nat} (h : w1.length ≤ i) : zfa (w1 ++ w2) i = zfa w2 (i - w1.length) := by
  unfold zfa
  rw [List.map_append, List.getD_eq_getElem?_getD, List.getD_eq_getElem?_getD, List.getElem?_append_right (by rw [List.length_map]; exact h), List.length_map]
theorem zfa_s {x : Nat × va_E} {w : va_W} {i : Nat} : zfa (x :: w) (i + 1) = zfa w i := rfl
