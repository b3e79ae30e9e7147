/-! ### the constructors (written by program, mkinit.py) -/
def blk2 (ca : Nat → ClassId) (h0 q0 q1 q2 q3 q4 q5 q6 : Nat) : va_W := (h0, .inr (2, [.ref q0, .ref q1, .ref q2, .ref q3, .ref q4, .ref q5, .ref q6])) :: (mnL ca 4 2 (20, .inr (.inl (fun _ => Int64.ofInt 0))) 10 q0 ++ [(q1, .inl (ca 0, 20, .inl (fun _ => Int32.ofInt 0))), (q2, .inl (ca 2, 10, .inr (.inl (fun _ => Int64.ofInt 0)))), (q3, .inl (ca 2, 20, .inr (.inl (fun _ => Int64.ofInt 0)))), (q4, .inl (ca 2, 20, .inr (.inl (fun _ => Int64.ofInt 0)))), (q5, .inl (ca 0, 20, .inl (fun _ => Int32.ofInt 0))), (q6, .inl (ca 1, 20, .inl (fun _ => Int32.ofInt 0)))])
set_option maxHeartbeats 8000000 in
set_option maxRecDepth 100000 in
theorem n_X2_init (l : Launch) (D : va_G) (ca : Nat → ClassId) (h0 : Nat) (sz : Nat) : Met l yX2_init (Cond.code yX2_init cX2_init 1 none :: zT) { frames := 1, cells := 17, slots := 320, locals := 40 } (zNP D ca [.ref h0] [(h0, .inr (2, [.null, .null, .null, .null, .null, .null, .null]))] sz) (zNQ D [(h0, .inr (2, [.null, .null, .null, .null, .null, .null, .null]))] sz (fun w => ∃ q0 q1 q2 q3 q4 q5 q6 : Nat, w = blk2 ca h0 q0 q1 q2 q3 q4 q5 q6)) 17 320 (va_A [(h0, .inr (2, [.null, .null, .null, .null, .null, .null, .null]))] sz) := by
  refine Met.ofW (cc := cX2_init) (maxL := 1) (ret := none) (by decide) rfl ?_
  intro p e s m args below meth c s₁ B hml hv
  obtain ⟨rfl, hsz, hP, hK, hD0, hNo⟩ := hv
  have hx := B.exec
  have hb := B.bytes
  have hr := B.returns
  have hts0 := atoms_spec (ws := Cond.code yX2_init cX2_init 1 none :: zT) B.pre
  have hts := fun w (hw : w ∈ zT) => hts0 w (List.mem_cons_of_mem _ hw)
  have hown : s.vm.findClass RX2 = some m.cls := findClass_of_methodNamed B.named
  have hlocks := B.notSynchronized
  have hin : meth.name = "<init>" := (name_of_methodNamed B.named B.method).1
  subst hsz
  have hD := hD0.self (sz := s.heap.size)
  generalize hAe : va_A [(h0, .inr (2, [.null, .null, .null, .null, .null, .null, .null]))] s.heap.size = A at hD ⊢
  have hA : ∀ q : Nat, s.heap.size ≤ q → A q := fun q h => by rw [← hAe]; exact Or.inr h
  have hS : va_S A s.heap s.heap [] := va_S.rf
  have hl := lv_entry ([.ref h0]) (n := 1) (Nat.le_of_ble_eq_true rfl)
  rw [lg_entry_eq]
  generalize (lg_sl ([.ref h0]) ++ List.replicate (1 - (lg_sl ([.ref h0])).length) Slot.unset).toArray = ls at hl ⊢
  have hl : lv_has ls 1 [(0, .ref h0)] := hl
  refine lv_aload_n hx hb dX2_init_0 rfl (lv_at hl 0 rfl) ?_
  refine W.objInit hx hb hown (hts _ zi_324) (hts _ zi_111) (hts _ zi_112) rfl (by rw [hml]; exact hl.1) rfl dX2_init_1 (Nat.le_of_ble_eq_true rfl) (Nat.le_of_ble_eq_true rfl) ?_
  refine W.eq (g2 := F0 m 4 ls []) rfl ?_
  refine lv_aload_n hx hb dX2_init_4 rfl (lv_at hl 0 rfl) ?_
  refine lv_bipush (v := Int32.ofInt 10) hx hb dX2_init_5 (zi8 (by decide) (by decide)) ?_
  refine lv_bipush (v := Int32.ofInt 20) hx hb dX2_init_7 (zi8 (by decide) (by decide)) ?_
  refine zn_multi (n := Int32.ofInt 10) (k := Int32.ofInt 20) (N := 10) (M := 20) (a0 := (20, .inr (.inl (fun _ => Int64.ofInt 0)))) (ty := .long) hx hb hown (hts _ zi_325) hNo.2.2.2.1 (hts _ zi_351) 4 2 rfl rfl (fun _ => rfl) (fun _ => rfl) hK hP hD hS hA (zn_al 20) (zn_i 10 (by decide)).2 (zn_i 20 (by decide)).2 (zn_i 10 (by decide)).1 (zn_i 20 (by decide)).1 (Nat.le_of_ble_eq_true rfl) (Nat.le_of_ble_eq_true rfl) (Nat.le_of_ble_eq_true rfl) rfl rfl (Nat.le_of_ble_eq_true rfl) (Nat.le_of_ble_eq_true rfl) dX2_init_9 (fun q0 H locs hP hD hS => ?_)
  have hP : va_P D vwCl ((h0, .inr (2, [.null, .null, .null, .null, .null, .null, .null])) :: mnL ca 4 2 (20, .inr (.inl (fun _ => Int64.ofInt 0))) 10 q0) H := hP
  have hD : va_D A ((h0, .inr (2, [.null, .null, .null, .null, .null, .null, .null])) :: mnL ca 4 2 (20, .inr (.inl (fun _ => Int64.ofInt 0))) 10 q0) := hD
  refine va_putF (D := D) (ci := 2) (v := .ref q0) (ty := .array (.array .long)) (C := RX2) (T := TX2) (N := 7) hx hb hts (zu_all 2 _ rfl) tyX2 tyX2_ok nmX2 hown hK hP hD hS 0 rfl rfl 0 (by decide) (hts _ zi_327) (fun _ h9 => h9) rfl hin rfl (by decide +kernel) (by first | rfl | decide) rfl (Nat.le_of_ble_eq_true rfl) dX2_init_13 (fun H locs hP hD hS => ?_)
  have hP : va_P D vwCl ((h0, .inr (2, [.ref q0, .null, .null, .null, .null, .null, .null])) :: mnL ca 4 2 (20, .inr (.inl (fun _ => Int64.ofInt 0))) 10 q0) H := hP
  have hD : va_D A ((h0, .inr (2, [.ref q0, .null, .null, .null, .null, .null, .null])) :: mnL ca 4 2 (20, .inr (.inl (fun _ => Int64.ofInt 0))) 10 q0) := hD
  refine lv_aload_n hx hb dX2_init_16 rfl (lv_at hl 0 rfl) ?_
  refine lv_bipush (v := Int32.ofInt 20) hx hb dX2_init_17 (zi8 (by decide) (by decide)) ?_
  refine zn_newa (n := Int32.ofInt 20) (N := 20) (a0 := (20, .inl (fun _ => Int32.ofInt 0))) (atype := .int) hx hb (hts _ zi_148) 0 rfl rfl (fun _ => rfl) hK hP hD hS hA (zn_ai 20) (zn_i 20 (by decide)).1 (zn_i 20 (by decide)).2 (Nat.le_of_ble_eq_true rfl) (Nat.le_of_ble_eq_true rfl) (Nat.le_of_ble_eq_true rfl) dX2_init_19 (fun q1 H hP hD hS => ?_)
  have hP : va_P D vwCl ((h0, .inr (2, [.ref q0, .null, .null, .null, .null, .null, .null])) :: (mnL ca 4 2 (20, .inr (.inl (fun _ => Int64.ofInt 0))) 10 q0 ++ [(q1, .inl (ca 0, 20, .inl (fun _ => Int32.ofInt 0)))])) H := hP
  have hD : va_D A ((h0, .inr (2, [.ref q0, .null, .null, .null, .null, .null, .null])) :: (mnL ca 4 2 (20, .inr (.inl (fun _ => Int64.ofInt 0))) 10 q0 ++ [(q1, .inl (ca 0, 20, .inl (fun _ => Int32.ofInt 0)))])) := hD
  refine va_putF (D := D) (ci := 2) (v := .ref q1) (ty := .array .int) (C := RX2) (T := TX2) (N := 7) hx hb hts (zu_all 2 _ rfl) tyX2 tyX2_ok nmX2 hown hK hP hD hS 0 rfl rfl 1 (by decide) (hts _ zi_329) (fun _ h9 => h9) rfl hin rfl (by decide +kernel) (by first | rfl | decide) rfl (Nat.le_of_ble_eq_true rfl) dX2_init_21 (fun H locs hP hD hS => ?_)
  have hP : va_P D vwCl ((h0, .inr (2, [.ref q0, .ref q1, .null, .null, .null, .null, .null])) :: (mnL ca 4 2 (20, .inr (.inl (fun _ => Int64.ofInt 0))) 10 q0 ++ [(q1, .inl (ca 0, 20, .inl (fun _ => Int32.ofInt 0)))])) H := hP
  have hD : va_D A ((h0, .inr (2, [.ref q0, .ref q1, .null, .null, .null, .null, .null])) :: (mnL ca 4 2 (20, .inr (.inl (fun _ => Int64.ofInt 0))) 10 q0 ++ [(q1, .inl (ca 0, 20, .inl (fun _ => Int32.ofInt 0)))])) := hD
  refine lv_aload_n hx hb dX2_init_24 rfl (lv_at hl 0 rfl) ?_
  refine lv_bipush (v := Int32.ofInt 10) hx hb dX2_init_25 (zi8 (by decide) (by decide)) ?_
  refine zn_newa (n := Int32.ofInt 10) (N := 10) (a0 := (10, .inr (.inl (fun _ => Int64.ofInt 0)))) (atype := .long) hx hb (hts _ zi_351) 2 rfl rfl (fun _ => rfl) hK hP hD hS hA (zn_al 10) (zn_i 10 (by decide)).1 (zn_i 10 (by decide)).2 (Nat.le_of_ble_eq_true rfl) (Nat.le_of_ble_eq_true rfl) (Nat.le_of_ble_eq_true rfl) dX2_init_27 (fun q2 H hP hD hS => ?_)
  have hP : va_P D vwCl ((h0, .inr (2, [.ref q0, .ref q1, .null, .null, .null, .null, .null])) :: (mnL ca 4 2 (20, .inr (.inl (fun _ => Int64.ofInt 0))) 10 q0 ++ [(q1, .inl (ca 0, 20, .inl (fun _ => Int32.ofInt 0))), (q2, .inl (ca 2, 10, .inr (.inl (fun _ => Int64.ofInt 0))))])) H := hP
  have hD : va_D A ((h0, .inr (2, [.ref q0, .ref q1, .null, .null, .null, .null, .null])) :: (mnL ca 4 2 (20, .inr (.inl (fun _ => Int64.ofInt 0))) 10 q0 ++ [(q1, .inl (ca 0, 20, .inl (fun _ => Int32.ofInt 0))), (q2, .inl (ca 2, 10, .inr (.inl (fun _ => Int64.ofInt 0))))])) := hD
  refine va_putF (D := D) (ci := 2) (v := .ref q2) (ty := .array .long) (C := RX2) (T := TX2) (N := 7) hx hb hts (zu_all 2 _ rfl) tyX2 tyX2_ok nmX2 hown hK hP hD hS 0 rfl rfl 2 (by decide) (hts _ zi_331) (fun _ h9 => h9) rfl hin rfl (by decide +kernel) (by first | rfl | decide) rfl (Nat.le_of_ble_eq_true rfl) dX2_init_29 (fun H locs hP hD hS => ?_)
  have hP : va_P D vwCl ((h0, .inr (2, [.ref q0, .ref q1, .ref q2, .null, .null, .null, .null])) :: (mnL ca 4 2 (20, .inr (.inl (fun _ => Int64.ofInt 0))) 10 q0 ++ [(q1, .inl (ca 0, 20, .inl (fun _ => Int32.ofInt 0))), (q2, .inl (ca 2, 10, .inr (.inl (fun _ => Int64.ofInt 0))))])) H := hP
  have hD : va_D A ((h0, .inr (2, [.ref q0, .ref q1, .ref q2, .null, .null, .null, .null])) :: (mnL ca 4 2 (20, .inr (.inl (fun _ => Int64.ofInt 0))) 10 q0 ++ [(q1, .inl (ca 0, 20, .inl (fun _ => Int32.ofInt 0))), (q2, .inl (ca 2, 10, .inr (.inl (fun _ => Int64.ofInt 0))))])) := hD
  refine lv_aload_n hx hb dX2_init_32 rfl (lv_at hl 0 rfl) ?_
  refine lv_bipush (v := Int32.ofInt 20) hx hb dX2_init_33 (zi8 (by decide) (by decide)) ?_
  refine zn_newa (n := Int32.ofInt 20) (N := 20) (a0 := (20, .inr (.inl (fun _ => Int64.ofInt 0)))) (atype := .long) hx hb (hts _ zi_351) 2 rfl rfl (fun _ => rfl) hK hP hD hS hA (zn_al 20) (zn_i 20 (by decide)).1 (zn_i 20 (by decide)).2 (Nat.le_of_ble_eq_true rfl) (Nat.le_of_ble_eq_true rfl) (Nat.le_of_ble_eq_true rfl) dX2_init_35 (fun q3 H hP hD hS => ?_)
  have hP : va_P D vwCl ((h0, .inr (2, [.ref q0, .ref q1, .ref q2, .null, .null, .null, .null])) :: (mnL ca 4 2 (20, .inr (.inl (fun _ => Int64.ofInt 0))) 10 q0 ++ [(q1, .inl (ca 0, 20, .inl (fun _ => Int32.ofInt 0))), (q2, .inl (ca 2, 10, .inr (.inl (fun _ => Int64.ofInt 0)))), (q3, .inl (ca 2, 20, .inr (.inl (fun _ => Int64.ofInt 0))))])) H := hP
  have hD : va_D A ((h0, .inr (2, [.ref q0, .ref q1, .ref q2, .null, .null, .null, .null])) :: (mnL ca 4 2 (20, .inr (.inl (fun _ => Int64.ofInt 0))) 10 q0 ++ [(q1, .inl (ca 0, 20, .inl (fun _ => Int32.ofInt 0))), (q2, .inl (ca 2, 10, .inr (.inl (fun _ => Int64.ofInt 0)))), (q3, .inl (ca 2, 20, .inr (.inl (fun _ => Int64.ofInt 0))))])) := hD
  refine va_putF (D := D) (ci := 2) (v := .ref q3) (ty := .array .long) (C := RX2) (T := TX2) (N := 7) hx hb hts (zu_all 2 _ rfl) tyX2 tyX2_ok nmX2 hown hK hP hD hS 0 rfl rfl 3 (by decide) (hts _ zi_332) (fun _ h9 => h9) rfl hin rfl (by decide +kernel) (by first | rfl | decide) rfl (Nat.le_of_ble_eq_true rfl) dX2_init_37 (fun H locs hP hD hS => ?_)
  have hP : va_P D vwCl ((h0, .inr (2, [.ref q0, .ref q1, .ref q2, .ref q3, .null, .null, .null])) :: (mnL ca 4 2 (20, .inr (.inl (fun _ => Int64.ofInt 0))) 10 q0 ++ [(q1, .inl (ca 0, 20, .inl (fun _ => Int32.ofInt 0))), (q2, .inl (ca 2, 10, .inr (.inl (fun _ => Int64.ofInt 0)))), (q3, .inl (ca 2, 20, .inr (.inl (fun _ => Int64.ofInt 0))))])) H := hP
  have hD : va_D A ((h0, .inr (2, [.ref q0, .ref q1, .ref q2, .ref q3, .null, .null, .null])) :: (mnL ca 4 2 (20, .inr (.inl (fun _ => Int64.ofInt 0))) 10 q0 ++ [(q1, .inl (ca 0, 20, .inl (fun _ => Int32.ofInt 0))), (q2, .inl (ca 2, 10, .inr (.inl (fun _ => Int64.ofInt 0)))), (q3, .inl (ca 2, 20, .inr (.inl (fun _ => Int64.ofInt 0))))])) := hD
  refine lv_aload_n hx hb dX2_init_40 rfl (lv_at hl 0 rfl) ?_
  refine lv_bipush (v := Int32.ofInt 20) hx hb dX2_init_41 (zi8 (by decide) (by decide)) ?_
  refine zn_newa (n := Int32.ofInt 20) (N := 20) (a0 := (20, .inr (.inl (fun _ => Int64.ofInt 0)))) (atype := .long) hx hb (hts _ zi_351) 2 rfl rfl (fun _ => rfl) hK hP hD hS hA (zn_al 20) (zn_i 20 (by decide)).1 (zn_i 20 (by decide)).2 (Nat.le_of_ble_eq_true rfl) (Nat.le_of_ble_eq_true rfl) (Nat.le_of_ble_eq_true rfl) dX2_init_43 (fun q4 H hP hD hS => ?_)
  have hP : va_P D vwCl ((h0, .inr (2, [.ref q0, .ref q1, .ref q2, .ref q3, .null, .null, .null])) :: (mnL ca 4 2 (20, .inr (.inl (fun _ => Int64.ofInt 0))) 10 q0 ++ [(q1, .inl (ca 0, 20, .inl (fun _ => Int32.ofInt 0))), (q2, .inl (ca 2, 10, .inr (.inl (fun _ => Int64.ofInt 0)))), (q3, .inl (ca 2, 20, .inr (.inl (fun _ => Int64.ofInt 0)))), (q4, .inl (ca 2, 20, .inr (.inl (fun _ => Int64.ofInt 0))))])) H := hP
  have hD : va_D A ((h0, .inr (2, [.ref q0, .ref q1, .ref q2, .ref q3, .null, .null, .null])) :: (mnL ca 4 2 (20, .inr (.inl (fun _ => Int64.ofInt 0))) 10 q0 ++ [(q1, .inl (ca 0, 20, .inl (fun _ => Int32.ofInt 0))), (q2, .inl (ca 2, 10, .inr (.inl (fun _ => Int64.ofInt 0)))), (q3, .inl (ca 2, 20, .inr (.inl (fun _ => Int64.ofInt 0)))), (q4, .inl (ca 2, 20, .inr (.inl (fun _ => Int64.ofInt 0))))])) := hD
  refine va_putF (D := D) (ci := 2) (v := .ref q4) (ty := .array .long) (C := RX2) (T := TX2) (N := 7) hx hb hts (zu_all 2 _ rfl) tyX2 tyX2_ok nmX2 hown hK hP hD hS 0 rfl rfl 4 (by decide) (hts _ zi_333) (fun _ h9 => h9) rfl hin rfl (by decide +kernel) (by first | rfl | decide) rfl (Nat.le_of_ble_eq_true rfl) dX2_init_45 (fun H locs hP hD hS => ?_)
  have hP : va_P D vwCl ((h0, .inr (2, [.ref q0, .ref q1, .ref q2, .ref q3, .ref q4, .null, .null])) :: (mnL ca 4 2 (20, .inr (.inl (fun _ => Int64.ofInt 0))) 10 q0 ++ [(q1, .inl (ca 0, 20, .inl (fun _ => Int32.ofInt 0))), (q2, .inl (ca 2, 10, .inr (.inl (fun _ => Int64.ofInt 0)))), (q3, .inl (ca 2, 20, .inr (.inl (fun _ => Int64.ofInt 0)))), (q4, .inl (ca 2, 20, .inr (.inl (fun _ => Int64.ofInt 0))))])) H := hP
  have hD : va_D A ((h0, .inr (2, [.ref q0, .ref q1, .ref q2, .ref q3, .ref q4, .null, .null])) :: (mnL ca 4 2 (20, .inr (.inl (fun _ => Int64.ofInt 0))) 10 q0 ++ [(q1, .inl (ca 0, 20, .inl (fun _ => Int32.ofInt 0))), (q2, .inl (ca 2, 10, .inr (.inl (fun _ => Int64.ofInt 0)))), (q3, .inl (ca 2, 20, .inr (.inl (fun _ => Int64.ofInt 0)))), (q4, .inl (ca 2, 20, .inr (.inl (fun _ => Int64.ofInt 0))))])) := hD
  refine lv_aload_n hx hb dX2_init_48 rfl (lv_at hl 0 rfl) ?_
  refine lv_bipush (v := Int32.ofInt 20) hx hb dX2_init_49 (zi8 (by decide) (by decide)) ?_
  refine zn_newa (n := Int32.ofInt 20) (N := 20) (a0 := (20, .inl (fun _ => Int32.ofInt 0))) (atype := .int) hx hb (hts _ zi_148) 0 rfl rfl (fun _ => rfl) hK hP hD hS hA (zn_ai 20) (zn_i 20 (by decide)).1 (zn_i 20 (by decide)).2 (Nat.le_of_ble_eq_true rfl) (Nat.le_of_ble_eq_true rfl) (Nat.le_of_ble_eq_true rfl) dX2_init_51 (fun q5 H hP hD hS => ?_)
  have hP : va_P D vwCl ((h0, .inr (2, [.ref q0, .ref q1, .ref q2, .ref q3, .ref q4, .null, .null])) :: (mnL ca 4 2 (20, .inr (.inl (fun _ => Int64.ofInt 0))) 10 q0 ++ [(q1, .inl (ca 0, 20, .inl (fun _ => Int32.ofInt 0))), (q2, .inl (ca 2, 10, .inr (.inl (fun _ => Int64.ofInt 0)))), (q3, .inl (ca 2, 20, .inr (.inl (fun _ => Int64.ofInt 0)))), (q4, .inl (ca 2, 20, .inr (.inl (fun _ => Int64.ofInt 0)))), (q5, .inl (ca 0, 20, .inl (fun _ => Int32.ofInt 0)))])) H := hP
  have hD : va_D A ((h0, .inr (2, [.ref q0, .ref q1, .ref q2, .ref q3, .ref q4, .null, .null])) :: (mnL ca 4 2 (20, .inr (.inl (fun _ => Int64.ofInt 0))) 10 q0 ++ [(q1, .inl (ca 0, 20, .inl (fun _ => Int32.ofInt 0))), (q2, .inl (ca 2, 10, .inr (.inl (fun _ => Int64.ofInt 0)))), (q3, .inl (ca 2, 20, .inr (.inl (fun _ => Int64.ofInt 0)))), (q4, .inl (ca 2, 20, .inr (.inl (fun _ => Int64.ofInt 0)))), (q5, .inl (ca 0, 20, .inl (fun _ => Int32.ofInt 0)))])) := hD
  refine va_putF (D := D) (ci := 2) (v := .ref q5) (ty := .array .int) (C := RX2) (T := TX2) (N := 7) hx hb hts (zu_all 2 _ rfl) tyX2 tyX2_ok nmX2 hown hK hP hD hS 0 rfl rfl 5 (by decide) (hts _ zi_334) (fun _ h9 => h9) rfl hin rfl (by decide +kernel) (by first | rfl | decide) rfl (Nat.le_of_ble_eq_true rfl) dX2_init_53 (fun H locs hP hD hS => ?_)
  have hP : va_P D vwCl ((h0, .inr (2, [.ref q0, .ref q1, .ref q2, .ref q3, .ref q4, .ref q5, .null])) :: (mnL ca 4 2 (20, .inr (.inl (fun _ => Int64.ofInt 0))) 10 q0 ++ [(q1, .inl (ca 0, 20, .inl (fun _ => Int32.ofInt 0))), (q2, .inl (ca 2, 10, .inr (.inl (fun _ => Int64.ofInt 0)))), (q3, .inl (ca 2, 20, .inr (.inl (fun _ => Int64.ofInt 0)))), (q4, .inl (ca 2, 20, .inr (.inl (fun _ => Int64.ofInt 0)))), (q5, .inl (ca 0, 20, .inl (fun _ => Int32.ofInt 0)))])) H := hP
  have hD : va_D A ((h0, .inr (2, [.ref q0, .ref q1, .ref q2, .ref q3, .ref q4, .ref q5, .null])) :: (mnL ca 4 2 (20, .inr (.inl (fun _ => Int64.ofInt 0))) 10 q0 ++ [(q1, .inl (ca 0, 20, .inl (fun _ => Int32.ofInt 0))), (q2, .inl (ca 2, 10, .inr (.inl (fun _ => Int64.ofInt 0)))), (q3, .inl (ca 2, 20, .inr (.inl (fun _ => Int64.ofInt 0)))), (q4, .inl (ca 2, 20, .inr (.inl (fun _ => Int64.ofInt 0)))), (q5, .inl (ca 0, 20, .inl (fun _ => Int32.ofInt 0)))])) := hD
  refine lv_aload_n hx hb dX2_init_56 rfl (lv_at hl 0 rfl) ?_
  refine lv_bipush (v := Int32.ofInt 20) hx hb dX2_init_57 (zi8 (by decide) (by decide)) ?_
  refine zn_newa (n := Int32.ofInt 20) (N := 20) (a0 := (20, .inl (fun _ => Int32.ofInt 0))) (atype := .boolean) hx hb (hts _ zi_312) 1 rfl rfl (fun _ => rfl) hK hP hD hS hA (zn_ab 20) (zn_i 20 (by decide)).1 (zn_i 20 (by decide)).2 (Nat.le_of_ble_eq_true rfl) (Nat.le_of_ble_eq_true rfl) (Nat.le_of_ble_eq_true rfl) dX2_init_59 (fun q6 H hP hD hS => ?_)
  have hP : va_P D vwCl ((h0, .inr (2, [.ref q0, .ref q1, .ref q2, .ref q3, .ref q4, .ref q5, .null])) :: (mnL ca 4 2 (20, .inr (.inl (fun _ => Int64.ofInt 0))) 10 q0 ++ [(q1, .inl (ca 0, 20, .inl (fun _ => Int32.ofInt 0))), (q2, .inl (ca 2, 10, .inr (.inl (fun _ => Int64.ofInt 0)))), (q3, .inl (ca 2, 20, .inr (.inl (fun _ => Int64.ofInt 0)))), (q4, .inl (ca 2, 20, .inr (.inl (fun _ => Int64.ofInt 0)))), (q5, .inl (ca 0, 20, .inl (fun _ => Int32.ofInt 0))), (q6, .inl (ca 1, 20, .inl (fun _ => Int32.ofInt 0)))])) H := hP
  have hD : va_D A ((h0, .inr (2, [.ref q0, .ref q1, .ref q2, .ref q3, .ref q4, .ref q5, .null])) :: (mnL ca 4 2 (20, .inr (.inl (fun _ => Int64.ofInt 0))) 10 q0 ++ [(q1, .inl (ca 0, 20, .inl (fun _ => Int32.ofInt 0))), (q2, .inl (ca 2, 10, .inr (.inl (fun _ => Int64.ofInt 0)))), (q3, .inl (ca 2, 20, .inr (.inl (fun _ => Int64.ofInt 0)))), (q4, .inl (ca 2, 20, .inr (.inl (fun _ => Int64.ofInt 0)))), (q5, .inl (ca 0, 20, .inl (fun _ => Int32.ofInt 0))), (q6, .inl (ca 1, 20, .inl (fun _ => Int32.ofInt 0)))])) := hD
  refine va_putF (D := D) (ci := 2) (v := .ref q6) (ty := .array .boolean) (C := RX2) (T := TX2) (N := 7) hx hb hts (zu_all 2 _ rfl) tyX2 tyX2_ok nmX2 hown hK hP hD hS 0 rfl rfl 6 (by decide) (hts _ zi_335) (fun _ h9 => h9) rfl hin rfl (by decide +kernel) (by first | rfl | decide) rfl (Nat.le_of_ble_eq_true rfl) dX2_init_61 (fun H locs hP hD hS => ?_)
  have hP : va_P D vwCl ((h0, .inr (2, [.ref q0, .ref q1, .ref q2, .ref q3, .ref q4, .ref q5, .ref q6])) :: (mnL ca 4 2 (20, .inr (.inl (fun _ => Int64.ofInt 0))) 10 q0 ++ [(q1, .inl (ca 0, 20, .inl (fun _ => Int32.ofInt 0))), (q2, .inl (ca 2, 10, .inr (.inl (fun _ => Int64.ofInt 0)))), (q3, .inl (ca 2, 20, .inr (.inl (fun _ => Int64.ofInt 0)))), (q4, .inl (ca 2, 20, .inr (.inl (fun _ => Int64.ofInt 0)))), (q5, .inl (ca 0, 20, .inl (fun _ => Int32.ofInt 0))), (q6, .inl (ca 1, 20, .inl (fun _ => Int32.ofInt 0)))])) H := hP
  have hD : va_D A ((h0, .inr (2, [.ref q0, .ref q1, .ref q2, .ref q3, .ref q4, .ref q5, .ref q6])) :: (mnL ca 4 2 (20, .inr (.inl (fun _ => Int64.ofInt 0))) 10 q0 ++ [(q1, .inl (ca 0, 20, .inl (fun _ => Int32.ofInt 0))), (q2, .inl (ca 2, 10, .inr (.inl (fun _ => Int64.ofInt 0)))), (q3, .inl (ca 2, 20, .inr (.inl (fun _ => Int64.ofInt 0)))), (q4, .inl (ca 2, 20, .inr (.inl (fun _ => Int64.ofInt 0)))), (q5, .inl (ca 0, 20, .inl (fun _ => Int32.ofInt 0))), (q6, .inl (ca 1, 20, .inl (fun _ => Int32.ofInt 0)))])) := hD
  refine W.widen (k := 17) (n := 320) (Nat.le_of_ble_eq_true rfl) (Nat.le_of_ble_eq_true rfl) ?_
  refine W.vret hx hb hr (fun t ht hW => ⟨⟨(h0, .inr (2, [.ref q0, .ref q1, .ref q2, .ref q3, .ref q4, .ref q5, .ref q6])) :: (mnL ca 4 2 (20, .inr (.inl (fun _ => Int64.ofInt 0))) 10 q0 ++ [(q1, .inl (ca 0, 20, .inl (fun _ => Int32.ofInt 0))), (q2, .inl (ca 2, 10, .inr (.inl (fun _ => Int64.ofInt 0)))), (q3, .inl (ca 2, 20, .inr (.inl (fun _ => Int64.ofInt 0)))), (q4, .inl (ca 2, 20, .inr (.inl (fun _ => Int64.ofInt 0)))), (q5, .inl (ca 0, 20, .inl (fun _ => Int32.ofInt 0))), (q6, .inl (ca 1, 20, .inl (fun _ => Int32.ofInt 0)))]), rfl, ⟨q0, q1, q2, q3, q4, q5, q6, rfl⟩, by rw [ht]; exact hP, by rw [hAe]; exact hD⟩, by rw [hAe]; exact hS.F ht⟩) hS.2.2 dX2_init_64
def blk8 (ca : Nat → ClassId) (h0 a1 q0 q1 q2 : Nat) : va_W := (h0, .inr (8, [.ref a1, .ref q0, .ref q1, .ref q2])) :: (mnL ca 3 0 (120, .inl (fun _ => Int32.ofInt 0)) 120 q0 ++ [(q1, .inl (ca 1, 120, .inl (fun _ => Int32.ofInt 0))), (q2, .inl (ca 0, 120, .inl (fun _ => Int32.ofInt 0)))])
set_option maxHeartbeats 8000000 in
set_option maxRecDepth 100000 in
theorem n_X8_init (l : Launch) (D : va_G) (ca : Nat → ClassId) (h0 : Nat) (a1 : Nat) (sz : Nat) : Met l yX8_init (Cond.code yX8_init cX8_init 2 none :: zT) { frames := 1, cells := 123, slots := 14760, locals := 40 } (zNP D ca [.ref h0, .ref a1] [(h0, .inr (8, [.null, .null, .null, .null]))] sz) (zNQ D [(h0, .inr (8, [.null, .null, .null, .null]))] sz (fun w => ∃ q0 q1 q2 : Nat, w = blk8 ca h0 a1 q0 q1 q2)) 123 14760 (va_A [(h0, .inr (8, [.null, .null, .null, .null]))] sz) := by
  refine Met.ofW (cc := cX8_init) (maxL := 2) (ret := none) (by decide) rfl ?_
  intro p e s m args below meth c s₁ B hml hv
  obtain ⟨rfl, hsz, hP, hK, hD0, hNo⟩ := hv
  have hx := B.exec
  have hb := B.bytes
  have hr := B.returns
  have hts0 := atoms_spec (ws := Cond.code yX8_init cX8_init 2 none :: zT) B.pre
  have hts := fun w (hw : w ∈ zT) => hts0 w (List.mem_cons_of_mem _ hw)
  have hown : s.vm.findClass RX8 = some m.cls := findClass_of_methodNamed B.named
  have hlocks := B.notSynchronized
  have hin : meth.name = "<init>" := (name_of_methodNamed B.named B.method).1
  subst hsz
  have hD := hD0.self (sz := s.heap.size)
  generalize hAe : va_A [(h0, .inr (8, [.null, .null, .null, .null]))] s.heap.size = A at hD ⊢
  have hA : ∀ q : Nat, s.heap.size ≤ q → A q := fun q h => by rw [← hAe]; exact Or.inr h
  have hS : va_S A s.heap s.heap [] := va_S.rf
  have hl := lv_entry ([.ref h0, .ref a1]) (n := 2) (Nat.le_of_ble_eq_true rfl)
  rw [lg_entry_eq]
  generalize (lg_sl ([.ref h0, .ref a1]) ++ List.replicate (2 - (lg_sl ([.ref h0, .ref a1])).length) Slot.unset).toArray = ls at hl ⊢
  have hl : lv_has ls 2 [(0, .ref h0), (1, .ref a1)] := hl
  refine lv_aload_n hx hb dX8_init_0 rfl (lv_at hl 0 rfl) ?_
  refine W.objInit hx hb hown (hts _ zi_296) (hts _ zi_111) (hts _ zi_112) rfl (by rw [hml]; exact hl.1) rfl dX8_init_1 (Nat.le_of_ble_eq_true rfl) (Nat.le_of_ble_eq_true rfl) ?_
  refine W.eq (g2 := F0 m 4 ls []) rfl ?_
  refine lv_aload_n hx hb dX8_init_4 rfl (lv_at hl 0 rfl) ?_
  refine lv_bipush (v := Int32.ofInt 120) hx hb dX8_init_5 (zi8 (by decide) (by decide)) ?_
  refine lv_bipush (v := Int32.ofInt 120) hx hb dX8_init_7 (zi8 (by decide) (by decide)) ?_
  refine zn_multi (n := Int32.ofInt 120) (k := Int32.ofInt 120) (N := 120) (M := 120) (a0 := (120, .inl (fun _ => Int32.ofInt 0))) (ty := .int) hx hb hown (hts _ zi_297) hNo.2.2.1 (hts _ zi_148) 3 0 rfl rfl (fun _ => rfl) (fun _ => rfl) hK hP hD hS hA (zn_ai 120) (zn_i 120 (by decide)).2 (zn_i 120 (by decide)).2 (zn_i 120 (by decide)).1 (zn_i 120 (by decide)).1 (Nat.le_of_ble_eq_true rfl) (Nat.le_of_ble_eq_true rfl) (Nat.le_of_ble_eq_true rfl) rfl rfl (Nat.le_of_ble_eq_true rfl) (Nat.le_of_ble_eq_true rfl) dX8_init_9 (fun q0 H locs hP hD hS => ?_)
  have hP : va_P D vwCl ((h0, .inr (8, [.null, .null, .null, .null])) :: mnL ca 3 0 (120, .inl (fun _ => Int32.ofInt 0)) 120 q0) H := hP
  have hD : va_D A ((h0, .inr (8, [.null, .null, .null, .null])) :: mnL ca 3 0 (120, .inl (fun _ => Int32.ofInt 0)) 120 q0) := hD
  refine va_putF (D := D) (ci := 8) (v := .ref q0) (ty := .array (.array .int)) (C := RX8) (T := TX8) (N := 4) hx hb hts (zu_all 8 _ rfl) tyX8 tyX8_ok nmX8 hown hK hP hD hS 0 rfl rfl 1 (by decide) (hts _ zi_300) (fun _ h9 => h9) rfl hin rfl (by decide +kernel) (by first | rfl | decide) rfl (Nat.le_of_ble_eq_true rfl) dX8_init_13 (fun H locs hP hD hS => ?_)
  have hP : va_P D vwCl ((h0, .inr (8, [.null, .ref q0, .null, .null])) :: mnL ca 3 0 (120, .inl (fun _ => Int32.ofInt 0)) 120 q0) H := hP
  have hD : va_D A ((h0, .inr (8, [.null, .ref q0, .null, .null])) :: mnL ca 3 0 (120, .inl (fun _ => Int32.ofInt 0)) 120 q0) := hD
  refine lv_aload_n hx hb dX8_init_16 rfl (lv_at hl 0 rfl) ?_
  refine lv_bipush (v := Int32.ofInt 120) hx hb dX8_init_17 (zi8 (by decide) (by decide)) ?_
  refine zn_newa (n := Int32.ofInt 120) (N := 120) (a0 := (120, .inl (fun _ => Int32.ofInt 0))) (atype := .boolean) hx hb (hts _ zi_312) 1 rfl rfl (fun _ => rfl) hK hP hD hS hA (zn_ab 120) (zn_i 120 (by decide)).1 (zn_i 120 (by decide)).2 (Nat.le_of_ble_eq_true rfl) (Nat.le_of_ble_eq_true rfl) (Nat.le_of_ble_eq_true rfl) dX8_init_19 (fun q1 H hP hD hS => ?_)
  have hP : va_P D vwCl ((h0, .inr (8, [.null, .ref q0, .null, .null])) :: (mnL ca 3 0 (120, .inl (fun _ => Int32.ofInt 0)) 120 q0 ++ [(q1, .inl (ca 1, 120, .inl (fun _ => Int32.ofInt 0)))])) H := hP
  have hD : va_D A ((h0, .inr (8, [.null, .ref q0, .null, .null])) :: (mnL ca 3 0 (120, .inl (fun _ => Int32.ofInt 0)) 120 q0 ++ [(q1, .inl (ca 1, 120, .inl (fun _ => Int32.ofInt 0)))])) := hD
  refine va_putF (D := D) (ci := 8) (v := .ref q1) (ty := .array .boolean) (C := RX8) (T := TX8) (N := 4) hx hb hts (zu_all 8 _ rfl) tyX8 tyX8_ok nmX8 hown hK hP hD hS 0 rfl rfl 2 (by decide) (hts _ zi_301) (fun _ h9 => h9) rfl hin rfl (by decide +kernel) (by first | rfl | decide) rfl (Nat.le_of_ble_eq_true rfl) dX8_init_21 (fun H locs hP hD hS => ?_)
  have hP : va_P D vwCl ((h0, .inr (8, [.null, .ref q0, .ref q1, .null])) :: (mnL ca 3 0 (120, .inl (fun _ => Int32.ofInt 0)) 120 q0 ++ [(q1, .inl (ca 1, 120, .inl (fun _ => Int32.ofInt 0)))])) H := hP
  have hD : va_D A ((h0, .inr (8, [.null, .ref q0, .ref q1, .null])) :: (mnL ca 3 0 (120, .inl (fun _ => Int32.ofInt 0)) 120 q0 ++ [(q1, .inl (ca 1, 120, .inl (fun _ => Int32.ofInt 0)))])) := hD
  refine lv_aload_n hx hb dX8_init_24 rfl (lv_at hl 0 rfl) ?_
  refine lv_bipush (v := Int32.ofInt 120) hx hb dX8_init_25 (zi8 (by decide) (by decide)) ?_
  refine zn_newa (n := Int32.ofInt 120) (N := 120) (a0 := (120, .inl (fun _ => Int32.ofInt 0))) (atype := .int) hx hb (hts _ zi_148) 0 rfl rfl (fun _ => rfl) hK hP hD hS hA (zn_ai 120) (zn_i 120 (by decide)).1 (zn_i 120 (by decide)).2 (Nat.le_of_ble_eq_true rfl) (Nat.le_of_ble_eq_true rfl) (Nat.le_of_ble_eq_true rfl) dX8_init_27 (fun q2 H hP hD hS => ?_)
  have hP : va_P D vwCl ((h0, .inr (8, [.null, .ref q0, .ref q1, .null])) :: (mnL ca 3 0 (120, .inl (fun _ => Int32.ofInt 0)) 120 q0 ++ [(q1, .inl (ca 1, 120, .inl (fun _ => Int32.ofInt 0))), (q2, .inl (ca 0, 120, .inl (fun _ => Int32.ofInt 0)))])) H := hP
  have hD : va_D A ((h0, .inr (8, [.null, .ref q0, .ref q1, .null])) :: (mnL ca 3 0 (120, .inl (fun _ => Int32.ofInt 0)) 120 q0 ++ [(q1, .inl (ca 1, 120, .inl (fun _ => Int32.ofInt 0))), (q2, .inl (ca 0, 120, .inl (fun _ => Int32.ofInt 0)))])) := hD
  refine va_putF (D := D) (ci := 8) (v := .ref q2) (ty := .array .int) (C := RX8) (T := TX8) (N := 4) hx hb hts (zu_all 8 _ rfl) tyX8 tyX8_ok nmX8 hown hK hP hD hS 0 rfl rfl 3 (by decide) (hts _ zi_302) (fun _ h9 => h9) rfl hin rfl (by decide +kernel) (by first | rfl | decide) rfl (Nat.le_of_ble_eq_true rfl) dX8_init_29 (fun H locs hP hD hS => ?_)
  have hP : va_P D vwCl ((h0, .inr (8, [.null, .ref q0, .ref q1, .ref q2])) :: (mnL ca 3 0 (120, .inl (fun _ => Int32.ofInt 0)) 120 q0 ++ [(q1, .inl (ca 1, 120, .inl (fun _ => Int32.ofInt 0))), (q2, .inl (ca 0, 120, .inl (fun _ => Int32.ofInt 0)))])) H := hP
  have hD : va_D A ((h0, .inr (8, [.null, .ref q0, .ref q1, .ref q2])) :: (mnL ca 3 0 (120, .inl (fun _ => Int32.ofInt 0)) 120 q0 ++ [(q1, .inl (ca 1, 120, .inl (fun _ => Int32.ofInt 0))), (q2, .inl (ca 0, 120, .inl (fun _ => Int32.ofInt 0)))])) := hD
  refine lv_aload_n hx hb dX8_init_32 rfl (lv_at hl 0 rfl) ?_
  refine lv_aload_n hx hb dX8_init_33 rfl (lv_at hl 1 rfl) ?_
  refine va_putF (D := D) (ci := 8) (v := .ref a1) (ty := .object "SwarmPlanner$World") (C := RX8) (T := TX8) (N := 4) hx hb hts (zu_all 8 _ rfl) tyX8 tyX8_ok nmX8 hown hK hP hD hS 0 rfl rfl 0 (by decide) (hts _ zi_299) (fun _ h9 => h9) rfl hin rfl (by decide +kernel) (by first | rfl | decide) rfl (Nat.le_of_ble_eq_true rfl) dX8_init_34 (fun H locs hP hD hS => ?_)
  have hP : va_P D vwCl ((h0, .inr (8, [.ref a1, .ref q0, .ref q1, .ref q2])) :: (mnL ca 3 0 (120, .inl (fun _ => Int32.ofInt 0)) 120 q0 ++ [(q1, .inl (ca 1, 120, .inl (fun _ => Int32.ofInt 0))), (q2, .inl (ca 0, 120, .inl (fun _ => Int32.ofInt 0)))])) H := hP
  have hD : va_D A ((h0, .inr (8, [.ref a1, .ref q0, .ref q1, .ref q2])) :: (mnL ca 3 0 (120, .inl (fun _ => Int32.ofInt 0)) 120 q0 ++ [(q1, .inl (ca 1, 120, .inl (fun _ => Int32.ofInt 0))), (q2, .inl (ca 0, 120, .inl (fun _ => Int32.ofInt 0)))])) := hD
  refine W.widen (k := 123) (n := 14760) (Nat.le_of_ble_eq_true rfl) (Nat.le_of_ble_eq_true rfl) ?_
  refine W.vret hx hb hr (fun t ht hW => ⟨⟨(h0, .inr (8, [.ref a1, .ref q0, .ref q1, .ref q2])) :: (mnL ca 3 0 (120, .inl (fun _ => Int32.ofInt 0)) 120 q0 ++ [(q1, .inl (ca 1, 120, .inl (fun _ => Int32.ofInt 0))), (q2, .inl (ca 0, 120, .inl (fun _ => Int32.ofInt 0)))]), rfl, ⟨q0, q1, q2, rfl⟩, by rw [ht]; exact hP, by rw [hAe]; exact hD⟩, by rw [hAe]; exact hS.F ht⟩) hS.2.2 dX8_init_37
