/-! ### the constructors (written by program, mkinit.py) -/
def blk4 (ca : Nat → ClassId) (h0 q0 q1 : Nat) : va_W := [(h0, .inr (4, [.ref q0, .ref q1, .int (Int32.ofInt 0), .int (Int32.ofInt (-5))])), (q0, .inl (ca 0, 10, .inl (fun _ => Int32.ofInt 0))), (q1, .inl (ca 0, 10, .inl (fun _ => Int32.ofInt 0)))]
set_option maxHeartbeats 8000000 in
set_option maxRecDepth 100000 in
theorem n_X4_init (l : Launch) (D : va_G) (ca : Nat → ClassId) (h0 : Nat) (sz : Nat) : Met l yX4_init (Cond.code yX4_init cX4_init 1 none :: zT) { frames := 1, cells := 2, slots := 20, locals := 40 } (zNP D ca [.ref h0] [(h0, .inr (4, [.null, .null, .int (Int32.ofInt 0), .int (Int32.ofInt 0)]))] sz) (zNQ D [(h0, .inr (4, [.null, .null, .int (Int32.ofInt 0), .int (Int32.ofInt 0)]))] sz (fun w => ∃ q0 q1 : Nat, w = blk4 ca h0 q0 q1)) 2 20 (va_A [(h0, .inr (4, [.null, .null, .int (Int32.ofInt 0), .int (Int32.ofInt 0)]))] sz) := by
  refine Met.ofW (cc := cX4_init) (maxL := 1) (ret := none) (by decide) rfl ?_
  intro p e s m args below meth c s₁ B hml hv
  obtain ⟨rfl, hsz, hP, hK, hD0, hNo⟩ := hv
  have hx := B.exec
  have hb := B.bytes
  have hr := B.returns
  have hts0 := atoms_spec (ws := Cond.code yX4_init cX4_init 1 none :: zT) B.pre
  have hts := fun w (hw : w ∈ zT) => hts0 w (List.mem_cons_of_mem _ hw)
  have hown : s.vm.findClass RX4 = some m.cls := findClass_of_methodNamed B.named
  have hlocks := B.notSynchronized
  have hin : meth.name = "<init>" := (name_of_methodNamed B.named B.method).1
  subst hsz
  have hD := hD0.self (sz := s.heap.size)
  generalize hAe : va_A [(h0, .inr (4, [.null, .null, .int (Int32.ofInt 0), .int (Int32.ofInt 0)]))] s.heap.size = A at hD ⊢
  have hA : ∀ q : Nat, s.heap.size ≤ q → A q := fun q h => by rw [← hAe]; exact Or.inr h
  have hS : va_S A s.heap s.heap [] := va_S.rf
  have hl := lv_entry ([.ref h0]) (n := 1) (Nat.le_of_ble_eq_true rfl)
  rw [lg_entry_eq]
  generalize (lg_sl ([.ref h0]) ++ List.replicate (1 - (lg_sl ([.ref h0])).length) Slot.unset).toArray = ls at hl ⊢
  have hl : lv_has ls 1 [(0, .ref h0)] := hl
  refine lv_aload_n hx hb dX4_init_0 rfl (lv_at hl 0 rfl) ?_
  refine W.objInit hx hb hown (hts _ zi_127) (hts _ zi_110) (hts _ zi_111) rfl (by rw [hml]; exact hl.1) rfl dX4_init_1 (Nat.le_of_ble_eq_true rfl) (Nat.le_of_ble_eq_true rfl) ?_
  refine W.eq (g2 := F0 m 4 ls []) rfl ?_
  refine lv_aload_n hx hb dX4_init_4 rfl (lv_at hl 0 rfl) ?_
  refine lv_bipush (v := Int32.ofInt 10) hx hb dX4_init_5 (zi8 (by decide) (by decide)) ?_
  refine zn_newa (n := Int32.ofInt 10) (N := 10) (a0 := (10, .inl (fun _ => Int32.ofInt 0))) (atype := .int) hx hb (hts _ zi_147) 0 rfl rfl (fun _ => rfl) hK hP hD hS hA (zn_ai 10) (zn_i 10 (by decide)).1 (zn_i 10 (by decide)).2 (Nat.le_of_ble_eq_true rfl) (Nat.le_of_ble_eq_true rfl) (Nat.le_of_ble_eq_true rfl) dX4_init_7 (fun q0 H hP hD hS => ?_)
  have hP : va_P D vwCl ([(h0, .inr (4, [.null, .null, .int (Int32.ofInt 0), .int (Int32.ofInt 0)])), (q0, .inl (ca 0, 10, .inl (fun _ => Int32.ofInt 0)))]) H := hP
  have hD : va_D A ([(h0, .inr (4, [.null, .null, .int (Int32.ofInt 0), .int (Int32.ofInt 0)])), (q0, .inl (ca 0, 10, .inl (fun _ => Int32.ofInt 0)))]) := hD
  refine va_putF (D := D) (ci := 4) (v := .ref q0) (ty := .array .int) (C := RX4) (T := TX4) (N := 4) hx hb hts (zu_all 4 _ rfl) tyX4 tyX4_ok nmX4 hown hK hP hD hS 0 rfl rfl 0 (by decide) (hts _ zi_128) (fun _ h9 => h9) rfl hin rfl (by decide +kernel) (by first | rfl | decide) rfl (Nat.le_of_ble_eq_true rfl) dX4_init_9 (fun H locs hP hD hS => ?_)
  have hP : va_P D vwCl ([(h0, .inr (4, [.ref q0, .null, .int (Int32.ofInt 0), .int (Int32.ofInt 0)])), (q0, .inl (ca 0, 10, .inl (fun _ => Int32.ofInt 0)))]) H := hP
  have hD : va_D A ([(h0, .inr (4, [.ref q0, .null, .int (Int32.ofInt 0), .int (Int32.ofInt 0)])), (q0, .inl (ca 0, 10, .inl (fun _ => Int32.ofInt 0)))]) := hD
  refine lv_aload_n hx hb dX4_init_12 rfl (lv_at hl 0 rfl) ?_
  refine lv_bipush (v := Int32.ofInt 10) hx hb dX4_init_13 (zi8 (by decide) (by decide)) ?_
  refine zn_newa (n := Int32.ofInt 10) (N := 10) (a0 := (10, .inl (fun _ => Int32.ofInt 0))) (atype := .int) hx hb (hts _ zi_147) 0 rfl rfl (fun _ => rfl) hK hP hD hS hA (zn_ai 10) (zn_i 10 (by decide)).1 (zn_i 10 (by decide)).2 (Nat.le_of_ble_eq_true rfl) (Nat.le_of_ble_eq_true rfl) (Nat.le_of_ble_eq_true rfl) dX4_init_15 (fun q1 H hP hD hS => ?_)
  have hP : va_P D vwCl ([(h0, .inr (4, [.ref q0, .null, .int (Int32.ofInt 0), .int (Int32.ofInt 0)])), (q0, .inl (ca 0, 10, .inl (fun _ => Int32.ofInt 0))), (q1, .inl (ca 0, 10, .inl (fun _ => Int32.ofInt 0)))]) H := hP
  have hD : va_D A ([(h0, .inr (4, [.ref q0, .null, .int (Int32.ofInt 0), .int (Int32.ofInt 0)])), (q0, .inl (ca 0, 10, .inl (fun _ => Int32.ofInt 0))), (q1, .inl (ca 0, 10, .inl (fun _ => Int32.ofInt 0)))]) := hD
  refine va_putF (D := D) (ci := 4) (v := .ref q1) (ty := .array .int) (C := RX4) (T := TX4) (N := 4) hx hb hts (zu_all 4 _ rfl) tyX4 tyX4_ok nmX4 hown hK hP hD hS 0 rfl rfl 1 (by decide) (hts _ zi_129) (fun _ h9 => h9) rfl hin rfl (by decide +kernel) (by first | rfl | decide) rfl (Nat.le_of_ble_eq_true rfl) dX4_init_17 (fun H locs hP hD hS => ?_)
  have hP : va_P D vwCl ([(h0, .inr (4, [.ref q0, .ref q1, .int (Int32.ofInt 0), .int (Int32.ofInt 0)])), (q0, .inl (ca 0, 10, .inl (fun _ => Int32.ofInt 0))), (q1, .inl (ca 0, 10, .inl (fun _ => Int32.ofInt 0)))]) H := hP
  have hD : va_D A ([(h0, .inr (4, [.ref q0, .ref q1, .int (Int32.ofInt 0), .int (Int32.ofInt 0)])), (q0, .inl (ca 0, 10, .inl (fun _ => Int32.ofInt 0))), (q1, .inl (ca 0, 10, .inl (fun _ => Int32.ofInt 0)))]) := hD
  refine lv_aload_n hx hb dX4_init_20 rfl (lv_at hl 0 rfl) ?_
  refine lv_iconst (v := Int32.ofInt 0) hx hb dX4_init_21 rfl ?_
  refine va_put (D := D) (ci := 4) (v := .int (Int32.ofInt 0)) (ty := .int) (C := RX4) (T := TX4) (N := 4) hx hb hts (zu_all 4 _ rfl) tyX4 tyX4_ok nmX4 hown hK hP hD hS 0 rfl rfl 2 (by decide) (hts _ zi_130) (fun _ h9 => h9) rfl (by decide +kernel) (by first | rfl | decide) rfl (Nat.le_of_ble_eq_true rfl) dX4_init_22 (fun H locs hP hD hS => ?_)
  have hP : va_P D vwCl ([(h0, .inr (4, [.ref q0, .ref q1, .int (Int32.ofInt 0), .int (Int32.ofInt 0)])), (q0, .inl (ca 0, 10, .inl (fun _ => Int32.ofInt 0))), (q1, .inl (ca 0, 10, .inl (fun _ => Int32.ofInt 0)))]) H := hP
  have hD : va_D A ([(h0, .inr (4, [.ref q0, .ref q1, .int (Int32.ofInt 0), .int (Int32.ofInt 0)])), (q0, .inl (ca 0, 10, .inl (fun _ => Int32.ofInt 0))), (q1, .inl (ca 0, 10, .inl (fun _ => Int32.ofInt 0)))]) := hD
  refine lv_aload_n hx hb dX4_init_25 rfl (lv_at hl 0 rfl) ?_
  refine lv_bipush (v := Int32.ofInt (-5)) hx hb dX4_init_26 (zi8 (by decide) (by decide)) ?_
  refine va_put (D := D) (ci := 4) (v := .int (Int32.ofInt (-5))) (ty := .int) (C := RX4) (T := TX4) (N := 4) hx hb hts (zu_all 4 _ rfl) tyX4 tyX4_ok nmX4 hown hK hP hD hS 0 rfl rfl 3 (by decide) (hts _ zi_134) (fun _ h9 => h9) rfl (by decide +kernel) (by first | rfl | decide) rfl (Nat.le_of_ble_eq_true rfl) dX4_init_28 (fun H locs hP hD hS => ?_)
  have hP : va_P D vwCl ([(h0, .inr (4, [.ref q0, .ref q1, .int (Int32.ofInt 0), .int (Int32.ofInt (-5))])), (q0, .inl (ca 0, 10, .inl (fun _ => Int32.ofInt 0))), (q1, .inl (ca 0, 10, .inl (fun _ => Int32.ofInt 0)))]) H := hP
  have hD : va_D A ([(h0, .inr (4, [.ref q0, .ref q1, .int (Int32.ofInt 0), .int (Int32.ofInt (-5))])), (q0, .inl (ca 0, 10, .inl (fun _ => Int32.ofInt 0))), (q1, .inl (ca 0, 10, .inl (fun _ => Int32.ofInt 0)))]) := hD
  refine W.widen (k := 2) (n := 20) (Nat.le_of_ble_eq_true rfl) (Nat.le_of_ble_eq_true rfl) ?_
  refine W.vret hx hb hr (fun t ht hW => ⟨⟨[(h0, .inr (4, [.ref q0, .ref q1, .int (Int32.ofInt 0), .int (Int32.ofInt (-5))])), (q0, .inl (ca 0, 10, .inl (fun _ => Int32.ofInt 0))), (q1, .inl (ca 0, 10, .inl (fun _ => Int32.ofInt 0)))], rfl, ⟨q0, q1, rfl⟩, by rw [ht]; exact hP, by rw [hAe]; exact hD⟩, by rw [hAe]; exact hS.F ht⟩) hS.2.2 dX4_init_31
def blk6 (ca : Nat → ClassId) (h0 q0 : Nat) : va_W := [(h0, .inr (6, [.int (Int32.ofInt 0), .ref q0])), (q0, .inl (ca 0, 60, .inl (fun _ => Int32.ofInt 0)))]
set_option maxHeartbeats 8000000 in
set_option maxRecDepth 100000 in
theorem n_X6_init (l : Launch) (D : va_G) (ca : Nat → ClassId) (h0 : Nat) (sz : Nat) : Met l yX6_init (Cond.code yX6_init cX6_init 1 none :: zT) { frames := 1, cells := 1, slots := 60, locals := 40 } (zNP D ca [.ref h0] [(h0, .inr (6, [.int (Int32.ofInt 0), .null]))] sz) (zNQ D [(h0, .inr (6, [.int (Int32.ofInt 0), .null]))] sz (fun w => ∃ q0 : Nat, w = blk6 ca h0 q0)) 1 60 (va_A [(h0, .inr (6, [.int (Int32.ofInt 0), .null]))] sz) := by
  refine Met.ofW (cc := cX6_init) (maxL := 1) (ret := none) (by decide) rfl ?_
  intro p e s m args below meth c s₁ B hml hv
  obtain ⟨rfl, hsz, hP, hK, hD0, hNo⟩ := hv
  have hx := B.exec
  have hb := B.bytes
  have hr := B.returns
  have hts0 := atoms_spec (ws := Cond.code yX6_init cX6_init 1 none :: zT) B.pre
  have hts := fun w (hw : w ∈ zT) => hts0 w (List.mem_cons_of_mem _ hw)
  have hown : s.vm.findClass RX6 = some m.cls := findClass_of_methodNamed B.named
  have hlocks := B.notSynchronized
  have hin : meth.name = "<init>" := (name_of_methodNamed B.named B.method).1
  subst hsz
  have hD := hD0.self (sz := s.heap.size)
  generalize hAe : va_A [(h0, .inr (6, [.int (Int32.ofInt 0), .null]))] s.heap.size = A at hD ⊢
  have hA : ∀ q : Nat, s.heap.size ≤ q → A q := fun q h => by rw [← hAe]; exact Or.inr h
  have hS : va_S A s.heap s.heap [] := va_S.rf
  have hl := lv_entry ([.ref h0]) (n := 1) (Nat.le_of_ble_eq_true rfl)
  rw [lg_entry_eq]
  generalize (lg_sl ([.ref h0]) ++ List.replicate (1 - (lg_sl ([.ref h0])).length) Slot.unset).toArray = ls at hl ⊢
  have hl : lv_has ls 1 [(0, .ref h0)] := hl
  refine lv_aload_n hx hb dX6_init_0 rfl (lv_at hl 0 rfl) ?_
  refine W.objInit hx hb hown (hts _ zi_234) (hts _ zi_110) (hts _ zi_111) rfl (by rw [hml]; exact hl.1) rfl dX6_init_1 (Nat.le_of_ble_eq_true rfl) (Nat.le_of_ble_eq_true rfl) ?_
  refine W.eq (g2 := F0 m 4 ls []) rfl ?_
  refine lv_aload_n hx hb dX6_init_4 rfl (lv_at hl 0 rfl) ?_
  refine lv_iconst (v := Int32.ofInt 0) hx hb dX6_init_5 rfl ?_
  refine va_put (D := D) (ci := 6) (v := .int (Int32.ofInt 0)) (ty := .int) (C := RX6) (T := TX6) (N := 2) hx hb hts (zu_all 6 _ rfl) tyX6 tyX6_ok nmX6 hown hK hP hD hS 0 rfl rfl 0 (by decide) (hts _ zi_235) (fun _ h9 => h9) rfl (by decide +kernel) (by first | rfl | decide) rfl (Nat.le_of_ble_eq_true rfl) dX6_init_6 (fun H locs hP hD hS => ?_)
  have hP : va_P D vwCl ([(h0, .inr (6, [.int (Int32.ofInt 0), .null]))]) H := hP
  have hD : va_D A ([(h0, .inr (6, [.int (Int32.ofInt 0), .null]))]) := hD
  refine lv_aload_n hx hb dX6_init_9 rfl (lv_at hl 0 rfl) ?_
  refine lv_bipush (v := Int32.ofInt 60) hx hb dX6_init_10 (zi8 (by decide) (by decide)) ?_
  refine zn_newa (n := Int32.ofInt 60) (N := 60) (a0 := (60, .inl (fun _ => Int32.ofInt 0))) (atype := .int) hx hb (hts _ zi_147) 0 rfl rfl (fun _ => rfl) hK hP hD hS hA (zn_ai 60) (zn_i 60 (by decide)).1 (zn_i 60 (by decide)).2 (Nat.le_of_ble_eq_true rfl) (Nat.le_of_ble_eq_true rfl) (Nat.le_of_ble_eq_true rfl) dX6_init_12 (fun q0 H hP hD hS => ?_)
  have hP : va_P D vwCl ([(h0, .inr (6, [.int (Int32.ofInt 0), .null])), (q0, .inl (ca 0, 60, .inl (fun _ => Int32.ofInt 0)))]) H := hP
  have hD : va_D A ([(h0, .inr (6, [.int (Int32.ofInt 0), .null])), (q0, .inl (ca 0, 60, .inl (fun _ => Int32.ofInt 0)))]) := hD
  refine va_putF (D := D) (ci := 6) (v := .ref q0) (ty := .array .int) (C := RX6) (T := TX6) (N := 2) hx hb hts (zu_all 6 _ rfl) tyX6 tyX6_ok nmX6 hown hK hP hD hS 0 rfl rfl 1 (by decide) (hts _ zi_239) (fun _ h9 => h9) rfl hin rfl (by decide +kernel) (by first | rfl | decide) rfl (Nat.le_of_ble_eq_true rfl) dX6_init_14 (fun H locs hP hD hS => ?_)
  have hP : va_P D vwCl ([(h0, .inr (6, [.int (Int32.ofInt 0), .ref q0])), (q0, .inl (ca 0, 60, .inl (fun _ => Int32.ofInt 0)))]) H := hP
  have hD : va_D A ([(h0, .inr (6, [.int (Int32.ofInt 0), .ref q0])), (q0, .inl (ca 0, 60, .inl (fun _ => Int32.ofInt 0)))]) := hD
  refine W.widen (k := 1) (n := 60) (Nat.le_of_ble_eq_true rfl) (Nat.le_of_ble_eq_true rfl) ?_
  refine W.vret hx hb hr (fun t ht hW => ⟨⟨[(h0, .inr (6, [.int (Int32.ofInt 0), .ref q0])), (q0, .inl (ca 0, 60, .inl (fun _ => Int32.ofInt 0)))], rfl, ⟨q0, rfl⟩, by rw [ht]; exact hP, by rw [hAe]; exact hD⟩, by rw [hAe]; exact hS.F ht⟩) hS.2.2 dX6_init_17
def blk5 (ca : Nat → ClassId) (h0 q0 q0_0 q0_1 : Nat) : va_W := [(h0, .inr (5, [.ref q0, .int (Int32.ofInt 0), .int (Int32.ofInt 0)])), (q0, .inr (4, [.ref q0_0, .ref q0_1, .int (Int32.ofInt 0), .int (Int32.ofInt (-5))])), (q0_0, .inl (ca 0, 10, .inl (fun _ => Int32.ofInt 0))), (q0_1, .inl (ca 0, 10, .inl (fun _ => Int32.ofInt 0)))]
set_option maxHeartbeats 8000000 in
set_option maxRecDepth 100000 in
theorem n_X5_init (l : Launch) (D : va_G) (ca : Nat → ClassId) (h0 : Nat) (sz : Nat) : Met l yX5_init (Cond.code yX5_init cX5_init 1 none :: zT) { frames := 2, cells := 3, slots := 24, locals := 80 } (zNP D ca [.ref h0] [(h0, .inr (5, [.null, .int (Int32.ofInt 0), .int (Int32.ofInt 0)]))] sz) (zNQ D [(h0, .inr (5, [.null, .int (Int32.ofInt 0), .int (Int32.ofInt 0)]))] sz (fun w => ∃ q0 q0_0 q0_1 : Nat, w = blk5 ca h0 q0 q0_0 q0_1)) 3 24 (va_A [(h0, .inr (5, [.null, .int (Int32.ofInt 0), .int (Int32.ofInt 0)]))] sz) := by
  refine Met.ofW (cc := cX5_init) (maxL := 1) (ret := none) (by decide) rfl ?_
  intro p e s m args below meth c s₁ B hml hv
  obtain ⟨rfl, hsz, hP, hK, hD0, hNo⟩ := hv
  have hx := B.exec
  have hb := B.bytes
  have hr := B.returns
  have hts0 := atoms_spec (ws := Cond.code yX5_init cX5_init 1 none :: zT) B.pre
  have hts := fun w (hw : w ∈ zT) => hts0 w (List.mem_cons_of_mem _ hw)
  have hown : s.vm.findClass RX5 = some m.cls := findClass_of_methodNamed B.named
  have hlocks := B.notSynchronized
  have hin : meth.name = "<init>" := (name_of_methodNamed B.named B.method).1
  subst hsz
  have hD := hD0.self (sz := s.heap.size)
  generalize hAe : va_A [(h0, .inr (5, [.null, .int (Int32.ofInt 0), .int (Int32.ofInt 0)]))] s.heap.size = A at hD ⊢
  have hA : ∀ q : Nat, s.heap.size ≤ q → A q := fun q h => by rw [← hAe]; exact Or.inr h
  have hS : va_S A s.heap s.heap [] := va_S.rf
  have hl := lv_entry ([.ref h0]) (n := 1) (Nat.le_of_ble_eq_true rfl)
  rw [lg_entry_eq]
  generalize (lg_sl ([.ref h0]) ++ List.replicate (1 - (lg_sl ([.ref h0])).length) Slot.unset).toArray = ls at hl ⊢
  have hl : lv_has ls 1 [(0, .ref h0)] := hl
  refine lv_aload_n hx hb dX5_init_0 rfl (lv_at hl 0 rfl) ?_
  refine W.objInit hx hb hown (hts _ zi_250) (hts _ zi_110) (hts _ zi_111) rfl (by rw [hml]; exact hl.1) rfl dX5_init_1 (Nat.le_of_ble_eq_true rfl) (Nat.le_of_ble_eq_true rfl) ?_
  refine W.eq (g2 := F0 m 4 ls []) rfl ?_
  refine lv_aload_n hx hb dX5_init_4 rfl (lv_at hl 0 rfl) ?_
  refine va_new (ci := 4) (fs := [.null, .null, .int (Int32.ofInt 0), .int (Int32.ofInt 0)]) (C := RX4) (T := TX4) (N := 4) hx hb hts (zu_all 4 _ rfl) tyX4 tyX4_ok hown (hts _ zi_251) (hts _ zi_123) (hts _ zi_92) hK hP hD hS hA rfl zdf_4 (Nat.le_of_ble_eq_true rfl) (Nat.le_of_ble_eq_true rfl) dX5_init_5 (fun q0 H hP hD hS => ?_)
  refine lv_dup hx hb dX5_init_8 rfl ?_
  refine zn_initN (As := []) (rest := [.ref q0, .ref h0]) (wr := [(h0, .inr (5, [.null, .int (Int32.ofInt 0), .int (Int32.ofInt 0)]))]) (wc := [(q0, .inr (4, [.null, .null, .int (Int32.ofInt 0), .int (Int32.ofInt 0)]))]) ⟨hx, hb, hml, hown, hts⟩ hK hNo (n_X4_init l D ca q0  H.size) ⟨va_cnB 0 hts (zgoodC zi_126) rfl rfl rfl (hNo.2.2.2.2 RX5 11 yX4_init zj_252) (hts _ zi_92) (by decide +kernel) ⟨Nat.le_of_ble_eq_true rfl, Nat.le_of_ble_eq_true rfl⟩, rfl, hts _ zi_125⟩ hP hD hS hA rfl hl.1 (Nat.le_of_ble_eq_true rfl) dX5_init_9 ⟨Nat.le_of_ble_eq_true rfl, Nat.le_of_ble_eq_true rfl⟩ (fun w1 H locs hw hP hD hS => ?_)
  obtain ⟨q0_0, q0_1, rfl⟩ := hw
  have hP : va_P D vwCl ([(h0, .inr (5, [.null, .int (Int32.ofInt 0), .int (Int32.ofInt 0)])), (q0, .inr (4, [.ref q0_0, .ref q0_1, .int (Int32.ofInt 0), .int (Int32.ofInt (-5))])), (q0_0, .inl (ca 0, 10, .inl (fun _ => Int32.ofInt 0))), (q0_1, .inl (ca 0, 10, .inl (fun _ => Int32.ofInt 0)))]) H := hP
  have hD : va_D A ([(h0, .inr (5, [.null, .int (Int32.ofInt 0), .int (Int32.ofInt 0)])), (q0, .inr (4, [.ref q0_0, .ref q0_1, .int (Int32.ofInt 0), .int (Int32.ofInt (-5))])), (q0_0, .inl (ca 0, 10, .inl (fun _ => Int32.ofInt 0))), (q0_1, .inl (ca 0, 10, .inl (fun _ => Int32.ofInt 0)))]) := hD
  refine va_putF (D := D) (ci := 5) (v := .ref q0) (ty := .object "SwarmPlanner$Shape") (C := RX5) (T := TX5) (N := 3) hx hb hts (zu_all 5 _ rfl) tyX5 tyX5_ok nmX5 hown hK hP hD hS 0 rfl rfl 0 (by decide) (hts _ zi_253) (fun _ h9 => h9) rfl hin rfl (by decide +kernel) (by first | rfl | decide) rfl (Nat.le_of_ble_eq_true rfl) dX5_init_12 (fun H locs hP hD hS => ?_)
  have hP : va_P D vwCl ([(h0, .inr (5, [.ref q0, .int (Int32.ofInt 0), .int (Int32.ofInt 0)])), (q0, .inr (4, [.ref q0_0, .ref q0_1, .int (Int32.ofInt 0), .int (Int32.ofInt (-5))])), (q0_0, .inl (ca 0, 10, .inl (fun _ => Int32.ofInt 0))), (q0_1, .inl (ca 0, 10, .inl (fun _ => Int32.ofInt 0)))]) H := hP
  have hD : va_D A ([(h0, .inr (5, [.ref q0, .int (Int32.ofInt 0), .int (Int32.ofInt 0)])), (q0, .inr (4, [.ref q0_0, .ref q0_1, .int (Int32.ofInt 0), .int (Int32.ofInt (-5))])), (q0_0, .inl (ca 0, 10, .inl (fun _ => Int32.ofInt 0))), (q0_1, .inl (ca 0, 10, .inl (fun _ => Int32.ofInt 0)))]) := hD
  refine lv_aload_n hx hb dX5_init_15 rfl (lv_at hl 0 rfl) ?_
  refine lv_iconst (v := Int32.ofInt 0) hx hb dX5_init_16 rfl ?_
  refine va_put (D := D) (ci := 5) (v := .int (Int32.ofInt 0)) (ty := .int) (C := RX5) (T := TX5) (N := 3) hx hb hts (zu_all 5 _ rfl) tyX5 tyX5_ok nmX5 hown hK hP hD hS 0 rfl rfl 1 (by decide) (hts _ zi_255) (fun _ h9 => h9) rfl (by decide +kernel) (by first | rfl | decide) rfl (Nat.le_of_ble_eq_true rfl) dX5_init_17 (fun H locs hP hD hS => ?_)
  have hP : va_P D vwCl ([(h0, .inr (5, [.ref q0, .int (Int32.ofInt 0), .int (Int32.ofInt 0)])), (q0, .inr (4, [.ref q0_0, .ref q0_1, .int (Int32.ofInt 0), .int (Int32.ofInt (-5))])), (q0_0, .inl (ca 0, 10, .inl (fun _ => Int32.ofInt 0))), (q0_1, .inl (ca 0, 10, .inl (fun _ => Int32.ofInt 0)))]) H := hP
  have hD : va_D A ([(h0, .inr (5, [.ref q0, .int (Int32.ofInt 0), .int (Int32.ofInt 0)])), (q0, .inr (4, [.ref q0_0, .ref q0_1, .int (Int32.ofInt 0), .int (Int32.ofInt (-5))])), (q0_0, .inl (ca 0, 10, .inl (fun _ => Int32.ofInt 0))), (q0_1, .inl (ca 0, 10, .inl (fun _ => Int32.ofInt 0)))]) := hD
  refine lv_aload_n hx hb dX5_init_20 rfl (lv_at hl 0 rfl) ?_
  refine lv_iconst (v := Int32.ofInt 0) hx hb dX5_init_21 rfl ?_
  refine va_put (D := D) (ci := 5) (v := .int (Int32.ofInt 0)) (ty := .int) (C := RX5) (T := TX5) (N := 3) hx hb hts (zu_all 5 _ rfl) tyX5 tyX5_ok nmX5 hown hK hP hD hS 0 rfl rfl 2 (by decide) (hts _ zi_256) (fun _ h9 => h9) rfl (by decide +kernel) (by first | rfl | decide) rfl (Nat.le_of_ble_eq_true rfl) dX5_init_22 (fun H locs hP hD hS => ?_)
  have hP : va_P D vwCl ([(h0, .inr (5, [.ref q0, .int (Int32.ofInt 0), .int (Int32.ofInt 0)])), (q0, .inr (4, [.ref q0_0, .ref q0_1, .int (Int32.ofInt 0), .int (Int32.ofInt (-5))])), (q0_0, .inl (ca 0, 10, .inl (fun _ => Int32.ofInt 0))), (q0_1, .inl (ca 0, 10, .inl (fun _ => Int32.ofInt 0)))]) H := hP
  have hD : va_D A ([(h0, .inr (5, [.ref q0, .int (Int32.ofInt 0), .int (Int32.ofInt 0)])), (q0, .inr (4, [.ref q0_0, .ref q0_1, .int (Int32.ofInt 0), .int (Int32.ofInt (-5))])), (q0_0, .inl (ca 0, 10, .inl (fun _ => Int32.ofInt 0))), (q0_1, .inl (ca 0, 10, .inl (fun _ => Int32.ofInt 0)))]) := hD
  refine W.widen (k := 3) (n := 24) (Nat.le_of_ble_eq_true rfl) (Nat.le_of_ble_eq_true rfl) ?_
  refine W.vret hx hb hr (fun t ht hW => ⟨⟨[(h0, .inr (5, [.ref q0, .int (Int32.ofInt 0), .int (Int32.ofInt 0)])), (q0, .inr (4, [.ref q0_0, .ref q0_1, .int (Int32.ofInt 0), .int (Int32.ofInt (-5))])), (q0_0, .inl (ca 0, 10, .inl (fun _ => Int32.ofInt 0))), (q0_1, .inl (ca 0, 10, .inl (fun _ => Int32.ofInt 0)))], rfl, ⟨q0, q0_0, q0_1, rfl⟩, by rw [ht]; exact hP, by rw [hAe]; exact hD⟩, by rw [hAe]; exact hS.F ht⟩) hS.2.2 dX5_init_25
def blk0 (ca : Nat → ClassId) (h0 q0 q1 q2 : Nat) : va_W := [(h0, .inr (0, [.ref q0, .ref q1, .ref q2, .int (Int32.ofInt 0), .int (Int32.ofInt 0)])), (q0, .inl (ca 0, 30, .inl (fun _ => Int32.ofInt 0))), (q1, .inl (ca 0, 30, .inl (fun _ => Int32.ofInt 0))), (q2, .inl (ca 0, 30, .inl (fun _ => Int32.ofInt 0)))]
set_option maxHeartbeats 8000000 in
set_option maxRecDepth 100000 in
theorem n_X0_init (l : Launch) (D : va_G) (ca : Nat → ClassId) (h0 : Nat) (sz : Nat) : Met l yX0_init (Cond.code yX0_init cX0_init 1 none :: zT) { frames := 1, cells := 3, slots := 90, locals := 40 } (zNP D ca [.ref h0] [(h0, .inr (0, [.null, .null, .null, .int (Int32.ofInt 0), .int (Int32.ofInt 0)]))] sz) (zNQ D [(h0, .inr (0, [.null, .null, .null, .int (Int32.ofInt 0), .int (Int32.ofInt 0)]))] sz (fun w => ∃ q0 q1 q2 : Nat, w = blk0 ca h0 q0 q1 q2)) 3 90 (va_A [(h0, .inr (0, [.null, .null, .null, .int (Int32.ofInt 0), .int (Int32.ofInt 0)]))] sz) := by
  refine Met.ofW (cc := cX0_init) (maxL := 1) (ret := none) (by decide) rfl ?_
  intro p e s m args below meth c s₁ B hml hv
  obtain ⟨rfl, hsz, hP, hK, hD0, hNo⟩ := hv
  have hx := B.exec
  have hb := B.bytes
  have hr := B.returns
  have hts0 := atoms_spec (ws := Cond.code yX0_init cX0_init 1 none :: zT) B.pre
  have hts := fun w (hw : w ∈ zT) => hts0 w (List.mem_cons_of_mem _ hw)
  have hown : s.vm.findClass RX0 = some m.cls := findClass_of_methodNamed B.named
  have hlocks := B.notSynchronized
  have hin : meth.name = "<init>" := (name_of_methodNamed B.named B.method).1
  subst hsz
  have hD := hD0.self (sz := s.heap.size)
  generalize hAe : va_A [(h0, .inr (0, [.null, .null, .null, .int (Int32.ofInt 0), .int (Int32.ofInt 0)]))] s.heap.size = A at hD ⊢
  have hA : ∀ q : Nat, s.heap.size ≤ q → A q := fun q h => by rw [← hAe]; exact Or.inr h
  have hS : va_S A s.heap s.heap [] := va_S.rf
  have hl := lv_entry ([.ref h0]) (n := 1) (Nat.le_of_ble_eq_true rfl)
  rw [lg_entry_eq]
  generalize (lg_sl ([.ref h0]) ++ List.replicate (1 - (lg_sl ([.ref h0])).length) Slot.unset).toArray = ls at hl ⊢
  have hl : lv_has ls 1 [(0, .ref h0)] := hl
  refine lv_aload_n hx hb dX0_init_0 rfl (lv_at hl 0 rfl) ?_
  refine W.objInit hx hb hown (hts _ zi_269) (hts _ zi_110) (hts _ zi_111) rfl (by rw [hml]; exact hl.1) rfl dX0_init_1 (Nat.le_of_ble_eq_true rfl) (Nat.le_of_ble_eq_true rfl) ?_
  refine W.eq (g2 := F0 m 4 ls []) rfl ?_
  refine lv_aload_n hx hb dX0_init_4 rfl (lv_at hl 0 rfl) ?_
  refine lv_bipush (v := Int32.ofInt 30) hx hb dX0_init_5 (zi8 (by decide) (by decide)) ?_
  refine zn_newa (n := Int32.ofInt 30) (N := 30) (a0 := (30, .inl (fun _ => Int32.ofInt 0))) (atype := .int) hx hb (hts _ zi_147) 0 rfl rfl (fun _ => rfl) hK hP hD hS hA (zn_ai 30) (zn_i 30 (by decide)).1 (zn_i 30 (by decide)).2 (Nat.le_of_ble_eq_true rfl) (Nat.le_of_ble_eq_true rfl) (Nat.le_of_ble_eq_true rfl) dX0_init_7 (fun q0 H hP hD hS => ?_)
  have hP : va_P D vwCl ([(h0, .inr (0, [.null, .null, .null, .int (Int32.ofInt 0), .int (Int32.ofInt 0)])), (q0, .inl (ca 0, 30, .inl (fun _ => Int32.ofInt 0)))]) H := hP
  have hD : va_D A ([(h0, .inr (0, [.null, .null, .null, .int (Int32.ofInt 0), .int (Int32.ofInt 0)])), (q0, .inl (ca 0, 30, .inl (fun _ => Int32.ofInt 0)))]) := hD
  refine va_putF (D := D) (ci := 0) (v := .ref q0) (ty := .array .int) (C := RX0) (T := TX0) (N := 5) hx hb hts (zu_all 0 _ rfl) tyX0 tyX0_ok nmX0 hown hK hP hD hS 0 rfl rfl 0 (by decide) (hts _ zi_270) (fun _ h9 => h9) rfl hin rfl (by decide +kernel) (by first | rfl | decide) rfl (Nat.le_of_ble_eq_true rfl) dX0_init_9 (fun H locs hP hD hS => ?_)
  have hP : va_P D vwCl ([(h0, .inr (0, [.ref q0, .null, .null, .int (Int32.ofInt 0), .int (Int32.ofInt 0)])), (q0, .inl (ca 0, 30, .inl (fun _ => Int32.ofInt 0)))]) H := hP
  have hD : va_D A ([(h0, .inr (0, [.ref q0, .null, .null, .int (Int32.ofInt 0), .int (Int32.ofInt 0)])), (q0, .inl (ca 0, 30, .inl (fun _ => Int32.ofInt 0)))]) := hD
  refine lv_aload_n hx hb dX0_init_12 rfl (lv_at hl 0 rfl) ?_
  refine lv_bipush (v := Int32.ofInt 30) hx hb dX0_init_13 (zi8 (by decide) (by decide)) ?_
  refine zn_newa (n := Int32.ofInt 30) (N := 30) (a0 := (30, .inl (fun _ => Int32.ofInt 0))) (atype := .int) hx hb (hts _ zi_147) 0 rfl rfl (fun _ => rfl) hK hP hD hS hA (zn_ai 30) (zn_i 30 (by decide)).1 (zn_i 30 (by decide)).2 (Nat.le_of_ble_eq_true rfl) (Nat.le_of_ble_eq_true rfl) (Nat.le_of_ble_eq_true rfl) dX0_init_15 (fun q1 H hP hD hS => ?_)
  have hP : va_P D vwCl ([(h0, .inr (0, [.ref q0, .null, .null, .int (Int32.ofInt 0), .int (Int32.ofInt 0)])), (q0, .inl (ca 0, 30, .inl (fun _ => Int32.ofInt 0))), (q1, .inl (ca 0, 30, .inl (fun _ => Int32.ofInt 0)))]) H := hP
  have hD : va_D A ([(h0, .inr (0, [.ref q0, .null, .null, .int (Int32.ofInt 0), .int (Int32.ofInt 0)])), (q0, .inl (ca 0, 30, .inl (fun _ => Int32.ofInt 0))), (q1, .inl (ca 0, 30, .inl (fun _ => Int32.ofInt 0)))]) := hD
  refine va_putF (D := D) (ci := 0) (v := .ref q1) (ty := .array .int) (C := RX0) (T := TX0) (N := 5) hx hb hts (zu_all 0 _ rfl) tyX0 tyX0_ok nmX0 hown hK hP hD hS 0 rfl rfl 1 (by decide) (hts _ zi_272) (fun _ h9 => h9) rfl hin rfl (by decide +kernel) (by first | rfl | decide) rfl (Nat.le_of_ble_eq_true rfl) dX0_init_17 (fun H locs hP hD hS => ?_)
  have hP : va_P D vwCl ([(h0, .inr (0, [.ref q0, .ref q1, .null, .int (Int32.ofInt 0), .int (Int32.ofInt 0)])), (q0, .inl (ca 0, 30, .inl (fun _ => Int32.ofInt 0))), (q1, .inl (ca 0, 30, .inl (fun _ => Int32.ofInt 0)))]) H := hP
  have hD : va_D A ([(h0, .inr (0, [.ref q0, .ref q1, .null, .int (Int32.ofInt 0), .int (Int32.ofInt 0)])), (q0, .inl (ca 0, 30, .inl (fun _ => Int32.ofInt 0))), (q1, .inl (ca 0, 30, .inl (fun _ => Int32.ofInt 0)))]) := hD
  refine lv_aload_n hx hb dX0_init_20 rfl (lv_at hl 0 rfl) ?_
  refine lv_bipush (v := Int32.ofInt 30) hx hb dX0_init_21 (zi8 (by decide) (by decide)) ?_
  refine zn_newa (n := Int32.ofInt 30) (N := 30) (a0 := (30, .inl (fun _ => Int32.ofInt 0))) (atype := .int) hx hb (hts _ zi_147) 0 rfl rfl (fun _ => rfl) hK hP hD hS hA (zn_ai 30) (zn_i 30 (by decide)).1 (zn_i 30 (by decide)).2 (Nat.le_of_ble_eq_true rfl) (Nat.le_of_ble_eq_true rfl) (Nat.le_of_ble_eq_true rfl) dX0_init_23 (fun q2 H hP hD hS => ?_)
  have hP : va_P D vwCl ([(h0, .inr (0, [.ref q0, .ref q1, .null, .int (Int32.ofInt 0), .int (Int32.ofInt 0)])), (q0, .inl (ca 0, 30, .inl (fun _ => Int32.ofInt 0))), (q1, .inl (ca 0, 30, .inl (fun _ => Int32.ofInt 0))), (q2, .inl (ca 0, 30, .inl (fun _ => Int32.ofInt 0)))]) H := hP
  have hD : va_D A ([(h0, .inr (0, [.ref q0, .ref q1, .null, .int (Int32.ofInt 0), .int (Int32.ofInt 0)])), (q0, .inl (ca 0, 30, .inl (fun _ => Int32.ofInt 0))), (q1, .inl (ca 0, 30, .inl (fun _ => Int32.ofInt 0))), (q2, .inl (ca 0, 30, .inl (fun _ => Int32.ofInt 0)))]) := hD
  refine va_putF (D := D) (ci := 0) (v := .ref q2) (ty := .array .int) (C := RX0) (T := TX0) (N := 5) hx hb hts (zu_all 0 _ rfl) tyX0 tyX0_ok nmX0 hown hK hP hD hS 0 rfl rfl 2 (by decide) (hts _ zi_274) (fun _ h9 => h9) rfl hin rfl (by decide +kernel) (by first | rfl | decide) rfl (Nat.le_of_ble_eq_true rfl) dX0_init_25 (fun H locs hP hD hS => ?_)
  have hP : va_P D vwCl ([(h0, .inr (0, [.ref q0, .ref q1, .ref q2, .int (Int32.ofInt 0), .int (Int32.ofInt 0)])), (q0, .inl (ca 0, 30, .inl (fun _ => Int32.ofInt 0))), (q1, .inl (ca 0, 30, .inl (fun _ => Int32.ofInt 0))), (q2, .inl (ca 0, 30, .inl (fun _ => Int32.ofInt 0)))]) H := hP
  have hD : va_D A ([(h0, .inr (0, [.ref q0, .ref q1, .ref q2, .int (Int32.ofInt 0), .int (Int32.ofInt 0)])), (q0, .inl (ca 0, 30, .inl (fun _ => Int32.ofInt 0))), (q1, .inl (ca 0, 30, .inl (fun _ => Int32.ofInt 0))), (q2, .inl (ca 0, 30, .inl (fun _ => Int32.ofInt 0)))]) := hD
  refine lv_aload_n hx hb dX0_init_28 rfl (lv_at hl 0 rfl) ?_
  refine lv_iconst (v := Int32.ofInt 0) hx hb dX0_init_29 rfl ?_
  refine va_put (D := D) (ci := 0) (v := .int (Int32.ofInt 0)) (ty := .int) (C := RX0) (T := TX0) (N := 5) hx hb hts (zu_all 0 _ rfl) tyX0 tyX0_ok nmX0 hown hK hP hD hS 0 rfl rfl 3 (by decide) (hts _ zi_276) (fun _ h9 => h9) rfl (by decide +kernel) (by first | rfl | decide) rfl (Nat.le_of_ble_eq_true rfl) dX0_init_30 (fun H locs hP hD hS => ?_)
  have hP : va_P D vwCl ([(h0, .inr (0, [.ref q0, .ref q1, .ref q2, .int (Int32.ofInt 0), .int (Int32.ofInt 0)])), (q0, .inl (ca 0, 30, .inl (fun _ => Int32.ofInt 0))), (q1, .inl (ca 0, 30, .inl (fun _ => Int32.ofInt 0))), (q2, .inl (ca 0, 30, .inl (fun _ => Int32.ofInt 0)))]) H := hP
  have hD : va_D A ([(h0, .inr (0, [.ref q0, .ref q1, .ref q2, .int (Int32.ofInt 0), .int (Int32.ofInt 0)])), (q0, .inl (ca 0, 30, .inl (fun _ => Int32.ofInt 0))), (q1, .inl (ca 0, 30, .inl (fun _ => Int32.ofInt 0))), (q2, .inl (ca 0, 30, .inl (fun _ => Int32.ofInt 0)))]) := hD
  refine lv_aload_n hx hb dX0_init_33 rfl (lv_at hl 0 rfl) ?_
  refine lv_iconst (v := Int32.ofInt 0) hx hb dX0_init_34 rfl ?_
  refine va_put (D := D) (ci := 0) (v := .int (Int32.ofInt 0)) (ty := .int) (C := RX0) (T := TX0) (N := 5) hx hb hts (zu_all 0 _ rfl) tyX0 tyX0_ok nmX0 hown hK hP hD hS 0 rfl rfl 4 (by decide) (hts _ zi_278) (fun _ h9 => h9) rfl (by decide +kernel) (by first | rfl | decide) rfl (Nat.le_of_ble_eq_true rfl) dX0_init_35 (fun H locs hP hD hS => ?_)
  have hP : va_P D vwCl ([(h0, .inr (0, [.ref q0, .ref q1, .ref q2, .int (Int32.ofInt 0), .int (Int32.ofInt 0)])), (q0, .inl (ca 0, 30, .inl (fun _ => Int32.ofInt 0))), (q1, .inl (ca 0, 30, .inl (fun _ => Int32.ofInt 0))), (q2, .inl (ca 0, 30, .inl (fun _ => Int32.ofInt 0)))]) H := hP
  have hD : va_D A ([(h0, .inr (0, [.ref q0, .ref q1, .ref q2, .int (Int32.ofInt 0), .int (Int32.ofInt 0)])), (q0, .inl (ca 0, 30, .inl (fun _ => Int32.ofInt 0))), (q1, .inl (ca 0, 30, .inl (fun _ => Int32.ofInt 0))), (q2, .inl (ca 0, 30, .inl (fun _ => Int32.ofInt 0)))]) := hD
  refine W.widen (k := 3) (n := 90) (Nat.le_of_ble_eq_true rfl) (Nat.le_of_ble_eq_true rfl) ?_
  refine W.vret hx hb hr (fun t ht hW => ⟨⟨[(h0, .inr (0, [.ref q0, .ref q1, .ref q2, .int (Int32.ofInt 0), .int (Int32.ofInt 0)])), (q0, .inl (ca 0, 30, .inl (fun _ => Int32.ofInt 0))), (q1, .inl (ca 0, 30, .inl (fun _ => Int32.ofInt 0))), (q2, .inl (ca 0, 30, .inl (fun _ => Int32.ofInt 0)))], rfl, ⟨q0, q1, q2, rfl⟩, by rw [ht]; exact hP, by rw [hAe]; exact hD⟩, by rw [hAe]; exact hS.F ht⟩) hS.2.2 dX0_init_38
def blk7 (ca : Nat → ClassId) (h0 a1 a2 a3 q0 q1 : Nat) : va_W := [(h0, .inr (7, [.ref a1, .ref a2, .ref a3, .ref q0, .ref q1, .int (Int32.ofInt 0)])), (q0, .inl (ca 0, 10, .inl (fun _ => Int32.ofInt 0))), (q1, .inl (ca 0, 10, .inl (fun _ => Int32.ofInt 0)))]
set_option maxHeartbeats 8000000 in
set_option maxRecDepth 100000 in
theorem n_X7_init (l : Launch) (D : va_G) (ca : Nat → ClassId) (h0 : Nat) (a1 : Nat) (a2 : Nat) (a3 : Nat) (sz : Nat) : Met l yX7_init (Cond.code yX7_init cX7_init 4 none :: zT) { frames := 1, cells := 2, slots := 20, locals := 40 } (zNP D ca [.ref h0, .ref a1, .ref a2, .ref a3] [(h0, .inr (7, [.null, .null, .null, .null, .null, .int (Int32.ofInt 0)]))] sz) (zNQ D [(h0, .inr (7, [.null, .null, .null, .null, .null, .int (Int32.ofInt 0)]))] sz (fun w => ∃ q0 q1 : Nat, w = blk7 ca h0 a1 a2 a3 q0 q1)) 2 20 (va_A [(h0, .inr (7, [.null, .null, .null, .null, .null, .int (Int32.ofInt 0)]))] sz) := by
  refine Met.ofW (cc := cX7_init) (maxL := 4) (ret := none) (by decide) rfl ?_
  intro p e s m args below meth c s₁ B hml hv
  obtain ⟨rfl, hsz, hP, hK, hD0, hNo⟩ := hv
  have hx := B.exec
  have hb := B.bytes
  have hr := B.returns
  have hts0 := atoms_spec (ws := Cond.code yX7_init cX7_init 4 none :: zT) B.pre
  have hts := fun w (hw : w ∈ zT) => hts0 w (List.mem_cons_of_mem _ hw)
  have hown : s.vm.findClass RX7 = some m.cls := findClass_of_methodNamed B.named
  have hlocks := B.notSynchronized
  have hin : meth.name = "<init>" := (name_of_methodNamed B.named B.method).1
  subst hsz
  have hD := hD0.self (sz := s.heap.size)
  generalize hAe : va_A [(h0, .inr (7, [.null, .null, .null, .null, .null, .int (Int32.ofInt 0)]))] s.heap.size = A at hD ⊢
  have hA : ∀ q : Nat, s.heap.size ≤ q → A q := fun q h => by rw [← hAe]; exact Or.inr h
  have hS : va_S A s.heap s.heap [] := va_S.rf
  have hl := lv_entry ([.ref h0, .ref a1, .ref a2, .ref a3]) (n := 4) (Nat.le_of_ble_eq_true rfl)
  rw [lg_entry_eq]
  generalize (lg_sl ([.ref h0, .ref a1, .ref a2, .ref a3]) ++ List.replicate (4 - (lg_sl ([.ref h0, .ref a1, .ref a2, .ref a3])).length) Slot.unset).toArray = ls at hl ⊢
  have hl : lv_has ls 4 [(0, .ref h0), (1, .ref a1), (2, .ref a2), (3, .ref a3)] := hl
  refine lv_aload_n hx hb dX7_init_0 rfl (lv_at hl 0 rfl) ?_
  refine W.objInit hx hb hown (hts _ zi_403) (hts _ zi_110) (hts _ zi_111) rfl (by rw [hml]; exact hl.1) rfl dX7_init_1 (Nat.le_of_ble_eq_true rfl) (Nat.le_of_ble_eq_true rfl) ?_
  refine W.eq (g2 := F0 m 4 ls []) rfl ?_
  refine lv_aload_n hx hb dX7_init_4 rfl (lv_at hl 0 rfl) ?_
  refine lv_bipush (v := Int32.ofInt 10) hx hb dX7_init_5 (zi8 (by decide) (by decide)) ?_
  refine zn_newa (n := Int32.ofInt 10) (N := 10) (a0 := (10, .inl (fun _ => Int32.ofInt 0))) (atype := .int) hx hb (hts _ zi_147) 0 rfl rfl (fun _ => rfl) hK hP hD hS hA (zn_ai 10) (zn_i 10 (by decide)).1 (zn_i 10 (by decide)).2 (Nat.le_of_ble_eq_true rfl) (Nat.le_of_ble_eq_true rfl) (Nat.le_of_ble_eq_true rfl) dX7_init_7 (fun q0 H hP hD hS => ?_)
  have hP : va_P D vwCl ([(h0, .inr (7, [.null, .null, .null, .null, .null, .int (Int32.ofInt 0)])), (q0, .inl (ca 0, 10, .inl (fun _ => Int32.ofInt 0)))]) H := hP
  have hD : va_D A ([(h0, .inr (7, [.null, .null, .null, .null, .null, .int (Int32.ofInt 0)])), (q0, .inl (ca 0, 10, .inl (fun _ => Int32.ofInt 0)))]) := hD
  refine va_putF (D := D) (ci := 7) (v := .ref q0) (ty := .array .int) (C := RX7) (T := TX7) (N := 6) hx hb hts (zu_all 7 _ rfl) tyX7 tyX7_ok nmX7 hown hK hP hD hS 0 rfl rfl 3 (by decide) (hts _ zi_407) (fun _ h9 => h9) rfl hin rfl (by decide +kernel) (by first | rfl | decide) rfl (Nat.le_of_ble_eq_true rfl) dX7_init_9 (fun H locs hP hD hS => ?_)
  have hP : va_P D vwCl ([(h0, .inr (7, [.null, .null, .null, .ref q0, .null, .int (Int32.ofInt 0)])), (q0, .inl (ca 0, 10, .inl (fun _ => Int32.ofInt 0)))]) H := hP
  have hD : va_D A ([(h0, .inr (7, [.null, .null, .null, .ref q0, .null, .int (Int32.ofInt 0)])), (q0, .inl (ca 0, 10, .inl (fun _ => Int32.ofInt 0)))]) := hD
  refine lv_aload_n hx hb dX7_init_12 rfl (lv_at hl 0 rfl) ?_
  refine lv_bipush (v := Int32.ofInt 10) hx hb dX7_init_13 (zi8 (by decide) (by decide)) ?_
  refine zn_newa (n := Int32.ofInt 10) (N := 10) (a0 := (10, .inl (fun _ => Int32.ofInt 0))) (atype := .int) hx hb (hts _ zi_147) 0 rfl rfl (fun _ => rfl) hK hP hD hS hA (zn_ai 10) (zn_i 10 (by decide)).1 (zn_i 10 (by decide)).2 (Nat.le_of_ble_eq_true rfl) (Nat.le_of_ble_eq_true rfl) (Nat.le_of_ble_eq_true rfl) dX7_init_15 (fun q1 H hP hD hS => ?_)
  have hP : va_P D vwCl ([(h0, .inr (7, [.null, .null, .null, .ref q0, .null, .int (Int32.ofInt 0)])), (q0, .inl (ca 0, 10, .inl (fun _ => Int32.ofInt 0))), (q1, .inl (ca 0, 10, .inl (fun _ => Int32.ofInt 0)))]) H := hP
  have hD : va_D A ([(h0, .inr (7, [.null, .null, .null, .ref q0, .null, .int (Int32.ofInt 0)])), (q0, .inl (ca 0, 10, .inl (fun _ => Int32.ofInt 0))), (q1, .inl (ca 0, 10, .inl (fun _ => Int32.ofInt 0)))]) := hD
  refine va_putF (D := D) (ci := 7) (v := .ref q1) (ty := .array .int) (C := RX7) (T := TX7) (N := 6) hx hb hts (zu_all 7 _ rfl) tyX7 tyX7_ok nmX7 hown hK hP hD hS 0 rfl rfl 4 (by decide) (hts _ zi_408) (fun _ h9 => h9) rfl hin rfl (by decide +kernel) (by first | rfl | decide) rfl (Nat.le_of_ble_eq_true rfl) dX7_init_17 (fun H locs hP hD hS => ?_)
  have hP : va_P D vwCl ([(h0, .inr (7, [.null, .null, .null, .ref q0, .ref q1, .int (Int32.ofInt 0)])), (q0, .inl (ca 0, 10, .inl (fun _ => Int32.ofInt 0))), (q1, .inl (ca 0, 10, .inl (fun _ => Int32.ofInt 0)))]) H := hP
  have hD : va_D A ([(h0, .inr (7, [.null, .null, .null, .ref q0, .ref q1, .int (Int32.ofInt 0)])), (q0, .inl (ca 0, 10, .inl (fun _ => Int32.ofInt 0))), (q1, .inl (ca 0, 10, .inl (fun _ => Int32.ofInt 0)))]) := hD
  refine lv_aload_n hx hb dX7_init_20 rfl (lv_at hl 0 rfl) ?_
  refine lv_iconst (v := Int32.ofInt 0) hx hb dX7_init_21 rfl ?_
  refine va_put (D := D) (ci := 7) (v := .int (Int32.ofInt 0)) (ty := .int) (C := RX7) (T := TX7) (N := 6) hx hb hts (zu_all 7 _ rfl) tyX7 tyX7_ok nmX7 hown hK hP hD hS 0 rfl rfl 5 (by decide) (hts _ zi_409) (fun _ h9 => h9) rfl (by decide +kernel) (by first | rfl | decide) rfl (Nat.le_of_ble_eq_true rfl) dX7_init_22 (fun H locs hP hD hS => ?_)
  have hP : va_P D vwCl ([(h0, .inr (7, [.null, .null, .null, .ref q0, .ref q1, .int (Int32.ofInt 0)])), (q0, .inl (ca 0, 10, .inl (fun _ => Int32.ofInt 0))), (q1, .inl (ca 0, 10, .inl (fun _ => Int32.ofInt 0)))]) H := hP
  have hD : va_D A ([(h0, .inr (7, [.null, .null, .null, .ref q0, .ref q1, .int (Int32.ofInt 0)])), (q0, .inl (ca 0, 10, .inl (fun _ => Int32.ofInt 0))), (q1, .inl (ca 0, 10, .inl (fun _ => Int32.ofInt 0)))]) := hD
  refine lv_aload_n hx hb dX7_init_25 rfl (lv_at hl 0 rfl) ?_
  refine lv_aload_n hx hb dX7_init_26 rfl (lv_at hl 1 rfl) ?_
  refine va_putF (D := D) (ci := 7) (v := .ref a1) (ty := .object "SwarmPlanner$World") (C := RX7) (T := TX7) (N := 6) hx hb hts (zu_all 7 _ rfl) tyX7 tyX7_ok nmX7 hown hK hP hD hS 0 rfl rfl 0 (by decide) (hts _ zi_404) (fun _ h9 => h9) rfl hin rfl (by decide +kernel) (by first | rfl | decide) rfl (Nat.le_of_ble_eq_true rfl) dX7_init_27 (fun H locs hP hD hS => ?_)
  have hP : va_P D vwCl ([(h0, .inr (7, [.ref a1, .null, .null, .ref q0, .ref q1, .int (Int32.ofInt 0)])), (q0, .inl (ca 0, 10, .inl (fun _ => Int32.ofInt 0))), (q1, .inl (ca 0, 10, .inl (fun _ => Int32.ofInt 0)))]) H := hP
  have hD : va_D A ([(h0, .inr (7, [.ref a1, .null, .null, .ref q0, .ref q1, .int (Int32.ofInt 0)])), (q0, .inl (ca 0, 10, .inl (fun _ => Int32.ofInt 0))), (q1, .inl (ca 0, 10, .inl (fun _ => Int32.ofInt 0)))]) := hD
  refine lv_aload_n hx hb dX7_init_30 rfl (lv_at hl 0 rfl) ?_
  refine lv_aload_n hx hb dX7_init_31 rfl (lv_at hl 2 rfl) ?_
  refine va_putF (D := D) (ci := 7) (v := .ref a2) (ty := .object "SwarmPlanner$Ways") (C := RX7) (T := TX7) (N := 6) hx hb hts (zu_all 7 _ rfl) tyX7 tyX7_ok nmX7 hown hK hP hD hS 0 rfl rfl 1 (by decide) (hts _ zi_405) (fun _ h9 => h9) rfl hin rfl (by decide +kernel) (by first | rfl | decide) rfl (Nat.le_of_ble_eq_true rfl) dX7_init_32 (fun H locs hP hD hS => ?_)
  have hP : va_P D vwCl ([(h0, .inr (7, [.ref a1, .ref a2, .null, .ref q0, .ref q1, .int (Int32.ofInt 0)])), (q0, .inl (ca 0, 10, .inl (fun _ => Int32.ofInt 0))), (q1, .inl (ca 0, 10, .inl (fun _ => Int32.ofInt 0)))]) H := hP
  have hD : va_D A ([(h0, .inr (7, [.ref a1, .ref a2, .null, .ref q0, .ref q1, .int (Int32.ofInt 0)])), (q0, .inl (ca 0, 10, .inl (fun _ => Int32.ofInt 0))), (q1, .inl (ca 0, 10, .inl (fun _ => Int32.ofInt 0)))]) := hD
  refine lv_aload_n hx hb dX7_init_35 rfl (lv_at hl 0 rfl) ?_
  refine lv_aload_n hx hb dX7_init_36 rfl (lv_at hl 3 rfl) ?_
  refine va_putF (D := D) (ci := 7) (v := .ref a3) (ty := .object "SwarmPlanner$Giving") (C := RX7) (T := TX7) (N := 6) hx hb hts (zu_all 7 _ rfl) tyX7 tyX7_ok nmX7 hown hK hP hD hS 0 rfl rfl 2 (by decide) (hts _ zi_406) (fun _ h9 => h9) rfl hin rfl (by decide +kernel) (by first | rfl | decide) rfl (Nat.le_of_ble_eq_true rfl) dX7_init_37 (fun H locs hP hD hS => ?_)
  have hP : va_P D vwCl ([(h0, .inr (7, [.ref a1, .ref a2, .ref a3, .ref q0, .ref q1, .int (Int32.ofInt 0)])), (q0, .inl (ca 0, 10, .inl (fun _ => Int32.ofInt 0))), (q1, .inl (ca 0, 10, .inl (fun _ => Int32.ofInt 0)))]) H := hP
  have hD : va_D A ([(h0, .inr (7, [.ref a1, .ref a2, .ref a3, .ref q0, .ref q1, .int (Int32.ofInt 0)])), (q0, .inl (ca 0, 10, .inl (fun _ => Int32.ofInt 0))), (q1, .inl (ca 0, 10, .inl (fun _ => Int32.ofInt 0)))]) := hD
  refine W.widen (k := 2) (n := 20) (Nat.le_of_ble_eq_true rfl) (Nat.le_of_ble_eq_true rfl) ?_
  refine W.vret hx hb hr (fun t ht hW => ⟨⟨[(h0, .inr (7, [.ref a1, .ref a2, .ref a3, .ref q0, .ref q1, .int (Int32.ofInt 0)])), (q0, .inl (ca 0, 10, .inl (fun _ => Int32.ofInt 0))), (q1, .inl (ca 0, 10, .inl (fun _ => Int32.ofInt 0)))], rfl, ⟨q0, q1, rfl⟩, by rw [ht]; exact hP, by rw [hAe]; exact hD⟩, by rw [hAe]; exact hS.F ht⟩) hS.2.2 dX7_init_40
