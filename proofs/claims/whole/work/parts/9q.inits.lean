/-! ### the constructors (written by program, mkinit.py) -/
def blk4 (ca : Nat → ClassId) (h0 q0 q1 : Nat) : va_W := [(h0, .inr (4, [.ref q0, .ref q1, .int (Int32.ofInt 0), .int (Int32.ofInt (-5))])), (q0, .inl (ca 0, 10, .inl (fun _ => Int32.ofInt 0))), (q1, .inl (ca 0, 10, .inl (fun _ => Int32.ofInt 0)))]
set_option maxHeartbeats 8000000 in
set_option maxRecDepth 100000 in
theorem n_X4_init (l : Launch) (D : va_G) (ca : Nat → ClassId) (h0 : Nat) (sz : Nat) : Met l yX4_init (Cond.code yX4_init cX4_init 1 none :: zT) { frames := 1, cells := 2, slots := 20, locals := 40 } (zNP D ca [.ref h0] [(h0, .inr (4, [.null, .null, .int (Int32.ofInt 0), .int (Int32.ofInt 0)]))] sz) (zNQ D [(h0, .inr (4, [.null, .null, .int (Int32.ofInt 0), .int (Int32.ofInt 0)]))] sz (fun w => ∃ q0 q1 : Nat, w = blk4 ca h0 q0 q1)) 2 20 (va_A [(h0, .inr (4, [.null, .null, .int (Int32.ofInt 0), .int (Int32.ofInt 0)]))] sz) := by
  refine Met.ofW (cc := cX4_init) (maxL := 1) (ret := none) (by decide) rfl ?_
  intro p e s m args below meth c s₁ B hml hv
  obtain ⟨rfl, hsz, hP, hK, hD0, hNo⟩ := hv
  have hx := B.exec
  have hb := B.bytes
  have hr := B.returns
  have hts0 := atoms_spec (ws := Cond.code yX4_init cX4_init 1 none :: zT) B.pre
  have hts := fun w (hw : w ∈ zT) => hts0 w (List.mem_cons_of_mem _ hw)
  have hown : s.vm.findClass RX4 = some m.cls := findClass_of_methodNamed B.named
  have hlocks := B.notSynchronized
  have hin : meth.name = "<init>" := (name_of_methodNamed B.named B.method).1
  subst hsz
  have hD := hD0.self (sz := s.heap.size)
  generalize hAe : va_A [(h0, .inr (4, [.null, .null, .int (Int32.ofInt 0), .int (Int32.ofInt 0)]))] s.heap.size = A at hD ⊢
  have hA : ∀ q : Nat, s.heap.size ≤ q → A q := fun q h => by rw [← hAe]; exact Or.inr h
  have hS : va_S A s.heap s.heap [] := va_S.rf
  have hl := lv_entry ([.ref h0]) (n := 1) (Nat.le_of_ble_eq_true rfl)
  rw [lg_entry_eq]
  generalize (lg_sl ([.ref h0]) ++ List.replicate (1 - (lg_sl ([.ref h0])).length) Slot.unset).toArray = ls at hl ⊢
  have hl : lv_has ls 1 [(0, .ref h0)] := hl
  refine lv_aload_n hx hb dX4_init_0 rfl (lv_at hl 0 rfl) ?_
  refine W.objInit hx hb hown (hts _ zi_128) (hts _ zi_111) (hts _ zi_112) rfl (by rw [hml]; exact hl.1) rfl dX4_init_1 (Nat.le_of_ble_eq_true rfl) (Nat.le_of_ble_eq_true rfl) ?_
  refine W.eq (g2 := F0 m 4 ls []) rfl ?_
  refine lv_aload_n hx hb dX4_init_4 rfl (lv_at hl 0 rfl) ?_
  refine lv_bipush (v := Int32.ofInt 10) hx hb dX4_init_5 (zi8 (by decide) (by decide)) ?_
  refine zn_newa (n := Int32.ofInt 10) (N := 10) (a0 := (10, .inl (fun _ => Int32.ofInt 0))) (atype := .int) hx hb (hts _ zi_148) 0 rfl rfl (fun _ => rfl) hK hP hD hS hA (zn_ai 10) (zn_i 10 (by decide)).1 (zn_i 10 (by decide)).2 (Nat.le_of_ble_eq_true rfl) (Nat.le_of_ble_eq_true rfl) (Nat.le_of_ble_eq_true rfl) dX4_init_7 (fun q0 H hP hD hS => ?_)
  have hP : va_P D vwCl ([(h0, .inr (4, [.null, .null, .int (Int32.ofInt 0), .int (Int32.ofInt 0)])), (q0, .inl (ca 0, 10, .inl (fun _ => Int32.ofInt 0)))]) H := hP
  have hD : va_D A ([(h0, .inr (4, [.null, .null, .int (Int32.ofInt 0), .int (Int32.ofInt 0)])), (q0, .inl (ca 0, 10, .inl (fun _ => Int32.ofInt 0)))]) := hD
  refine va_putF (D := D) (ci := 4) (v := .ref q0) (ty := .array .int) (C := RX4) (T := TX4) (N := 4) hx hb hts (zu_all 4 _ rfl) tyX4 tyX4_ok nmX4 hown hK hP hD hS 0 rfl rfl 0 (by decide) (hts _ zi_129) (fun _ h9 => h9) rfl hin rfl (by decide +kernel) (by first | rfl | decide) rfl (Nat.le_of_ble_eq_true rfl) dX4_init_9 (fun H locs hP hD hS => ?_)
  have hP : va_P D vwCl ([(h0, .inr (4, [.ref q0, .null, .int (Int32.ofInt 0), .int (Int32.ofInt 0)])), (q0, .inl (ca 0, 10, .inl (fun _ => Int32.ofInt 0)))]) H := hP
  have hD : va_D A ([(h0, .inr (4, [.ref q0, .null, .int (Int32.ofInt 0), .int (Int32.ofInt 0)])), (q0, .inl (ca 0, 10, .inl (fun _ => Int32.ofInt 0)))]) := hD
  sorry
