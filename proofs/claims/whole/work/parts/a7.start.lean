/-! ### the law from its entry -/
set_option maxRecDepth 100000 in
theorem zi_89 : Cond.initialized RX10 ∈ zT := zT_in (List.mem_of_getElem? (i := 89) (by decide +kernel)) rfl
set_option maxRecDepth 100000 in
theorem zi_101 : Cond.initialized RX11 ∈ zT := zT_in (List.mem_of_getElem? (i := 101) (by decide +kernel)) rfl
set_option maxRecDepth 100000 in
theorem zi_104 : Cond.classLink RL 7 RX10 ∈ zT := zT_in (List.mem_of_getElem? (i := 104) (by decide +kernel)) rfl
set_option maxRecDepth 100000 in
theorem zi_105 : Cond.instantiable RX10 13 ∈ zT := zT_in (List.mem_of_getElem? (i := 105) (by decide +kernel)) rfl
set_option maxRecDepth 100000 in
theorem zi_106 : Cond.methodLink RL 9 yX10_init ∈ zT := zT_in (List.mem_of_getElem? (i := 106) (by decide +kernel)) rfl
set_option maxRecDepth 100000 in
theorem zi_107 : Cond.instanceMethod yX10_init ∈ zT := zT_in (List.mem_of_getElem? (i := 107) (by decide +kernel)) rfl
set_option maxRecDepth 100000 in
theorem zi_108 : Cond.code yX10_init cX10_init 1 none ∈ zT := zT_in (List.mem_of_getElem? (i := 108) rfl) rfl
set_option maxRecDepth 100000 in
theorem zi_942 : Cond.classLink RL 10 RX11 ∈ zT := zT_in (List.mem_of_getElem? (i := 942) (by decide +kernel)) rfl
set_option maxRecDepth 100000 in
theorem zi_943 : Cond.instantiable RX11 25 ∈ zT := zT_in (List.mem_of_getElem? (i := 943) (by decide +kernel)) rfl
set_option maxRecDepth 100000 in
theorem zi_944 : Cond.methodLink RL 12 yX11_init ∈ zT := zT_in (List.mem_of_getElem? (i := 944) (by decide +kernel)) rfl
set_option maxRecDepth 100000 in
theorem zi_945 : Cond.instanceMethod yX11_init ∈ zT := zT_in (List.mem_of_getElem? (i := 945) (by decide +kernel)) rfl
set_option maxRecDepth 100000 in
theorem zi_946 : Cond.code yX11_init cX11_init 1 none ∈ zT := zT_in (List.mem_of_getElem? (i := 946) rfl) rfl
theorem zD_ex {s : State} {args : Array Value} (hts : ∀ w ∈ zT, w.before args s = true) : ∃ D : va_G, ∀ (k : Nat) (q : vw_C), vwCl[k]? = some q → u_Kn s q.1 q.2.1 q.2.2 (D.1 k) (D.2 k) := by
  obtain ⟨c0, i0, h0⟩ := u_known (C := RX0) (T := TX0) (N := 5) (n := 5) hts (zu_all 0 _ rfl) (hts _ zi_265)
  obtain ⟨c1, i1, h1⟩ := u_known (C := RX1) (T := TX1) (N := 13) (n := 13) hts (zu_all 1 _ rfl) (hts _ zi_313)
  obtain ⟨c2, i2, h2⟩ := u_known (C := RX2) (T := TX2) (N := 7) (n := 7) hts (zu_all 2 _ rfl) (hts _ zi_319)
  obtain ⟨c3, i3, h3⟩ := u_known (C := RX3) (T := TX3) (N := 3) (n := 3) hts (zu_all 3 _ rfl) (hts _ zi_210)
  obtain ⟨c4, i4, h4⟩ := u_known (C := RX4) (T := TX4) (N := 4) (n := 4) hts (zu_all 4 _ rfl) (hts _ zi_123)
  obtain ⟨c5, i5, h5⟩ := u_known (C := RX5) (T := TX5) (N := 3) (n := 3) hts (zu_all 5 _ rfl) (hts _ zi_246)
  obtain ⟨c6, i6, h6⟩ := u_known (C := RX6) (T := TX6) (N := 2) (n := 2) hts (zu_all 6 _ rfl) (hts _ zi_230)
  obtain ⟨c7, i7, h7⟩ := u_known (C := RX7) (T := TX7) (N := 6) (n := 6) hts (zu_all 7 _ rfl) (hts _ zi_399)
  obtain ⟨c8, i8, h8⟩ := u_known (C := RX8) (T := TX8) (N := 4) (n := 4) hts (zu_all 8 _ rfl) (hts _ zi_291)
  obtain ⟨c9, i9, h9⟩ := u_known (C := RX9) (T := TX9) (N := 12) (n := 12) hts (zu_all 9 _ rfl) (hts _ zi_113)
  obtain ⟨c10, i10, h10⟩ := u_known (C := RX10) (T := TX10) (N := 13) (n := 13) hts (zu_all 10 _ rfl) (hts _ zi_105)
  obtain ⟨c11, i11, h11⟩ := u_known (C := RX11) (T := TX11) (N := 25) (n := 25) hts (zu_all 11 _ rfl) (hts _ zi_943)
  refine ⟨(fun k => match k with | 0 => c0 | 1 => c1 | 2 => c2 | 3 => c3 | 4 => c4 | 5 => c5 | 6 => c6 | 7 => c7 | 8 => c8 | 9 => c9 | 10 => c10 | _ => c11, fun k => match k with | 0 => i0 | 1 => i1 | 2 => i2 | 3 => i3 | 4 => i4 | 5 => i5 | 6 => i6 | 7 => i7 | 8 => i8 | 9 => i9 | 10 => i10 | _ => i11), fun k q hq => ?_⟩
  match k, hq with
  | 0, hq => cases hq; exact h0
  | 1, hq => cases hq; exact h1
  | 2, hq => cases hq; exact h2
  | 3, hq => cases hq; exact h3
  | 4, hq => cases hq; exact h4
  | 5, hq => cases hq; exact h5
  | 6, hq => cases hq; exact h6
  | 7, hq => cases hq; exact h7
  | 8, hq => cases hq; exact h8
  | 9, hq => cases hq; exact h9
  | 10, hq => cases hq; exact h10
  | 11, hq => cases hq; exact h11
  | k + 12, hq => cases hq
set_option maxHeartbeats 8000000 in
set_option maxRecDepth 100000 in
/-- from the entry, for every script of at most 3584 ints, the law comes to its end with true -/
theorem whole_start {p : Program} {e : Env} {s : State} {m : MethodId} {below : List Frame} {meth : Method} {c : Code} (l : Launch) (hflags : l.flags = flags0) {b L : Nat} {xs : Nat → Int32} (hL : L ≤ 3584) (C0 : lw_At p s m meth c b L xs) : W p l e room_1 s m #[Value.ref b] below meth c s.heap [] 0 0 (lw_Z below #[Value.ref b] s) (entryFrame m ([Value.ref b] : List Value).toArray 4) := by
  obtain ⟨hx, hb, hr, hml, hown, htl, hXs, hbl, hlocks, hgv⟩ := id C0
  have hts : ∀ w ∈ zT, w.before #[Value.ref b] s = true := fun w hw => htl w (zT_sub hw)
  have hown : s.vm.findClass RL = some m.cls := hown
  have hA : ∀ q : Nat, s.heap.size ≤ q → (fun q : Nat => s.heap.size ≤ q) q := fun _ h => h
  obtain ⟨D, hKc⟩ := zD_ex hts
  obtain ⟨ca, hca⟩ := zt_ex htl
  have hN : zNw s := fun own idx y hw => va_Nw.of rfl (htl _ hw)
  have hNo : zNo s := zNo_ex htl hN
  have hS : va_S (fun q : Nat => s.heap.size ≤ q) s.heap s.heap [] := va_S.rf
  have hK : va_K D vwCl (ztys ca) s := ⟨hKc, hca⟩
  have hP : va_P D vwCl [] s.heap := fun k q h => by simp at h
  have hD : va_D (fun q : Nat => s.heap.size ≤ q) [] := ⟨fun i j p q h => by simp at h, fun k q h => by simp at h⟩
  have hl := lv_entry ([.ref b]) (n := 4) (Nat.le_of_ble_eq_true rfl)
  rw [lg_entry_eq]
  generalize (lg_sl ([.ref b]) ++ List.replicate (4 - (lg_sl ([.ref b])).length) Slot.unset).toArray = ls at hl ⊢
  have hl : lv_has ls 4 [(0, .ref b)] := hl
  refine va_new (ci := 10) (fs := [.null, .null, .null, .int (Int32.ofInt 0), .null, .null, .null, .null, .null, .null, .null, .int (Int32.ofInt 0), .int (Int32.ofInt 0)]) (C := RX10) (T := TX10) (N := 13) hx hb hts (zu_all 10 _ rfl) tyX10 tyX10_ok hown (hts _ zi_104) (hts _ zi_105) (hts _ zi_89) hK hP hD hS hA rfl zdf_10 (Nat.le_of_ble_eq_true rfl) (Nat.le_of_ble_eq_true rfl) dL_law_0 (fun h0 H hP hD hS => ?_)
  refine lv_dup hx hb dL_law_3 rfl ?_
  refine zn_init (As := []) (rest := [.ref h0]) (wr := []) (wc := [(h0, .inr (10, [.null, .null, .null, .int (Int32.ofInt 0), .null, .null, .null, .null, .null, .null, .null, .int (Int32.ofInt 0), .int (Int32.ofInt 0)]))]) ⟨hx, hb, hml, hown, hts⟩ hK hNo (n_X10_init l D ca h0 H.size) (cwI 0 hts (zgoodC zi_108) rfl rfl rfl (hts _ zi_89) (hts _ zi_106) (hts _ zi_107) rfl (by decide +kernel) ⟨Nat.le_of_ble_eq_true rfl, Nat.le_of_ble_eq_true rfl⟩) hP hD hS hA rfl hl.1 (Nat.le_of_ble_eq_true rfl) dL_law_4 ⟨Nat.le_of_ble_eq_true rfl, Nat.le_of_ble_eq_true rfl⟩ (fun w0 H locs hw0 hP hD hS => ?_)
  have hw0 : pst10 ca h0 w0 := hw0
  have hP : va_P D vwCl w0 H := hP
  have hD : va_D (fun q : Nat => s.heap.size ≤ q) w0 := hD
  refine lv_astore_n (lv' := [(1, .ref h0), (0, .ref b)]) hx hb dL_law_7 rfl hl (by decide) rfl (fun ls hl => ?_)
  refine va_new (ci := 11) (fs := [.null, .int (Int32.ofInt 0), .int (Int32.ofInt 0), .null, .null, .null, .null, .null, .int (Int32.ofInt 0), .int (Int32.ofInt 0), .null, .null, .null, .null, .null, .int (Int32.ofInt 0), .int (Int32.ofInt 0), .int (Int32.ofInt 0), .null, .null, .int (Int32.ofInt 0), .int (Int32.ofInt 0), .int (Int32.ofInt 0), .int (Int32.ofInt 0), .int (Int32.ofInt 0)]) (C := RX11) (T := TX11) (N := 25) hx hb hts (zu_all 11 _ rfl) tyX11 tyX11_ok hown (hts _ zi_942) (hts _ zi_943) (hts _ zi_101) hK hP hD hS hA rfl zdf_11 (Nat.le_of_ble_eq_true rfl) (Nat.le_of_ble_eq_true rfl) dL_law_8 (fun h1 H hP hD hS => ?_)
  refine lv_dup hx hb dL_law_11 rfl ?_
  refine zn_init (As := []) (rest := [.ref h1]) (wr := w0) (wc := [(h1, .inr (11, [.null, .int (Int32.ofInt 0), .int (Int32.ofInt 0), .null, .null, .null, .null, .null, .int (Int32.ofInt 0), .int (Int32.ofInt 0), .null, .null, .null, .null, .null, .int (Int32.ofInt 0), .int (Int32.ofInt 0), .int (Int32.ofInt 0), .null, .null, .int (Int32.ofInt 0), .int (Int32.ofInt 0), .int (Int32.ofInt 0), .int (Int32.ofInt 0), .int (Int32.ofInt 0)]))]) ⟨hx, hb, hml, hown, hts⟩ hK hNo (n_X11_init l D ca h1 H.size) (cwI 0 hts (zgoodC zi_946) rfl rfl rfl (hts _ zi_101) (hts _ zi_944) (hts _ zi_945) rfl (by decide +kernel) ⟨Nat.le_of_ble_eq_true rfl, Nat.le_of_ble_eq_true rfl⟩) hP hD hS hA rfl hl.1 (Nat.le_of_ble_eq_true rfl) dL_law_12 ⟨Nat.le_of_ble_eq_true rfl, Nat.le_of_ble_eq_true rfl⟩ (fun w1 H locs hw1 hP hD hS => ?_)
  have hw1 : pst11 ca h1 w1 := hw1
  refine lv_astore_n (lv' := [(2, .ref h1), (1, .ref h0), (0, .ref b)]) hx hb dL_law_15 rfl hl (by decide) rfl (fun ls hl => ?_)
  refine lv_iconst (v := Int32.ofInt 0) hx hb dL_law_16 rfl ?_
  refine lv_istore_n (lv' := [(3, .int (Int32.ofInt 0)), (2, .ref h1), (1, .ref h0), (0, .ref b)]) hx hb dL_law_17 rfl hl (by decide) rfl (fun ls hl => ?_)
  obtain ⟨ad, hP2, hD2, e209_, e374_⟩ := zg_all hw0 hw1 hP hD
  rw [← e209_, ← e374_] at hl
  have hz : ∀ q, zA ad q → s.heap.size ≤ q := fun q hq => by
    obtain ⟨a, ha, rfl⟩ := hq
    exact hD2.2 a _ (zws_get ha)
  have hD3 : va_D (zA ad) (zws ad ca Mz) := ⟨hD2.1, fun k q hk => by
    have h1 : k < zN := by have := (List.getElem?_eq_some_iff.mp hk).1; rw [zws_len] at this; exact this
    rw [zws_get h1] at hk
    cases hk
    exact ⟨k, h1, rfl⟩⟩
  refine W.widen (k := 600000) (n := 7302250) (Nat.le_of_ble_eq_true rfl) (Nat.le_of_ble_eq_true rfl) ?_
  exact law_loop hL C0 hK hN hz 512 0 0 Xz Mz H locs ls (by omega) (by decide) (Nat.zero_le _) Mz_IC Mz_IR Xz_ok hP2 hD3 hS (lv_sub hl [3, 2, 1, 0] rfl)
