/-! ### the law's calls -/
def zlwOk (e : Nat × Nat × Nat × Nat × Nat × Nat) : Bool := match zmt[e.2.1]?, zmp[e.2.1]? with
  | some q, some p => decide (p.2.2.2.2 = e.2.2.1) && decide (p.2.2.2.1 = 0) && decide (lw_tbl[e.2.2.2.2.1]? = some (Cond.methodLink RL e.1 q.2.1)) && decide (lw_tbl[e.2.2.2.2.2]? = some (Cond.selects q.2.1.cls q.2.1 q.2.1)) && (match vwCl[e.2.2.2.1]? with | some r => decide (r.1 = q.2.1.cls) | none => false)
  | _, _ => false
theorem zlw_use {idx μ n ci wl ws : Nat} (h : zlwOk (idx, μ, n, ci, wl, ws) = true) : ∃ (q : zMt) (pp : Nat × Nat × Nat × Nat × Nat) (r : vw_C), zmt[μ]? = some q ∧ zmp[μ]? = some pp ∧ pp.2.2.2.2 = n ∧ pp.2.2.2.1 = 0 ∧ Cond.methodLink RL idx q.2.1 ∈ zT ∧ Cond.selects q.2.1.cls q.2.1 q.2.1 ∈ zT ∧ vwCl[ci]? = some r ∧ r.1 = q.2.1.cls := by
  unfold zlwOk at h
  split at h
  · rename_i q pp h1 h2
    simp only [Bool.and_eq_true, decide_eq_true_eq] at h
    obtain ⟨⟨⟨⟨a1, a2⟩, a3⟩, a4⟩, a5⟩ := h
    split at a5
    · rename_i r h3
      exact ⟨q, pp, r, h1, h2, a1, a2, zT_in (List.mem_of_getElem? a3) rfl, zT_in (List.mem_of_getElem? a4) rfl, h3, of_decide_eq_true a5⟩
    · cases a5
  · cases h
def zly (xs : Nat → Int32) (j : Nat) : Int := (xs j).toInt
theorem zly_rg (xs : Nat → Int32) (j : Nat) : zrg (zly xs j) := z32rg _
theorem z31 (v : Int32) : 0 ≤ (v &&& Int32.ofInt 31).toInt ∧ (v &&& Int32.ofInt 31).toInt ≤ 31 := by
  have h : (v &&& Int32.ofInt 31).toBitVec.toNat ≤ 31 := by
    rw [Int32.toBitVec_and, BitVec.toNat_and]
    exact Nat.le_trans Nat.and_le_right (by decide +kernel)
  have h2 : (v &&& Int32.ofInt 31).toInt = ((v &&& Int32.ofInt 31).toBitVec.toNat : Int) := BitVec.toInt_eq_toNat_of_lt (by omega)
  rw [h2]
  omega
section ZLK
variable {p : Program} {l : Launch} {e : Env} {R : Room} {s : State} {m : MethodId} {args : Array Value} {below : List Frame} {meth : Method} {c : Code} {H : Heap} {locs : List Loc} {QQ : State → Prop} {cells slots : Nat}
variable {pc : Nat} {ls : Array Slot} {st0 rest : List Value} {a : Array Value} {ad : Nat → Nat} {ca : Nat → ClassId} {D : va_G} {A : Nat → Prop} {b L i u v : Nat} {xs : Nat → Int32} {M : zM}
/-- a call with a contract of the abstract machine's kind, where more than its cells is free -/
theorem zcallA {Q : zQ} (hr : va_Run p l e R s m args below meth c H locs cells slots 0 0 (F0 m pc ls st0) rest (zQc ad ca D Q a) (zA ad)) (hS : va_S A s.heap H locs) (hA : ∀ q, zA ad q → A q)
    (kk : ∀ (r : Option zV) (M' : zM) (H1 : Heap) (locs1 : List Loc), Q r M' → va_P D vwCl (zws ad ca M') H1 → va_D (zA ad) (zws ad ca M') → va_S A s.heap H1 locs1 → W p l e R s m args below meth c H1 locs1 cells slots QQ (F0 m (pc + 3) ls ((r.map (zcv ad)).toList ++ rest))) : W p l e R s m args below meth c H locs cells slots QQ (F0 m pc ls st0) := by
  intro T hT X
  obtain ⟨v, st₀, t, T', L, h0, X', hL, e1, e2, ⟨⟨r, M', hv, hq, hP, hD⟩, hz, hk⟩, st⟩ := hr T hT X
  cases hv
  rw [h0] at hz hk
  obtain ⟨t2, a1, b1⟩ := kk r M' T'.heap (locs ++ L) hq (by rw [e1]; exact hP) hD
    ⟨Nat.le_trans hS.1 (by rw [e1]; exact hz), fun q h1 h2 => by rw [e1, hk q (Nat.lt_of_lt_of_le h1 hS.1) (fun z => h2 (hA q z))]; exact hS.2.1 q h1 h2, fun q hq => by
      rcases List.mem_append.mp hq with h | h
      · exact hS.2.2 q h
      · exact hA _ (hL q h)⟩ T' rfl X'
  exact ⟨t2, st t2 a1, b1⟩
theorem zl_call {Qz : zQ} {μ n idx ci d wl ws : Nat} {as : List zV} (C0 : lw_At p s m meth c b L xs) (hK : va_K D vwCl (ztys ca) s) (hN : zNw s) (hP : va_P D vwCl (zws ad ca M) H) (hD : va_D (zA ad) (zws ad ca M)) (hS : va_S (fun q : Nat => s.heap.size ≤ q) s.heap H locs) (hA : ∀ q, zA ad q → s.heap.size ≤ q)
    (hsp : Sp 10 μ (.inr (.inr d) :: as) M Qz) (hlk : zlwOk (idx, μ, n, ci, wl, ws) = true) (hn : as.length = n) (hls : ls.size = 4) (hrest : (rest.map fun v => v.category).sum ≤ 8) (hkc : zkc d = ci + 1) (hdg : decode code pc = .ok (.invokevirtual idx, 3))
    (kk : ∀ (r : Option zV) (M' : zM) (H1 : Heap) (locs1 : List Loc), Qz r M' → va_P D vwCl (zws ad ca M') H1 → va_D (zA ad) (zws ad ca M') → va_S (fun q : Nat => s.heap.size ≤ q) s.heap H1 locs1 → W p l e room_1 s m #[Value.ref b] below meth c H1 locs1 600000 7302250 QQ (F0 m (pc + 3) ls ((r.map (zcv ad)).toList ++ rest))) : W p l e room_1 s m #[Value.ref b] below meth c H locs 600000 7302250 QQ (F0 m pc ls ((as.map (zcv ad)).reverse ++ .ref (ad d) :: rest)) := by
  obtain ⟨hx, hb, hr, hml, hown, hts, hX, hbl, hlocks, hgv⟩ := C0
  have htz : ∀ w ∈ zT, w.before #[Value.ref b] s = true := fun w hw => hts w (zT_sub hw)
  obtain ⟨q, pp, r, hq, hp, k1, k0, k2, k3, k4, k5⟩ := zlw_use hlk
  obtain ⟨p2, hp2, m1, m2, m3, m4, m5, m6, m7⟩ := zm_use hq
  have e2 : p2 = pp := Option.some.inj (hp2.symm.trans hp)
  subst e2
  rw [if_neg (by omega)] at m2
  obtain ⟨e1, ha, h4⟩ := zcell_4 (ad := ad) (ca := ca) (M := M) hkc
  have he : (zws ad ca M)[d]? = some (ad d, .inr (ci, zfv ad (M d) (zk d).2.2 0)) := by rw [zws_get ha, e1]
  have hM := zsound l ad ca D 10 μ (.inr (.inr d) :: as) M Qz q hsp hq
  have cw : CallW room_1 s #[Value.ref b] RL q.2.1.cls idx q.2.1 q.2.2.1 q.2.2.2.1 q.2.2.2.2 (zwd q) (zrm 10) 0 0 n := by
    refine cwV n htz ?_ rfl rfl rfl ⟨rfl, m5.1, m5.2, by rw [m6, k1]⟩ ⟨Nat.le_of_ble_eq_true rfl, by show 8 + (q.2.2.2.1 + 11) + 400 ≤ 466; omega⟩
    intro w hw
    rcases List.mem_append.mp hw with hw | hw
    · simp only [List.mem_cons, List.not_mem_nil, or_false] at hw
      rcases hw with rfl | rfl | rfl | rfl
      · exact zgoodT k2
      · exact zgoodT m2
      · exact zgoodT k3
      · exact zgoodT m1
    · exact zwd_good hq w hw
  exact zcallA (va_runV (C := q.2.1.cls) (As := as.map (zcv ad)) (rest := rest) ⟨hx, hb, hml, hown, htz⟩ hM cw ⟨zFr, by rw [← k5]; exact va_recv hK hP k4 he, fun U hU hW => ⟨rfl, by rw [hU]; exact hP, va_K.moved hW.alike hK, hD, hN.warm hW⟩⟩ rfl (by rw [List.length_map]; exact hn) hls rfl (lv_room hrest) hdg ⟨Nat.le_of_ble_eq_true rfl, Nat.le_of_ble_eq_true rfl⟩) hS hA kk
/-- a number of the script -/
theorem zl_ld {j : Nat} (hL : L ≤ 3584) (C0 : lw_At p s m meth c b L xs) (hS : va_S (fun q : Nat => s.heap.size ≤ q) s.heap H locs) (hj : j < L) (d4 : decode code pc = .ok (.iaload, 1))
    (kk : W p l e room_1 s m #[Value.ref b] below meth c H locs cells slots QQ (F0 m (pc + 1) ls (.int (Int32.ofInt (zly xs j)) :: rest))) : W p l e room_1 s m #[Value.ref b] below meth c H locs cells slots QQ (F0 m pc ls (.int (Int32.ofInt (j : Int)) :: .ref b :: rest)) := by
  obtain ⟨hx, hb, hr, hml, hown, hts, hX, hbl, hlocks, hgv⟩ := C0
  refine va_sld hx hb hX hbl (Nat.not_le.mpr hbl) hS (zvin (by omega) (by omega) (by omega)) d4 ?_
  rw [znat (by omega) (by omega), Int.toNat_natCast]
  unfold zly at kk
  rw [z32] at kk
  exact kk
theorem zl_arg {k : Nat} (hL : L ≤ 3584) (C0 : lw_At p s m meth c b L xs) (hS : va_S (fun q : Nat => s.heap.size ≤ q) s.heap H locs) (hl : lv_has ls 4 [(0, .ref b), (1, .ref u), (2, .ref v), (3, .int (Int32.ofInt (i : Int)))]) (hj : i + k < L) (d0 : decode code pc = .ok (.aload_n 0, 1)) (d1 : decode code (pc + 1) = .ok (.iload_n 3, 1)) (d2 : decode code (pc + 2) = .ok (.iconst (k : Int), 1)) (d3 : decode code (pc + 3) = .ok (.iadd, 1)) (d4 : decode code (pc + 4) = .ok (.iaload, 1))
    (kk : W p l e room_1 s m #[Value.ref b] below meth c H locs cells slots QQ (F0 m (pc + 5) ls (.int (Int32.ofInt (zly xs (i + k))) :: rest))) : W p l e room_1 s m #[Value.ref b] below meth c H locs cells slots QQ (F0 m pc ls rest) := by
  obtain ⟨hx, hb, -⟩ := id C0
  refine lv_aload_n hx hb d0 rfl (lv_at hl 0 rfl) ?_
  refine lv_iload_n hx hb d1 rfl (lv_at hl 3 rfl) ?_
  refine lv_iconst (v := Int32.ofInt (k : Int)) hx hb d2 rfl ?_
  refine lv_iadd hx hb d3 ?_
  rw [← Int32.ofInt_add, ← Int.natCast_add]
  exact zl_ld hL C0 hS hj d4 kk
theorem zl_arg6 {k : Nat} (hL : L ≤ 3584) (C0 : lw_At p s m meth c b L xs) (hS : va_S (fun q : Nat => s.heap.size ≤ q) s.heap H locs) (hl : lv_has ls 4 [(0, .ref b), (1, .ref u), (2, .ref v), (3, .int (Int32.ofInt (i : Int)))]) (hj : i + k < L ∧ k < 128) (d0 : decode code pc = .ok (.aload_n 0, 1)) (d1 : decode code (pc + 1) = .ok (.iload_n 3, 1)) (d2 : decode code (pc + 2) = .ok (.bipush (k : Int), 2)) (d3 : decode code (pc + 4) = .ok (.iadd, 1)) (d4 : decode code (pc + 5) = .ok (.iaload, 1))
    (kk : W p l e room_1 s m #[Value.ref b] below meth c H locs cells slots QQ (F0 m (pc + 6) ls (.int (Int32.ofInt (zly xs (i + k))) :: rest))) : W p l e room_1 s m #[Value.ref b] below meth c H locs cells slots QQ (F0 m pc ls rest) := by
  obtain ⟨hx, hb, -⟩ := id C0
  refine lv_aload_n hx hb d0 rfl (lv_at hl 0 rfl) ?_
  refine lv_iload_n hx hb d1 rfl (lv_at hl 3 rfl) ?_
  refine lv_bipush (v := Int32.ofInt (k : Int)) hx hb d2 (zi8 (by omega) (by omega)) ?_
  refine lv_iadd hx hb d3 ?_
  rw [← Int32.ofInt_add, ← Int.natCast_add]
  exact zl_ld hL C0 hS hj.1 d4 kk
end ZLK
/-- behind one call of the script on both sides -/
def zlNext (p : Program) (l : Launch) (e : Env) (s : State) (m : MethodId) (below : List Frame) (meth : Method) (c : Code) (b : Nat) (ad : Nat → Nat) (ca : Nat → ClassId) (D : va_G) (QQ : State → Prop) (ls : Array Slot) (B : Int) : Prop := ∀ (X' : zX) (M' : zM) (H' : Heap) (locs' : List Loc), IC X' M' → IR X' M' → WX (B + 12000) X' → va_P D vwCl (zws ad ca M') H' → va_D (zA ad) (zws ad ca M') → va_S (fun q : Nat => s.heap.size ≤ q) s.heap H' locs' → W p l e room_1 s m #[Value.ref b] below meth c H' locs' 600000 7302250 QQ (F0 m 785 ls [])
