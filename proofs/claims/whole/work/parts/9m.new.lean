/-! ### making cells: what a constructor promises, and the steps of one -/
def zNo (U : State) : Prop := va_AO RX4 U ∧ va_AO RX9 U ∧ mnOv .int U ∧ mnOv .long U ∧ zNw U
theorem zNo.warm {s U : State} (hW : s.WarmedH U.vm) (h : zNo s) : zNo U := ⟨h.1.moved hW.alike, h.2.1.moved hW.alike, h.2.2.1.moved hW.alike, h.2.2.2.1.moved hW.alike, h.2.2.2.2.warm hW⟩
def zNP (D : va_G) (ca : Nat → ClassId) (as : List Value) (ws : va_W) (sz : Nat) : Array Value → State → Prop := va_Pc as (fun U => U.heap.size = sz ∧ va_P D vwCl ws U.heap ∧ va_K D vwCl (ztys ca) U ∧ va_D (fun _ => True) ws ∧ zNo U)
def zNQ (D : va_G) (ws : va_W) (sz : Nat) (post : va_W → Prop) : Array Value → State → Outcome → State → Prop := va_Qv post (fun w t => va_P D vwCl w t.heap ∧ va_D (va_A ws sz) w) (va_A ws sz)
theorem zNP_blind (D : va_G) (ca : Nat → ClassId) (as : List Value) (ws : va_W) (sz : Nat) : FrameBlind (zNP D ca as ws sz) := fun a U g mk q => by
  obtain ⟨q0, q1, qP, qK, qD, qN⟩ := q
  exact ⟨q0, q1, qP, va_K.moved (u := U) (U := U.calling g mk a) (Vm.Alike.refl U.vm) qK, qD, ⟨va_AO.moved (u := U) (U := U.calling g mk a) (Vm.Alike.refl U.vm) qN.1, va_AO.moved (u := U) (U := U.calling g mk a) (Vm.Alike.refl U.vm) qN.2.1, mnOv.moved (u := U) (U := U.calling g mk a) (Vm.Alike.refl U.vm) qN.2.2.1, mnOv.moved (u := U) (U := U.calling g mk a) (Vm.Alike.refl U.vm) qN.2.2.2.1, fun own idx y h => va_Nw.same rfl rfl (qN.2.2.2.2 own idx y h)⟩⟩
/-- behind a call whose cells stand last -/
theorem zn_join {A : Nat → Prop} {D : va_G} {cl : List vw_C} {wr wc w1 : va_W} {H H1 : Heap} (hP : va_P D cl (wr ++ wc) H) (hD : va_D A (wr ++ wc)) (hk : ∀ q : Nat, q < H.size → ¬ va_A wc H.size q → H1[q]? = H[q]?) (hF : ∀ q, va_A wc H.size q → A q) (hP1 : va_P D cl w1 H1) (hD1 : va_D (va_A wc H.size) w1) : va_P D cl (wr ++ w1) H1 ∧ va_D A (wr ++ w1) := by
  have hl : ∀ (k : Nat) (q : Nat × va_E), wr[k]? = some q → (wr ++ wc)[k]? = some q := fun k q h => by rw [List.getElem?_append_left (List.getElem?_eq_some_iff.mp h).1]; exact h
  have hr : ∀ (k : Nat) (q : Nat × va_E), wc[k]? = some q → (wr ++ wc)[wr.length + k]? = some q := fun k q h => by rw [List.getElem?_append_right (by omega), Nat.add_sub_cancel_left]; exact h
  have ap : ∀ (k : Nat) (q : Nat × va_E), wr[k]? = some q → q.1 < H.size ∧ ¬ va_A wc H.size q.1 := fun k q h => by
    have h1 := (hP k q (hl k q h)).lt
    refine ⟨h1, fun z => ?_⟩
    rcases z with ⟨j, e, z⟩ | z
    · have := hD.1 _ _ _ _ (hl k q h) (hr j _ z) rfl
      have := (List.getElem?_eq_some_iff.mp h).1
      omega
    · omega
  have hDr : va_D A wr := ⟨fun i j x y hi hj e => hD.1 i j x y (hl i x hi) (hl j y hj) e, fun k q h => hD.2 k q (hl k q h)⟩
  refine ⟨va_P.app (fun k q h => (hP k q (hl k q h)).kept (hk q.1 (ap k q h).1 (ap k q h).2)) hP1, va_D.app hDr (hD1.weaken (fun k q _ h => hF q.1 h)) (fun i j x y hx hy e => ?_)⟩
  exact (ap i x hx).2 (by rw [e]; exact hD1.2 j y hy)
theorem zn_free {A : Nat → Prop} {wr wc : va_W} {H0 H : Heap} {locs : List Loc} (hD : va_D A (wr ++ wc)) (hS : va_S A H0 H locs) (hA : ∀ q, H0.size ≤ q → A q) : ∀ q, va_A wc H.size q → A q := by
  intro q h
  rcases h with ⟨k, e, h⟩ | h
  · exact hD.2 (wr.length + k) (q, e) (by rw [List.getElem?_append_right (by omega), Nat.add_sub_cancel_left]; exact h)
  · exact hA q (Nat.le_trans hS.1 h)
section ZN
variable {p : Program} {l : Launch} {e : Env} {R : Room} {s : State} {m : MethodId} {args : Array Value} {below : List Frame} {meth : Method} {c : Code} {H : Heap} {locs : List Loc} {cells slots : Nat} {Q : State → Prop}
variable {cc : ByteArray} {pc : Nat} {ls : Array Slot} {rest : List Value} {D : va_G} {ca : Nat → ClassId} {A : Nat → Prop} {ws wr wc : va_W} {nL : Nat} {own : String}
theorem zn_initC (hK : va_K D vwCl (ztys ca) s) (hNo : zNo s) {mc ms b : Nat} {As : List Value} {post : va_W → Prop}
    (hr : PreS s H (zNP D ca (.ref b :: As) wc H.size) (.ref b :: As) → va_Run p l e R s m args below meth c H locs cells slots mc ms (F0 m pc ls (As.reverse ++ .ref b :: rest)) rest (zNQ D wc H.size post (Value.ref b :: As).toArray) (va_A wc H.size)) (hP : va_P D vwCl (wr ++ wc) H) (hD : va_D A (wr ++ wc)) (hS : va_S A s.heap H locs) (hA : ∀ q, s.heap.size ≤ q → A q)
    (kk : ∀ (w1 : va_W) (H1 : Heap) (locs1 : List Loc), post w1 → va_P D vwCl (wr ++ w1) H1 → va_D A (wr ++ w1) → va_S A s.heap H1 locs1 → W p l e R s m args below meth c H1 locs1 (cells + mc) (slots + ms) Q (F0 m (pc + 3) ls rest)) : W p l e R s m args below meth c H locs cells slots Q (F0 m pc ls (As.reverse ++ .ref b :: rest)) := by
  have hFc := zn_free hD hS hA
  have hPc : va_P D vwCl wc H := fun k q h => hP (wr.length + k) q (by rw [List.getElem?_append_right (by omega), Nat.add_sub_cancel_left]; exact h)
  have hDc : va_D (fun _ => True) wc := ⟨fun i j x y hx hy e => by
    have := hD.1 (wr.length + i) (wr.length + j) x y (by rw [List.getElem?_append_right (by omega), Nat.add_sub_cancel_left]; exact hx) (by rw [List.getElem?_append_right (by omega), Nat.add_sub_cancel_left]; exact hy) e
    omega, fun _ _ _ => trivial⟩
  refine va_callv (hr ⟨zNP_blind D ca _ wc H.size, fun U hU hW => ⟨rfl, by rw [hU], by rw [hU]; exact hPc, va_K.moved hW.alike hK, hDc, hNo.warm hW⟩⟩) hS (fun q _ h => hFc q h) hFc (fun u t H1 locs1 ht hvm hw hB hz1 hk1 hS => ?_)
  obtain ⟨hP1, hD1⟩ := hB
  rw [ht] at hP1
  obtain ⟨hP, hD⟩ := zn_join hP hD hk1 hFc hP1 hD1
  exact kk u H1 locs1 hw hP hD hS
theorem zn_init (S : CallFix p m c cc nL s args zT own) (hK : va_K D vwCl (ztys ca) s) (hNo : zNo s) {y : MethodName} {bytes : ByteArray} {maxL n index mc ms b : Nat} {rm : Room} {As : List Value} {post : va_W → Prop} (hM : Met l y (Cond.code y bytes maxL none :: zT) rm (zNP D ca (.ref b :: As) wc H.size) (zNQ D wc H.size post) mc ms (va_A wc H.size))
    (cw : CallB R s args own index y bytes maxL none (Cond.code y bytes maxL none :: zT) rm mc ms n ∧ y.name = "<init>" ∧ (Cond.instanceMethod y).before args s = true) (hP : va_P D vwCl (wr ++ wc) H) (hD : va_D A (wr ++ wc)) (hS : va_S A s.heap H locs) (hA : ∀ q, s.heap.size ≤ q → A q) (hn : As.length = n) (hls : ls.size = nL) (hW : (rest.map fun v => v.category).sum ≤ 8) (hdg : decode cc pc = .ok (.invokespecial index, 3)) (hf : cells + mc ≤ R.cells ∧ slots + ms ≤ R.slots)
    (kk : ∀ (w1 : va_W) (H1 : Heap) (locs1 : List Loc), post w1 → va_P D vwCl (wr ++ w1) H1 → va_D A (wr ++ w1) → va_S A s.heap H1 locs1 → W p l e R s m args below meth c H1 locs1 (cells + mc) (slots + ms) Q (F0 m (pc + 3) ls rest)) : W p l e R s m args below meth c H locs cells slots Q (F0 m pc ls (As.reverse ++ .ref b :: rest)) :=
  zn_initC hK hNo (fun hp => va_runI (As := As) (rest := rest) S hM cw hp rfl hn hls rfl (lv_room hW) hdg hf) hP hD hS hA kk
theorem zn_initN (S : CallFix p m c cc nL s args zT own) (hK : va_K D vwCl (ztys ca) s) (hNo : zNo s) {y : MethodName} {host : String} {bytes : ByteArray} {maxL n index mc ms b : Nat} {rm : Room} {As : List Value} {post : va_W → Prop} (hM : Met l y (Cond.code y bytes maxL none :: zT) rm (zNP D ca (.ref b :: As) wc H.size) (zNQ D wc H.size post) mc ms (va_A wc H.size))
    (cw : va_CN R s args own index y host bytes maxL none (Cond.code y bytes maxL none :: zT) rm mc ms n ∧ y.name = "<init>" ∧ (Cond.instanceMethod y).before args s = true) (hP : va_P D vwCl (wr ++ wc) H) (hD : va_D A (wr ++ wc)) (hS : va_S A s.heap H locs) (hA : ∀ q, s.heap.size ≤ q → A q) (hn : As.length = n) (hls : ls.size = nL) (hW : (rest.map fun v => v.category).sum ≤ 8) (hdg : decode cc pc = .ok (.invokespecial index, 3)) (hf : cells + mc ≤ R.cells ∧ slots + ms ≤ R.slots)
    (kk : ∀ (w1 : va_W) (H1 : Heap) (locs1 : List Loc), post w1 → va_P D vwCl (wr ++ w1) H1 → va_D A (wr ++ w1) → va_S A s.heap H1 locs1 → W p l e R s m args below meth c H1 locs1 (cells + mc) (slots + ms) Q (F0 m (pc + 3) ls rest)) : W p l e R s m args below meth c H locs cells slots Q (F0 m pc ls (As.reverse ++ .ref b :: rest)) :=
  zn_initC hK hNo (fun hp => va_runIN (As := As) (rest := rest) S hM cw hp rfl hn hls rfl (lv_room hW) hdg hf) hP hD hS hA kk
/-- fill, one array of many cells -/
theorem zgoodC {y : MethodName} {b : ByteArray} {k : Nat} {r : Option FieldType} (h : Cond.code y b k r ∈ zT) : GoodIn zT (Cond.code y b k r :: zT) := by
  intro w hw
  rcases List.mem_cons.mp hw with rfl | hw
  · exact zgoodT h
  · exact zgoodT hw
theorem zn_set {D : va_G} {cl : List vw_C} {a k : Nat} {e e1 : va_E} {H H1 : Heap} (hP : va_P D cl ws H) (hD : va_D A ws) (hk : ws[k]? = some (a, e)) (h1 : va_at D cl (a, e1) H1) (ho : ∀ q, q < H.size → q ≠ a → H1[q]? = H[q]?) : va_P D cl (ws.set k (a, e1)) H1 := by
  intro j q hj
  by_cases z : j = k
  · subst z
    rw [List.getElem?_set_self (List.getElem?_eq_some_iff.mp hk).1] at hj
    cases hj
    exact h1
  · rw [List.getElem?_set_ne (Ne.symm z)] at hj
    have h2 := hP j q hj
    exact h2.kept (ho q.1 h2.lt (fun y => z (hD.1 j k q (a, e) hj hk y)))
/-- an array of numbers or truths -/
theorem zn_newa (hexec : p.tables.exec = Jvm.exec) (hb : c.code = cc) {atype : ArrayType} {ty : FieldType} (harr : (Cond.arrayClass (newarray.typeOf atype)).before args s = true) (t : Nat) (hty : newarray.typeOf atype = ty) (ht : (ztys ca)[t]? = some (ca t, ty)) (hra : ∀ c : ClassId, va_RA s c ty = (s.vm.findClass ("[" ++ ty.toString) = some c)) (hK : va_K D vwCl (ztys ca) s) (hP : va_P D vwCl ws H) (hD : va_D A ws) (hS : va_S A s.heap H locs) (hA : ∀ q, s.heap.size ≤ q → A q)
    {n : Int32} {N : Nat} {a0 : vp_A} (ha : ∀ cA : ClassId, vp_cell cA a0 = arrV cA N (fun _ => defaultValue ty)) (hn : ¬ n < 0) (hN : n.toNatClampNeg = N) (hbytes : N * componentBytes ty ≤ 536870912) (hcells : cells + 1 ≤ R.cells) (hslots : slots + N ≤ R.slots) (hdg : decode cc pc = .ok (.newarray atype, 2))
    (kk : ∀ (q : Nat) (H1 : Heap), va_P D vwCl (ws ++ [(q, .inl (ca t, a0))]) H1 → va_D A (ws ++ [(q, .inl (ca t, a0))]) → va_S A s.heap H1 locs → W p l e R s m args below meth c H1 locs (cells + 1) (slots + N) Q (F0 m (pc + 2) ls (.ref q :: rest))) : W p l e R s m args below meth c H locs cells slots Q (F0 m pc ls (.int n :: rest)) := by
  refine va_newa hexec hb harr hty hK hP hD hS hA ha hn hN hbytes hcells hslots hdg (fun q cA H1 hK1 hP1 hD1 hS1 => ?_)
  have h1 := (hK1.2 (ztys ca).length (cA, ty) (by rw [List.getElem?_append_right (Nat.le_refl _), Nat.sub_self]; rfl)).2
  have h2 := (hK.2 t (ca t, ty) ht).2
  rw [hra] at h1 h2
  obtain rfl : cA = ca t := Option.some.inj (h1.symm.trans h2)
  exact kk q H1 hP1 hD1 hS1
/-- an array of objects -/
theorem zn_newq (hexec : p.tables.exec = Jvm.exec) (hb : c.code = cc) {C : String} {index : Nat} (hown : s.vm.findClass own = some m.cls) (hclink : (Cond.classLink own index C).before args s = true) (hover : va_AO C s) (t : Nat) (ht : (ztys ca)[t]? = some (ca t, .object C)) (hK : va_K D vwCl (ztys ca) s) (hP : va_P D vwCl ws H) (hD : va_D A ws) (hS : va_S A s.heap H locs) (hA : ∀ q, s.heap.size ≤ q → A q)
    {n : Int32} {N : Nat} (hn : ¬ n < 0) (hN : n.toNatClampNeg = N) (hbytes : N * 4 ≤ 536870912) (hcells : cells + 1 ≤ R.cells) (hslots : slots + N ≤ R.slots) (hdg : decode cc pc = .ok (.anewarray index, 3))
    (kk : ∀ (q : Nat) (H1 : Heap), va_P D vwCl (ws ++ [(q, .inl (ca t, N, .inr (.inr (.inr (.inr (fun _ => none))))))]) H1 → va_D A (ws ++ [(q, .inl (ca t, N, .inr (.inr (.inr (.inr (fun _ => none))))))]) → va_S A s.heap H1 locs → W p l e R s m args below meth c H1 locs (cells + 1) (slots + N) Q (F0 m (pc + 3) ls (.ref q :: rest))) : W p l e R s m args below meth c H locs cells slots Q (F0 m pc ls (.int n :: rest)) := by
  refine va_newq hexec hb hown hclink hover hK hP hD hS hA hn hN hbytes hcells hslots hdg (fun q cA H1 hK1 hP1 hD1 hS1 => ?_)
  have h1 := (hK1.2 (ztys ca).length (cA, .object C) (by rw [List.getElem?_append_right (Nat.le_refl _), Nat.sub_self]; rfl)).2
  have h2 := (hK.2 t (ca t, .object C) ht).2
  obtain ⟨-, -, -, -, -, h1⟩ := h1
  obtain ⟨-, -, -, -, -, h2⟩ := h2
  obtain rfl : cA = ca t := Option.some.inj (h1.symm.trans h2)
  exact kk q H1 hP1 hD1 hS1
end ZN
