/-! ### the classes of arrays, out of the tables -/
theorem zt_arr {s : State} {c : ClassId} {k : Class} {comp : ClassId} {ty : FieldType} (hk : s.vm.classes[c]? = some k) (h : k.kind = .array comp ty) : ArrOfT s c ty := fun n z => ⟨fun x h => (by cases h), k, hk, comp, h⟩
theorem zj_Sh : Cond.arrayOver (.object "SwarmPlanner$Shape") ∈ lw_tbl := List.mem_of_getElem? (i := 119) (by decide +kernel)
theorem zj_Wo : Cond.arrayOver (.object "SwarmPlanner$World") ∈ lw_tbl := List.mem_of_getElem? (i := 216) (by decide +kernel)
theorem zj_AI : Cond.arrayOver (.array .int) ∈ lw_tbl := List.mem_of_getElem? (i := 297) (by decide +kernel)
theorem zj_AL : Cond.arrayOver (.array .long) ∈ lw_tbl := List.mem_of_getElem? (i := 325) (by decide +kernel)
theorem zt_ex {s : State} {args : Array Value} (hts : ∀ w ∈ lw_tbl, w.before args s = true) : ∃ ca : Nat → ClassId, ∀ (k : Nat) (q : ClassId × FieldType), (ztys ca)[k]? = some q → ArrOfT s q.1 q.2 ∧ va_RA s q.1 q.2 := by
  obtain ⟨c0, k0, p0, a1, a2, a3⟩ := Cond.arrayClass_spec (hts _ (zT_sub zi_147))
  obtain ⟨c1, k1, p1, b1, b2, b3⟩ := Cond.arrayClass_spec (hts _ (zT_sub zi_311))
  obtain ⟨c2, k2, p2, d1, d2, d3⟩ := Cond.arrayClass_spec (hts _ (zT_sub zi_350))
  obtain ⟨p3, c3, k3, f0, f1, f2, f3⟩ := mn_over (hts _ zj_AI)
  obtain ⟨p4, c4, k4, g0, g1, g2, g3⟩ := mn_over (hts _ zj_AL)
  obtain ⟨p5, c5, k5, h0, -, h1, h2, h3⟩ := Cond.arrayOver_spec (hts _ zj_Sh)
  obtain ⟨p6, c6, k6, i0, -, i1, i2, i3⟩ := Cond.arrayOver_spec (hts _ zj_Wo)
  refine ⟨fun j => match j with | 0 => c0 | 1 => c1 | 2 => c2 | 3 => c3 | 4 => c4 | 5 => c5 | _ => c6, fun k q hq => ?_⟩
  match k, hq with
  | 0, hq => cases hq; exact ⟨zt_arr a2 a3, a1⟩
  | 1, hq => cases hq; exact ⟨zt_arr b2 b3, b1⟩
  | 2, hq => cases hq; exact ⟨zt_arr d2 d3, d1⟩
  | 3, hq => cases hq; exact ⟨zt_arr f1 f2, f3⟩
  | 4, hq => cases hq; exact ⟨zt_arr g1 g2, g3⟩
  | 5, hq => cases hq; exact ⟨zt_arr h1 h2, k5, p5, h1, h2, h0, h3⟩
  | 6, hq => cases hq; exact ⟨zt_arr i1 i2, k6, p6, i1, i2, i0, i3⟩
  | k + 7, hq => cases hq
theorem zNo_ex {s : State} {args : Array Value} (hts : ∀ w ∈ lw_tbl, w.before args s = true) (hN : zNw s) : zNo s := ⟨va_AO.of (hts _ zj_Sh), va_AO.of (hts _ zj_Wo), mn_over (hts _ zj_AI), mn_over (hts _ zj_AL), hN⟩
