/-! ### an array of arrays: 'multianewarray' over two lengths, in the model, and as a row -/
section Mna
variable {E : CtlPost} {e : Env} {d : Bool} {acts : List Action} {s : State}
/-- the machine when the outer array and i inner ones are made -/
def mnS (T : State) (cA cB : ClassId) (N M : Nat) (v : Value) : Nat → State
  | 0 => T.pushCell (arrV cA N (fun _ => .null))
  | i + 1 => ((mnS T cA cB N M v i).pushCell (arrV cB M (fun _ => v))).setCell T.heap.size (arrV cA N (fun j => if j < i + 1 then .ref (T.heap.size + 1 + j) else .null))
def mnO (cA : ClassId) (N h i : Nat) : Cell := arrV cA N (fun j => if j < i then .ref (h + 1 + j) else .null)
theorem mnO_0 (cA : ClassId) (N h : Nat) : mnO cA N h 0 = arrV cA N (fun _ => .null) := by
  unfold mnO
  congr 1
theorem mnO_s (cA : ClassId) (N h i : Nat) : (mnO cA N h i).setSlot i (.ref (h + 1 + i)) = mnO cA N h (i + 1) := by
  unfold mnO
  rw [arrV_store]
  congr 1
  funext j
  unfold updV
  by_cases z : j = i
  · subst z
    rw [if_pos rfl, if_pos (by omega)]
  · rw [if_neg z]
    show (if j < i then Value.ref (h + 1 + j) else Value.null) = _
    by_cases y : j < i
    · rw [if_pos y, if_pos (by omega)]
    · rw [if_neg y, if_neg (by omega)]
theorem mnS_f (T : State) (cA cB : ClassId) (N M : Nat) (v : Value) : ∀ i, (mnS T cA cB N M v i).heap.size = T.heap.size + 1 + i ∧ (mnS T cA cB N M v i).heap[T.heap.size]? = some (mnO cA N T.heap.size i) ∧ (mnS T cA cB N M v i).vm = T.vm ∧ (mnS T cA cB N M v i).slotsUsed = T.slotsUsed + N + i * M
  | 0 => ⟨by simp [mnS], by simp [mnS, mnO_0], rfl, by simp [mnS, arrV_size]⟩
  | i + 1 => by
    obtain ⟨h1, h2, h3, h4⟩ := mnS_f T cA cB N M v i
    have hb : ((mnS T cA cB N M v i).pushCell (arrV cB M (fun _ => v))).heap[T.heap.size]? = some (mnO cA N T.heap.size i) := by
      have hlt : T.heap.size < (mnS T cA cB N M v i).heap.size := by rw [h1]; omega
      rw [State.heap_pushCell_of_lt (h := hlt)]; exact h2
    refine ⟨?_, State.heap_setCell_self hb, by simp [mnS, h3], ?_⟩
    · simp [mnS, State.setCell, h1]; omega
    · simp [mnS, h4, arrV_size, Nat.succ_mul]; omega
theorem mnS_old (T : State) (cA cB : ClassId) (N M : Nat) (v : Value) {a : Nat} (ha : a < T.heap.size) : ∀ i, (mnS T cA cB N M v i).heap[a]? = T.heap[a]?
  | 0 => State.heap_pushCell_of_lt _ _ ha
  | i + 1 => by
    have h1 := (mnS_f T cA cB N M v i).1
    show (((mnS T cA cB N M v i).pushCell _).setCell T.heap.size _).heap[a]? = _
    have hlt : a < (mnS T cA cB N M v i).heap.size := by rw [h1]; omega
    rw [State.heap_setCell_other (Nat.ne_of_gt ha), State.heap_pushCell_of_lt (h := hlt)]
    exact mnS_old T cA cB N M v ha i
theorem mnS_in (T : State) (cA cB : ClassId) (N M : Nat) (v : Value) : ∀ i j, j < i → (mnS T cA cB N M v i).heap[T.heap.size + 1 + j]? = some (arrV cB M (fun _ => v))
  | 0, _, h => absurd h (Nat.not_lt_zero _)
  | i + 1, j, h => by
    have h1 := (mnS_f T cA cB N M v i).1
    show (((mnS T cA cB N M v i).pushCell _).setCell T.heap.size _).heap[T.heap.size + 1 + j]? = _
    rw [State.heap_setCell_other (show T.heap.size ≠ T.heap.size + 1 + j by omega)]
    by_cases z : j = i
    · subst z
      rw [← h1]
      exact State.heap_pushCell_size _ _
    · have hlt : T.heap.size + 1 + j < (mnS T cA cB N M v i).heap.size := by rw [h1]; omega
      rw [State.heap_pushCell_of_lt (h := hlt)]
      exact mnS_in T cA cB N M v i j (by omega)
theorem mnS_top (T : State) (f : JFrame) (cA cB : ClassId) (N M : Nat) (v : Value) : ∀ i, mnS (T.setTop f) cA cB N M v i = (mnS T cA cB N M v i).setTop f
  | 0 => rfl
  | i + 1 => by simp only [mnS, mnS_top T f cA cB N M v i, State.heap_setTop, State.pushCell_setTop, State.setCell_setTop]
/-- one array, as the model makes it -/
theorem mn_one {c cc : ClassId} {k : Class} {ty : FieldType} {len : Nat} {v : Value} (hk : s.vm.classes[c]? = some k) (hkind : k.kind = .array cc ty) (hl : ¬ len > e.platform.arrayLengthLimit) (hh : ¬ len * componentBytes ty > e.platform.maxHeapBytes) (hf : fits ty v = true) (hd : v.isDefault = true) {Q : Addr → Pre}
    (h1 : s.heap.size < e.platform.maxCells) (h2 : s.slotsUsed + len ≤ e.platform.maxSlots) (hq : Q s.heap.size d acts (s.pushCell (arrV c len (fun _ => v)))) : wp (Jvm.newArray c len v) Q E e d acts s := by
  have hfit : ∀ i w, (Array.replicate len v)[i]? = some w → s.fitsSlot c .none i w = true := fun i w hw => by
    simp only [Array.getElem?_replicate] at hw
    split at hw
    · cases hw; simp [State.fitsSlot, State.slotType?, hk, hkind, hf]
    · cases hw
  have hact : allocActs (Array.replicate len v) s.heap.size acts = acts := by
    have : ((Array.replicate len v).all (·.isDefault)) = true := by
      rw [Array.all_replicate]; split <;> simp [hd]
    unfold allocActs; rw [if_pos this]
  rw [← arrV_new] at hq
  simp only [Jvm.newArray, Jvm.arrayFits, wp_bind', W.ask, W.ite, hl, if_false, wp_pure', W.theClass, hk, hkind, hh, W.alloc, W.stop, Option.some.injEq, exists_eq_left', Array.size_replicate, hact]
  rw [if_neg (by omega)]
  exact ⟨h1, h2, hfit, hq⟩
theorem mn_ref {t : FieldType} {a : Nat} : fits (.array t) (.ref a) = true := rfl
/-- the model's array of arrays -/
theorem mn_two {cA cB cc : ClassId} {kA kB : Class} {ty : FieldType} {n m : Int32} (hkA : s.vm.classes[cA]? = some kA) (hA : kA.kind = .array cB (.array ty)) (hkB : s.vm.classes[cB]? = some kB) (hB : kB.kind = .array cc ty) (hn : ¬ n < 0) (hm : ¬ m < 0)
    (l1 : ¬ n.toNatClampNeg > e.platform.arrayLengthLimit) (g1 : ¬ n.toNatClampNeg * componentBytes (.array ty) > e.platform.maxHeapBytes) (l2 : ¬ m.toNatClampNeg > e.platform.arrayLengthLimit) (g2 : ¬ m.toNatClampNeg * componentBytes ty > e.platform.maxHeapBytes)
    (hf : fits ty (defaultValue ty) = true) (hd : (defaultValue ty).isDefault = true) (hc : s.heap.size + (1 + n.toNatClampNeg) ≤ e.platform.maxCells) (hs : s.slotsUsed + (n.toNatClampNeg + n.toNatClampNeg * m.toNatClampNeg) ≤ e.platform.maxSlots)
    {Q : Addr → Pre} (hq : ∀ d' acts', Q s.heap.size d' acts' (mnS s cA cB n.toNatClampNeg m.toNatClampNeg (defaultValue ty) n.toNatClampNeg)) : wp (multianewarray.make cA [n, m]) Q E e d acts s := by
  generalize hN : n.toNatClampNeg = N at *
  generalize hM : m.toNatClampNeg = M at *
  have hfind : ([m].find? (· < 0)) = none := by simp [hm]
  have hNM : 0 ≤ N * M := Nat.zero_le _
  rw [multianewarray.make]
  simp only [wp_bind', W.ite, hn, if_false, wp_pure', W.theClass, hkA, hA, Option.some.injEq, exists_eq_left', hN]
  refine mn_one hkA hA l1 g1 rfl rfl (by omega) (by omega) ?_
  simp only [hfind]
  rw [ite_self, wp_bind', Std.Legacy.Range.forIn_eq_forIn_range', show ([:N] : Std.Legacy.Range).size = N by simp [Std.Legacy.Range.size]]
  show wp (forIn (List.range' 0 N 1) PUnit.unit _) _ E e d acts _
  refine wp_forIn_inv (fun r s' => ∃ i, i ≤ N ∧ r = List.range' i (N - i) ∧ s' = mnS s cA cB N M (defaultValue ty) i) _ _ ⟨0, Nat.zero_le _, rfl, rfl⟩ ?_ ?_
  · rintro x r s' d' acts' Q' ⟨i, hi, hr, rfl⟩ hnext
    by_cases hlt : i < N
    · rw [show N - i = N - (i + 1) + 1 by omega, List.range'_succ] at hr
      obtain ⟨rfl, hr2⟩ := List.cons.inj hr
      obtain ⟨f1, f2, f3, f4⟩ := mnS_f s cA cB N M (defaultValue ty) x
      have hmul : (x + 1) * M ≤ N * M := Nat.mul_le_mul_right M hlt
      rw [Nat.succ_mul] at hmul
      have hlt0 : s.heap.size < (mnS s cA cB N M (defaultValue ty) x).heap.size := by rw [f1]; omega
      simp only [wp_bind']
      rw [multianewarray.make]
      simp only [wp_bind', W.ite, hm, if_false, wp_pure', W.theClass, f3, hkB, hB, Option.some.injEq, exists_eq_left', hM]
      refine mn_one (by rw [f3]; exact hkB) hB l2 g2 hf hd (by rw [f1]; omega) (by rw [f4]; omega) ?_
      simp only [wp_bind', W.writeLoc, wp_pure']
      refine ⟨mnO cA N s.heap.size x, by rw [State.heap_pushCell_of_lt (h := hlt0)]; exact f2, fun z => (by cases z), by unfold mnO; rw [arrV_size]; exact hlt, ?_, hnext _ _ _ ⟨x + 1, hlt, hr2, ?_⟩⟩
      · show State.fitsSlot _ cA .none x _ = true
        simp [State.fitsSlot, State.slotType?, f3, hkA, hA, mn_ref]
      · rw [f1, mnO_s]
        rfl
    · rw [show N - i = 0 by omega] at hr
      cases hr
  · rintro s' d' acts' ⟨i, hi, hr, rfl⟩
    have hiN : i = N := by
      rcases Nat.lt_or_ge i N with h | h
      · rw [show N - i = N - (i + 1) + 1 by omega, List.range'_succ] at hr; cases hr
      · omega
    subst hiN
    simp only [wp_pure']
    exact hq _ _
end Mna
