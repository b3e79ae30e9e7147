/-! ### what the abstract machine says holds of the machine: one instruction -/
theorem zI1_inv {st : List zV} {κ : Int → List zV → Prop} (h : zI1 st κ) : ∃ x st', st = .inl x :: st' ∧ κ x st' := by
  unfold zI1 at h; split at h
  · exact ⟨_, _, rfl, h⟩
  · exact False.elim h
theorem zI2_inv {st : List zV} {κ : Int → Int → List zV → Prop} (h : zI2 st κ) : ∃ x y st', st = .inl y :: .inl x :: st' ∧ κ x y st' := by
  unfold zI2 at h; split at h
  · exact ⟨_, _, _, rfl, h⟩
  · exact False.elim h
theorem zL1_inv {st : List zV} {κ : Int → List zV → Prop} (h : zL1 st κ) : ∃ x st', st = .inr (.inl x) :: st' ∧ κ x st' := by
  unfold zL1 at h; split at h
  · exact ⟨_, _, rfl, h⟩
  · exact False.elim h
theorem zL2_inv {st : List zV} {κ : Int → Int → List zV → Prop} (h : zL2 st κ) : ∃ x y st', st = .inr (.inl y) :: .inr (.inl x) :: st' ∧ κ x y st' := by
  unfold zL2 at h; split at h
  · exact ⟨_, _, _, rfl, h⟩
  · exact False.elim h
theorem zR1_inv {st : List zV} {κ : Nat → List zV → Prop} (h : zR1 st κ) : ∃ x st', st = .inr (.inr x) :: st' ∧ κ x st' := by
  unfold zR1 at h; split at h
  · exact ⟨_, _, rfl, h⟩
  · exact False.elim h
theorem zgi_inv {l : zL} {i : Nat} {κ : Int → Prop} (h : zgi l i κ) : ∃ x, zget l i = some (.inl x) ∧ κ x := by
  unfold zgi at h; split at h
  · exact ⟨_, by assumption, h⟩
  · exact False.elim h
theorem zgl_inv {l : zL} {i : Nat} {κ : Int → Prop} (h : zgl l i κ) : ∃ x, zget l i = some (.inr (.inl x)) ∧ κ x := by
  unfold zgl at h; split at h
  · exact ⟨_, by assumption, h⟩
  · exact False.elim h
theorem zgr_inv {l : zL} {i : Nat} {κ : Nat → Prop} (h : zgr l i κ) : ∃ x, zget l i = some (.inr (.inr x)) ∧ κ x := by
  unfold zgr at h; split at h
  · exact ⟨_, by assumption, h⟩
  · exact False.elim h
theorem zpop_inv : ∀ (n : Nat) (st : List zV) {κ : List zV → List zV → Prop}, zpop n st κ → ∃ as rest, st = as.reverse ++ rest ∧ as.length = n ∧ κ as rest
  | 0, st, _, h => ⟨[], st, rfl, rfl, h⟩
  | n + 1, v :: st, _, h => by
    obtain ⟨as, rest, e1, e2, h2⟩ := zpop_inv n st h
    exact ⟨as ++ [v], rest, by rw [e1]; simp, by simp [e2], h2⟩
  | _ + 1, [], _, h => False.elim h
theorem zjmp_inv {pc : Nat} {off : Int} {κ : Nat → Prop} (h : zjmp pc off κ) : ∃ t : Nat, (pc : Int) + off = (t : Int) ∧ κ t := ⟨_, by have := h.1; omega, h.2⟩
theorem zin_len {t a : Nat} {i : Int} (h : zin t a i) (ht : t < 4) : a < zN ∧ 0 ≤ i ∧ i < ((zk a).2.1 : Int) ∧ (zk a).2.1 < 2147483648 := by
  have ha : a < zN := zk_in (fun q => by have := h.1; rw [q] at this; omega)
  refine ⟨ha, h.2.1, h.2.2, ?_⟩
  have h2 := zk_okq ha
  have h1 := h.1
  unfold zk_ok at h2
  revert h1 h2
  generalize zk a = z
  intro h2 h1
  split at h2
  · simp at h2 ⊢; omega
  · rename_i c fs
    have : (4 : Nat) = t := h1
    omega
  · simp at h2 ⊢; omega
theorem zk_0 {a n : Nat} {fs : List Nat} (h : zk a = (0, n, fs)) : True := trivial
theorem zcell_0 {ad : Nat → Nat} {ca : Nat → ClassId} {M : zM} {a : Nat} (h : (zk a).1 = 0) : zcell ad ca M a = .inl (ca 0, (zk a).2.1, .inl (fun j => Int32.ofInt (M a j))) := by
  unfold zcell
  revert h
  generalize zk a = z
  obtain ⟨t, n, fs⟩ := z
  intro h
  have h : t = 0 := h
  subst h
  rfl
theorem zcell_1 {ad : Nat → Nat} {ca : Nat → ClassId} {M : zM} {a : Nat} (h : (zk a).1 = 1) : zcell ad ca M a = .inl (ca 1, (zk a).2.1, .inl (fun j => Int32.ofInt (M a j))) := by
  unfold zcell
  revert h
  generalize zk a = z
  obtain ⟨t, n, fs⟩ := z
  intro h
  have h : t = 1 := h
  subst h
  rfl
theorem zcell_2 {ad : Nat → Nat} {ca : Nat → ClassId} {M : zM} {a : Nat} (h : (zk a).1 = 2) : zcell ad ca M a = .inl (ca 2, (zk a).2.1, .inr (.inl (fun j => Int64.ofInt (M a j)))) := by
  unfold zcell
  revert h
  generalize zk a = z
  obtain ⟨t, n, fs⟩ := z
  intro h
  have h : t = 2 := h
  subst h
  rfl
theorem zcell_3 {ad : Nat → Nat} {ca : Nat → ClassId} {M : zM} {a : Nat} (h : (zk a).1 = 3) : zcell ad ca M a = .inl (ca ((zk a).2.2.getD 0 0), (zk a).2.1, .inr (.inr (.inr (.inr (fun i => some (ad ((zk a).2.2.getD 1 0 + (zk a).2.2.getD 2 0 * i))))))) := by
  unfold zcell
  revert h
  generalize zk a = z
  obtain ⟨t, n, fs⟩ := z
  intro h
  have h : t = 3 := h
  subst h
  rfl
theorem zcell_4 {ad : Nat → Nat} {ca : Nat → ClassId} {M : zM} {a ci : Nat} (h : zkc a = ci + 1) : zcell ad ca M a = .inr (ci, zfv ad (M a) (zk a).2.2 0) ∧ a < zN ∧ (zk a).1 = 4 := by
  have ha : a < zN := zk_in (fun q => by unfold zkc at h; rw [q] at h; cases h)
  unfold zkc at h
  unfold zcell
  split at h
  · rename_i c fs e
    rw [e]
    have : c = ci := by omega
    subst this
    exact ⟨rfl, ha, rfl⟩
  · cases h
theorem zfv_get {ad : Nat → Nat} {f : Nat → Int} : ∀ (fs : List Nat) (n k : Nat) (r : Nat), fs[k]? = some r → (zfv ad f fs n)[k]? = some (match r with | 0 => .int (Int32.ofInt (f (n + k))) | q + 1 => .ref (ad q))
  | [], _, _, _, h => by simp at h
  | r0 :: fs, n, 0, r, h => by
    have h : r0 = r := by simpa using h
    subst h
    rfl
  | r0 :: fs, n, k + 1, r, h => by
    have := zfv_get (ad := ad) (f := f) fs (n + 1) k r (by simpa using h)
    rw [show n + (k + 1) = n + 1 + k by omega]
    exact this
theorem zfv_cons {ad : Nat → Nat} {f : Nat → Int} (r : Nat) (rs : List Nat) (k : Nat) : zfv ad f (r :: rs) k = (match r with | 0 => .int (Int32.ofInt (f k)) | q + 1 => .ref (ad q)) :: zfv ad f rs (k + 1) := rfl
theorem zfv_congr {ad : Nat → Nat} {f g : Nat → Int} : ∀ (fs : List Nat) (n : Nat), (∀ j, n ≤ j → f j = g j) → zfv ad f fs n = zfv ad g fs n
  | [], _, _ => rfl
  | r0 :: fs, n, h => by
    unfold zfv
    rw [h n (Nat.le_refl n), zfv_congr fs (n + 1) (fun j hj => h j (by omega))]
theorem zfv_set {ad : Nat → Nat} {f : Nat → Int} {x : Int} : ∀ (fs : List Nat) (n k : Nat), fs[k]? = some 0 → (zfv ad f fs n).set k (.int (Int32.ofInt x)) = zfv ad (fun j => if j = n + k then x else f j) fs n
  | [], _, _, h => by simp at h
  | r0 :: fs, n, 0, h => by
    have h : r0 = 0 := by simpa using h
    subst h
    show Value.int (Int32.ofInt x) :: zfv ad f fs (n + 1) = _
    rw [zfv_cons]
    congr 1
    · show _ = Value.int (Int32.ofInt (if n = n + 0 then x else f n))
      rw [if_pos (Nat.add_zero n).symm]
    · exact zfv_congr (g := fun j => if j = n + 0 then x else f j) fs (n + 1) (fun j hj => (if_neg (show ¬ j = n + 0 by omega)).symm)
  | r0 :: fs, n, k + 1, h => by
    have e := zfv_set (ad := ad) (f := f) (x := x) fs (n + 1) k (by simpa using h)
    show _ :: (zfv ad f fs (n + 1)).set k _ = _
    rw [e, zfv_cons]
    congr 1
    · cases r0 with
      | zero => show Value.int _ = Value.int _; rw [if_neg (by omega)]
      | succ q => rfl
    · rw [show n + 1 + k = n + (k + 1) by omega]
theorem zfv_len {ad : Nat → Nat} {f : Nat → Int} : ∀ (fs : List Nat) (n : Nat), (zfv ad f fs n).length = fs.length
  | [], _ => rfl
  | _ :: fs, n => by unfold zfv; rw [List.length_cons, zfv_len fs, List.length_cons]
theorem zkf_get {a k : Nat} {r : Nat} (h : (zk a).1 = 4) (hf : zkf a k = some r) : (zk a).2.2[k]? = some r := by
  unfold zkf at hf
  split at hf
  · rename_i e; rw [e]; exact hf
  · cases hf
def zG (p : Program) (l : Launch) (e : Env) (R : Room) (s : State) (m : MethodId) (args : Array Value) (below : List Frame) (meth : Method) (c : Code) (ad : Nat → Nat) (ca : Nat → ClassId) (D : va_G) (nL : Nat) (QQ : State → Prop) (pc : Nat) (lo : zL) (st : List zV) (M : zM) : Prop :=
  ∀ (H : Heap) (locs : List Loc) (ls : Array Slot), va_P D vwCl (zws ad ca M) H → va_D (zA ad) (zws ad ca M) → va_S (zA ad) s.heap H locs → zlh ad ls nL lo → W p l e R s m args below meth c H locs 0 0 QQ (F0 m pc ls (st.map (zcv ad)))
/-- the links between nest mates: not words that a call carries over by itself -/
def zNw (U : State) : Prop := ∀ (own : String) (idx : Nat) (y : MethodName), Cond.methodLinkNest own idx y "SwarmPlanner" ∈ lw_tbl → va_Nw (.methodLinkNest own idx y "SwarmPlanner") U
theorem zNw.warm {s U : State} (hW : s.WarmedH U.vm) (h : zNw s) : zNw U := fun own idx y q => va_Nw.warmM hW (h own idx y q)
def zPc (ad : Nat → Nat) (ca : Nat → ClassId) (D : va_G) (as : List zV) (M : zM) : Array Value → State → Prop := va_Pc (as.map (zcv ad)) (fun U => va_P D vwCl (zws ad ca M) U.heap ∧ va_K D vwCl (ztys ca) U ∧ va_D (zA ad) (zws ad ca M) ∧ zNw U)
def zQc (ad : Nat → Nat) (ca : Nat → ClassId) (D : va_G) (Q : zQ) : Array Value → State → Outcome → State → Prop := fun _ st oc t => (∃ (r : Option zV) (M' : zM), oc = .returned (r.map (zcv ad)) ∧ Q r M' ∧ va_P D vwCl (zws ad ca M') t.heap ∧ va_D (zA ad) (zws ad ca M')) ∧ va_F (zA ad) st t
def zrm (d : Nat) : Room := { frames := d, cells := 0, slots := 0, locals := 40 * d }
def zwd (q : zMt) : List Cond := Cond.code q.2.1 q.2.2.1 q.2.2.2.1 q.2.2.2.2 :: zT
def zMet (l : Launch) (ad : Nat → Nat) (ca : Nat → ClassId) (D : va_G) (d : Nat) : Prop := ∀ (μ : Nat) (as : List zV) (M : zM) (Q : zQ) (q : zMt), Sp d μ as M Q → zmt[μ]? = some q → Met l q.2.1 (zwd q) (zrm d) (zPc ad ca D as M) (zQc ad ca D Q) 0 0 (zA ad)
theorem zmod32' {x y : Int} (hx : 0 ≤ x) (hx2 : zrg x) (hy : 0 < y) (hy2 : zrg y) : Int32.ofInt x - Int32.ofInt x / Int32.ofInt y * Int32.ofInt y = Int32.ofInt (x % y) := by
  rw [zdiv32 hx hx2 hy hy2, ← Int32.ofInt_mul, ← Int32.ofInt_sub]
  congr 1
  rw [Int.emod_def, Int.mul_comm]
theorem zne0 {y : Int} (hy : 0 < y) (hy2 : zrg y) : ¬ Int32.ofInt y = 0 := by
  intro h
  have h2 : Int32.ofInt y = Int32.ofInt 0 := h
  rw [zeq32 hy2 ⟨by omega, by omega⟩] at h2
  omega
theorem zFr {ad : Nat → Nat} {ca : Nat → ClassId} {D : va_G} {as : List zV} {M : zM} : FrameBlind (zPc ad ca D as M) := by
  intro a U g mk q
  obtain ⟨q0, qP, qK, qD, qN⟩ := q
  exact ⟨q0, qP, va_K.moved (u := U) (U := U.calling g mk a) (Vm.Alike.refl U.vm) qK, qD, fun own idx y h => va_Nw.same rfl rfl (qN own idx y h)⟩
theorem zmap_rev {ad : Nat → Nat} (as rest : List zV) : (as.reverse ++ rest).map (zcv ad) = (as.map (zcv ad)).reverse ++ rest.map (zcv ad) := by
  rw [List.map_append, List.map_reverse]
theorem zcs_sum {ad : Nat → Nat} {rest : List zV} (h : zcs rest) : ((rest.map (zcv ad)).map fun v => v.category).sum ≤ 8 := by
  rw [List.map_map]
  have e : ((fun v : Value => v.category) ∘ zcv ad) = zcat := by funext v; exact zcat_cv ad v
  rw [e]
  exact h
section ZCALL
variable {p : Program} {l : Launch} {e : Env} {R : Room} {s : State} {m : MethodId} {args : Array Value} {below : List Frame} {meth : Method} {c : Code} {H : Heap} {locs : List Loc} {QQ : State → Prop}
variable {pc : Nat} {ls : Array Slot} {st0 rest : List Value} {a : Array Value} {ad : Nat → Nat} {ca : Nat → ClassId} {D : va_G} {free : Addr → Prop}
/-- a call with a contract of this machine's kind -/
theorem zcall {Q : zQ} (hr : va_Run p l e R s m args below meth c H locs 0 0 0 0 (F0 m pc ls st0) rest (zQc ad ca D Q a) (zA ad)) (hS : va_S (zA ad) s.heap H locs)
    (kk : ∀ (r : Option zV) (M' : zM) (H1 : Heap) (locs1 : List Loc), Q r M' → va_P D vwCl (zws ad ca M') H1 → va_D (zA ad) (zws ad ca M') → va_S (zA ad) s.heap H1 locs1 → W p l e R s m args below meth c H1 locs1 0 0 QQ (F0 m (pc + 3) ls ((r.map (zcv ad)).toList ++ rest))) : W p l e R s m args below meth c H locs 0 0 QQ (F0 m pc ls st0) := by
  intro T hT X
  obtain ⟨v, st₀, t, T', L, h0, X', hL, e1, e2, ⟨⟨r, M', hv, hq, hP, hD⟩, hz, hk⟩, st⟩ := hr T hT X
  cases hv
  rw [h0] at hz hk
  obtain ⟨t2, a1, b1⟩ := kk r M' T'.heap (locs ++ L) hq (by rw [e1]; exact hP) hD
    ⟨Nat.le_trans hS.1 (by rw [e1]; exact hz), fun q h1 h2 => by rw [e1, hk q (Nat.lt_of_lt_of_le h1 hS.1) h2]; exact hS.2.1 q h1 h2, fun q hq => by
      rcases List.mem_append.mp hq with h | h
      · exact hS.2.2 q h
      · exact hL q h⟩ T' rfl X'
  exact ⟨t2, st t2 a1, b1⟩
end ZCALL
/-! ### what the tables give -/
theorem zm_fact {μ : Nat} {q : zMt} (h : zmt[μ]? = some q) : ∃ p : Nat × Nat × Nat × Nat × Nat, zmp[μ]? = some p ∧ zmOk q p = true := by
  have h1 : μ < zmt.length := (List.getElem?_eq_some_iff.mp h).1
  have h2 : μ < zmp.length := by rw [← zm_len]; exact h1
  refine ⟨zmp[μ], List.getElem?_eq_getElem h2, ?_⟩
  have h3 := List.all_eq_true.mp zm_all (q, zmp[μ]) (List.mem_of_getElem? (i := μ) (by rw [List.getElem?_zip_eq_some]; exact ⟨h, List.getElem?_eq_getElem h2⟩))
  exact h3
theorem zT_sub {w : Cond} (h : w ∈ zT) : w ∈ lw_tbl := (List.mem_filter.mp h).1
theorem zT_good : ∀ w ∈ zT, goodWord w = true := fun _ h => (List.mem_filter.mp h).2
theorem zm_code {μ : Nat} {q : zMt} (h : zmt[μ]? = some q) : Cond.code q.2.1 q.2.2.1 q.2.2.2.1 q.2.2.2.2 ∈ zT := zT_in (zwc q (List.mem_of_getElem? h)) rfl
theorem zwd_good {μ : Nat} {q : zMt} (h : zmt[μ]? = some q) : GoodIn zT (zwd q) := by
  intro w hw
  rcases List.mem_cons.mp hw with rfl | hw
  · exact ⟨zm_code h, good_of_word rfl⟩
  · exact ⟨hw, good_of_word (zT_good w hw)⟩
theorem zm_use {μ : Nat} {q : zMt} (h : zmt[μ]? = some q) : ∃ p : Nat × Nat × Nat × Nat × Nat, zmp[μ]? = some p ∧ Cond.initialized q.2.1.cls ∈ zT ∧ (if p.2.2.2.1 = 1 then Cond.static q.2.1 ∈ zT else Cond.instanceMethod q.2.1 ∈ zT) ∧ zcn q.1 = q.2.1.cls ∧ plainName q.2.1.cls = true ∧ (q.2.1.cls ≠ "java/lang/invoke/MethodHandle" ∧ q.2.1.cls ≠ "java/lang/invoke/VarHandle") ∧ (parseMethodDescriptor q.2.1.desc).map (fun d => d.parameters.length) = some p.2.2.2.2 ∧ q.2.2.2.1 ≤ 12 := by
  obtain ⟨p, h1, h2⟩ := zm_fact h
  unfold zmOk at h2
  simp only [Bool.and_eq_true, decide_eq_true_eq] at h2
  obtain ⟨⟨⟨⟨⟨⟨a1, a2⟩, a3⟩, a4⟩, a5⟩, a6⟩, a7⟩ := h2
  refine ⟨p, h1, zT_in (List.mem_of_getElem? a1) rfl, ?_, a3, a4, a5, a6, a7⟩
  by_cases hp : p.2.2.2.1 = 1
  · rw [if_pos hp] at a2 ⊢
    exact zT_in (List.mem_of_getElem? (of_decide_eq_true a2)) rfl
  · rw [if_neg hp] at a2 ⊢
    exact zT_in (List.mem_of_getElem? (of_decide_eq_true a2)) rfl
theorem zf_use {own idx ci k : Nat} (h : zfl own idx = some (ci, k)) : ∃ q, vwCl[ci]? = some q ∧ k < q.2.2 ∧ Cond.fieldLink (zcn own) idx (q.2.1 k).1 (q.2.1 k).2.1 (q.2.1 k).2.2.1 ∈ zT := by
  unfold zfl at h
  split at h
  · cases h
  · obtain ⟨x, hx, he⟩ := Option.map_eq_some_iff.mp h
    cases he
    have hk := List.find?_some hx
    have hm := List.mem_of_find?_eq_some hx
    have h2 := List.all_eq_true.mp zf_all x hm
    unfold zfOk at h2
    split at h2
    · rename_i q hq
      simp only [Bool.and_eq_true, decide_eq_true_eq, beq_iff_eq] at h2 hk
      obtain ⟨⟨⟨a1, a2⟩, a3⟩, a4⟩ := h2
      have e1 : x.2.2.2.2.1 = own := by omega
      have e2 : x.2.2.2.2.2 = idx := by omega
      rw [e1, e2] at a1
      exact ⟨q, hq, a2, zT_in (List.mem_of_getElem? a1) rfl⟩
    · cases h2
theorem zc_use {own idx : Nat} {v : Int} (h : zlc own idx = some v) : Cond.constantLong (zcn own) idx (Int64.ofInt v) ∈ zT := by
  unfold zlc at h
  split at h
  · cases h
  · obtain ⟨x, hx, he⟩ := Option.map_eq_some_iff.mp h
    cases he
    have hk := List.find?_some hx
    have hm := List.mem_of_find?_eq_some hx
    have h2 := List.all_eq_true.mp zc_all x hm
    unfold zcOk at h2
    simp only [Bool.and_eq_true, decide_eq_true_eq, beq_iff_eq] at h2 hk
    obtain ⟨⟨a1, a2⟩, a3⟩ := h2
    have e1 : x.2.2.2.1 = own := by omega
    have e2 : x.2.2.2.2 = idx := by omega
    rw [e1, e2] at a1
    exact zT_in (List.mem_of_getElem? a1) rfl
theorem zl_use {own idx kd μ n ci : Nat} (h : zml own idx = some (kd, μ, n, ci)) : (kd = 3 ∧ Cond.methodLink (zcn own) idx arraycopyName ∈ zT) ∨ (kd = 4 ∧ Cond.methodLink (zcn own) idx ⟨"java/lang/Math", "min", "(II)I"⟩ ∈ zT) ∨
    (∃ q p, zmt[μ]? = some q ∧ zmp[μ]? = some p ∧ p.2.2.2.2 = n ∧ ((kd = 0 ∧ p.2.2.2.1 = 0 ∧ Cond.methodLink (zcn own) idx q.2.1 ∈ zT ∧ Cond.selects q.2.1.cls q.2.1 q.2.1 ∈ zT ∧ ∃ r, vwCl[ci]? = some r ∧ r.1 = q.2.1.cls) ∨
      (kd = 1 ∧ p.2.2.2.1 = 1 ∧ Cond.methodLink (zcn own) idx q.2.1 ∈ zT) ∨ (kd = 2 ∧ p.2.2.2.1 = 1 ∧ Cond.methodLinkNest (zcn own) idx q.2.1 "SwarmPlanner" ∈ lw_tbl))) := by
  unfold zml at h
  split at h
  · cases h
  · obtain ⟨x, hx, he⟩ := Option.map_eq_some_iff.mp h
    cases he
    have hk := List.find?_some hx
    have hm := List.mem_of_find?_eq_some hx
    have h2 := List.all_eq_true.mp zl_all x hm
    unfold zlOk at h2
    simp only [Bool.and_eq_true, decide_eq_true_eq, beq_iff_eq] at h2 hk
    obtain ⟨⟨a1, a2⟩, a3⟩ := h2
    have e1 : x.2.2.2.2.2.2.2.1 = own := by omega
    have e2 : x.2.2.2.2.2.2.2.2 = idx := by omega
    rw [e1, e2] at a3
    split at a3
    · exact Or.inl ⟨by assumption, zT_in (List.mem_of_getElem? (of_decide_eq_true a3)) rfl⟩
    · split at a3
      · exact Or.inr (Or.inl ⟨by assumption, zT_in (List.mem_of_getElem? (of_decide_eq_true a3)) rfl⟩)
      · split at a3
        · rename_i q p hq hp
          rw [Bool.and_eq_true, decide_eq_true_eq] at a3
          obtain ⟨b1, b2⟩ := a3
          refine Or.inr (Or.inr ⟨q, p, hq, hp, b1, ?_⟩)
          split at b2
          · simp only [Bool.and_eq_true, decide_eq_true_eq] at b2
            obtain ⟨⟨⟨c1, c2⟩, c3⟩, c4⟩ := b2
            refine Or.inl ⟨by assumption, c1, zT_in (List.mem_of_getElem? c2) rfl, zT_in (List.mem_of_getElem? c3) rfl, ?_⟩
            split at c4
            · exact ⟨_, by assumption, of_decide_eq_true c4⟩
            · cases c4
          · split at b2
            · simp only [Bool.and_eq_true, decide_eq_true_eq] at b2
              exact Or.inr (Or.inl ⟨by assumption, b2.1, zT_in (List.mem_of_getElem? b2.2) rfl⟩)
            · split at b2
              · simp only [Bool.and_eq_true, decide_eq_true_eq] at b2
                exact Or.inr (Or.inr ⟨by assumption, b2.1, List.mem_of_getElem? b2.2⟩)
              · cases b2
        · cases a3
theorem zu_all : ∀ (ci : Nat) (q : vw_C), vwCl[ci]? = some q → ∀ w ∈ u_ws q.1 q.2.1 q.2.2, w ∈ zT := by
  have one : ∀ {C : String} {T : u_T} {N : Nat}, (u_ws C T N).all (fun w => decide (w ∈ lw_tbl) && goodWord w) = true → ∀ w ∈ u_ws C T N, w ∈ zT := fun h w hw => by
    have h2 := List.all_eq_true.mp h w hw
    rw [Bool.and_eq_true, decide_eq_true_eq] at h2
    exact zT_in h2.1 h2.2
  intro ci q hq
  have hm := List.mem_of_getElem? hq
  simp only [vwCl, List.mem_cons, List.not_mem_nil, or_false] at hm
  rcases hm with rfl | rfl | rfl | rfl | rfl | rfl | rfl | rfl | rfl | rfl | rfl | rfl
  · exact one zu_0
  · exact one zu_1
  · exact one zu_2
  · exact one zu_3
  · exact one zu_4
  · exact one zu_5
  · exact one zu_6
  · exact one zu_7
  · exact one zu_8
  · exact one zu_9
  · exact one zu_10
  · exact one zu_11
/-- a class's field types, and that its fields' names are apart -/
def ztyp (ci k : Nat) : FieldType := (match ci with
  | 0 => tyX0 | 1 => tyX1 | 2 => tyX2 | 3 => tyX3 | 4 => tyX4 | 5 => tyX5 | 6 => tyX6 | 7 => tyX7 | 8 => tyX8 | 9 => tyX9 | 10 => tyX10 | _ => tyX11) k
theorem ztyp_ok : ∀ (ci : Nat) (q : vw_C), vwCl[ci]? = some q → (∀ k, k < q.2.2 → parseFieldDescriptor (q.2.1 k).2.2.1 = some (ztyp ci k)) ∧ (∀ a, a < q.2.2 → ∀ b, b < q.2.2 → a ≠ b → (q.2.1 a).2.1 ≠ (q.2.1 b).2.1)
  | 0, _, h => by cases h; exact ⟨tyX0_ok, nmX0⟩
  | 1, _, h => by cases h; exact ⟨tyX1_ok, nmX1⟩
  | 2, _, h => by cases h; exact ⟨tyX2_ok, nmX2⟩
  | 3, _, h => by cases h; exact ⟨tyX3_ok, nmX3⟩
  | 4, _, h => by cases h; exact ⟨tyX4_ok, nmX4⟩
  | 5, _, h => by cases h; exact ⟨tyX5_ok, nmX5⟩
  | 6, _, h => by cases h; exact ⟨tyX6_ok, nmX6⟩
  | 7, _, h => by cases h; exact ⟨tyX7_ok, nmX7⟩
  | 8, _, h => by cases h; exact ⟨tyX8_ok, nmX8⟩
  | 9, _, h => by cases h; exact ⟨tyX9_ok, nmX9⟩
  | 10, _, h => by cases h; exact ⟨tyX10_ok, nmX10⟩
  | 11, _, h => by cases h; exact ⟨tyX11_ok, nmX11⟩
  | n + 12, _, h => by simp [vwCl] at h
theorem zvw_lt {ci : Nat} {q : vw_C} (h : vwCl[ci]? = some q) : ci < 12 := (List.getElem?_eq_some_iff.mp h).1
theorem zbr_use2 {p : Program} {l : Launch} {e : Env} {R : Room} {s : State} {m : MethodId} {args : Array Value} {below : List Frame} {meth : Method} {c : Code} {H : Heap} {locs : List Loc} {QQ : State → Prop} {cc : ByteArray} {pc : Nat} {ls : Array Slot} {rest : List Value} {o : Jvm.ClassFile.Cond} {off : Int} {x y : Int} {κ : Nat → Prop}
    (hexec : p.tables.exec = Jvm.exec) (hb : c.code = cc) (hd : decode cc pc = .ok (.if_icmp o off, 3)) (hx : zrg x) (hy : zrg y) (h : zbr pc off (zcmp o x y) κ)
    (kk : ∀ t, κ t → W p l e R s m args below meth c H locs 0 0 QQ (F0 m t ls rest)) : W p l e R s m args below meth c H locs 0 0 QQ (F0 m pc ls (.int (Int32.ofInt y) :: .int (Int32.ofInt x) :: rest)) := by
  obtain ⟨hp, h1, h2⟩ := h
  have ht : (pc : Int) + off = (((pc : Int) + off).toNat : Int) := by omega
  by_cases hc : zcmp o x y
  · have g3 := kk _ (h1 hc)
    cases o with
    | eq => exact lv_icmp_eq hexec hb hd ht (fun _ => g3) (fun q => absurd ((zeq32 hx hy).mpr hc) q)
    | ne => exact lv_icmp_ne hexec hb hd ht (fun _ => g3) (fun q => absurd ((zeq32 hx hy).mp q) hc)
    | lt => exact lv_icmp_lt hexec hb hd ht (fun _ => g3) (fun q => absurd ((zlt32 hx hy).mpr hc) q)
    | ge => exact lv_icmp_ge hexec hb hd ht (fun _ => g3) (fun q => absurd ((zle32 hy hx).mpr hc) q)
    | gt => exact lv_icmp_gt hexec hb hd ht (fun _ => g3) (fun q => absurd ((zlt32 hy hx).mpr hc) q)
    | le => exact lv_icmp_le hexec hb hd ht (fun _ => g3) (fun q => absurd ((zle32 hx hy).mpr hc) q)
  · have g3 := kk _ (h2 hc)
    cases o with
    | eq => exact lv_icmp_eq hexec hb hd ht (fun q => absurd ((zeq32 hx hy).mp q) hc) (fun _ => g3)
    | ne => exact lv_icmp_ne hexec hb hd ht (fun q => absurd (fun w => q ((zeq32 hx hy).mpr w)) hc) (fun _ => g3)
    | lt => exact lv_icmp_lt hexec hb hd ht (fun q => absurd ((zlt32 hx hy).mp q) hc) (fun _ => g3)
    | ge => exact lv_icmp_ge hexec hb hd ht (fun q => absurd ((zle32 hy hx).mp q) hc) (fun _ => g3)
    | gt => exact lv_icmp_gt hexec hb hd ht (fun q => absurd ((zlt32 hy hx).mp q) hc) (fun _ => g3)
    | le => exact lv_icmp_le hexec hb hd ht (fun q => absurd ((zle32 hx hy).mp q) hc) (fun _ => g3)
theorem zbr_use1 {p : Program} {l : Launch} {e : Env} {R : Room} {s : State} {m : MethodId} {args : Array Value} {below : List Frame} {meth : Method} {c : Code} {H : Heap} {locs : List Loc} {QQ : State → Prop} {cc : ByteArray} {pc : Nat} {ls : Array Slot} {rest : List Value} {o : Jvm.ClassFile.Cond} {off : Int} {x : Int} {κ : Nat → Prop}
    (hexec : p.tables.exec = Jvm.exec) (hb : c.code = cc) (hd : decode cc pc = .ok (.ifCond o off, 3)) (hx : zrg x) (h : zbr pc off (zcmp o x 0) κ)
    (kk : ∀ t, κ t → W p l e R s m args below meth c H locs 0 0 QQ (F0 m t ls rest)) : W p l e R s m args below meth c H locs 0 0 QQ (F0 m pc ls (.int (Int32.ofInt x) :: rest)) := by
  obtain ⟨hp, h1, h2⟩ := h
  have ht : (pc : Int) + off = (((pc : Int) + off).toNat : Int) := by omega
  have hy : zrg 0 := ⟨by omega, by omega⟩
  by_cases hc : zcmp o x 0
  · have g3 := kk _ (h1 hc)
    cases o with
    | eq => exact lv_if_eq hexec hb hd ht (fun _ => g3) (fun q => absurd ((zeq32 hx hy).mpr hc) q)
    | ne => exact lv_if_ne hexec hb hd ht (fun _ => g3) (fun q => absurd ((zeq32 hx hy).mp q) hc)
    | lt => exact lv_if_lt hexec hb hd ht (fun _ => g3) (fun q => absurd ((zlt32 hx hy).mpr hc) q)
    | ge => exact lv_if_ge hexec hb hd ht (fun _ => g3) (fun q => absurd ((zle32 hy hx).mpr hc) q)
    | gt => exact lv_if_gt hexec hb hd ht (fun _ => g3) (fun q => absurd ((zlt32 hy hx).mpr hc) q)
    | le => exact lv_if_le hexec hb hd ht (fun _ => g3) (fun q => absurd ((zle32 hx hy).mpr hc) q)
  · have g3 := kk _ (h2 hc)
    cases o with
    | eq => exact lv_if_eq hexec hb hd ht (fun q => absurd ((zeq32 hx hy).mp q) hc) (fun _ => g3)
    | ne => exact lv_if_ne hexec hb hd ht (fun q => absurd (fun w => q ((zeq32 hx hy).mpr w)) hc) (fun _ => g3)
    | lt => exact lv_if_lt hexec hb hd ht (fun q => absurd ((zlt32 hx hy).mp q) hc) (fun _ => g3)
    | ge => exact lv_if_ge hexec hb hd ht (fun q => absurd ((zle32 hy hx).mp q) hc) (fun _ => g3)
    | gt => exact lv_if_gt hexec hb hd ht (fun q => absurd ((zlt32 hy hx).mp q) hc) (fun _ => g3)
    | le => exact lv_if_le hexec hb hd ht (fun q => absurd ((zle32 hx hy).mp q) hc) (fun _ => g3)
set_option maxRecDepth 100000 in
theorem zmin_code : Cond.code Lib.Math.min.name Lib.Math.min.code 2 (some .int) ∈ lw_tbl := List.mem_of_getElem? (i := 488) rfl
theorem zmin_stat : Cond.static Lib.Math.min.name ∈ lw_tbl := List.mem_of_getElem? (i := 487) (by decide +kernel)
theorem zmin_ini : Cond.initialized "java/lang/Math" ∈ lw_tbl := List.mem_of_getElem? (i := 103) (by decide +kernel)
theorem znn {x : Int} (h0 : 0 ≤ x) (h1 : x < 2147483648) : ¬ Int32.ofInt x < 0 := by
  intro h
  have h2 : Int32.ofInt x < Int32.ofInt 0 := h
  rw [zlt32 ⟨by omega, h1⟩ ⟨by omega, by omega⟩] at h2
  omega
theorem znat_w : nativeFrameWords "java/lang/System" "arraycopy" 5 = 7 := by decide +kernel
theorem pd_I : parseFieldDescriptor "I" = some .int := by decide +kernel
theorem pd_Z : parseFieldDescriptor "Z" = some .boolean := by decide +kernel
theorem zgoodT {w : Cond} (h : w ∈ zT) : w ∈ zT ∧ ((w.onTables && w.keeps) = true ∨ ∃ ty, w = .arrayClass ty) := ⟨h, good_of_word (zT_good w h)⟩
set_option maxHeartbeats 4000000 in
theorem zstep {p : Program} {l : Launch} {e : Env} {s : State} {m : MethodId} {args : Array Value} {below : List Frame} {meth : Method} {c : Code} {ad : Nat → Nat} {ca : Nat → ClassId} {D : va_G} {nL d own : Nat} {cc : ByteArray} {ret : Option FieldType}
    (hx : p.tables.exec = Jvm.exec) (hb : c.code = cc) (hml : c.maxLocals = nL) (hown : s.vm.findClass (zcn own) = some m.cls) (hts : ∀ w ∈ zT, w.before args s = true) (hK : va_K D vwCl (ztys ca) s) (hN : zNw s) (hlocks : meth.locks = false) (hr : meth.sig.returnType = ret) (hcall : zMet l ad ca D d)
    {Q : zQ} {pc : Nat} {lo : zL} {st : List zV} {M : zM} {i : Instr} {len : Nat} (hd : decode cc pc = .ok (i, len))
    (h : zst (Sp d) own ret Q (zG p l e (zrm (d + 1)) s m args below meth c ad ca D nL (MQ below (zQc ad ca D Q) args s 0 0 (zA ad))) pc lo st M i len) :
    zG p l e (zrm (d + 1)) s m args below meth c ad ca D nL (MQ below (zQc ad ca D Q) args s 0 0 (zA ad)) pc lo st M := by
  intro H locs ls hP hD hS hl
  cases i with
  | iconst n =>
    obtain ⟨rfl, h⟩ := h
    exact lv_iconst hx hb hd rfl (h H locs ls hP hD hS hl)
  | bipush n =>
    obtain ⟨rfl, h1, h⟩ := h
    exact lv_bipush hx hb hd (zi8 h1.1 h1.2) (h H locs ls hP hD hS hl)
  | sipush n =>
    obtain ⟨rfl, h1, h⟩ := h
    exact lv_sipush hx hb hd (zi16 h1.1 h1.2) (h H locs ls hP hD hS hl)
  | lconst n =>
    obtain ⟨rfl, h⟩ := h
    exact lv_lconst hx hb hd rfl (h H locs ls hP hD hS hl)
  | ldc2_w idx =>
    obtain ⟨rfl, h⟩ := h
    split at h
    · exact lv_ldc2 hx hb hown (hts _ (zc_use (by assumption))) hd (h H locs ls hP hD hS hl)
    · exact False.elim h
  | iload_n j =>
    obtain ⟨rfl, h⟩ := h
    obtain ⟨x, h1, h⟩ := zgi_inv h
    exact lv_iload_n hx hb hd rfl (hl.2.2.2 _ _ h1) (h H locs ls hP hD hS hl)
  | iload j =>
    obtain ⟨rfl, h⟩ := h
    obtain ⟨x, h1, h⟩ := zgi_inv h
    exact lv_iload hx hb hd (hl.2.2.2 _ _ h1) (h H locs ls hP hD hS hl)
  | lload_n j =>
    obtain ⟨rfl, h⟩ := h
    obtain ⟨x, h1, h⟩ := zgl_inv h
    exact lv_lload_n hx hb hd rfl (hl.2.2.2 _ _ h1) (h H locs ls hP hD hS hl)
  | lload j =>
    obtain ⟨rfl, h⟩ := h
    obtain ⟨x, h1, h⟩ := zgl_inv h
    exact lv_lload hx hb hd (hl.2.2.2 _ _ h1) (h H locs ls hP hD hS hl)
  | aload_n j =>
    obtain ⟨rfl, h⟩ := h
    obtain ⟨x, h1, h⟩ := zgr_inv h
    exact lv_aload_n hx hb hd rfl (hl.2.2.2 _ _ h1) (h H locs ls hP hD hS hl)
  | aload j =>
    obtain ⟨rfl, h⟩ := h
    obtain ⟨x, h1, h⟩ := zgr_inv h
    exact lv_aload hx hb hd (hl.2.2.2 _ _ h1) (h H locs ls hP hD hS hl)
  | istore_n j =>
    obtain ⟨rfl, h⟩ := h
    obtain ⟨x, st', rfl, h⟩ := zI1_inv h
    obtain ⟨lo', h, h2, h3, h4⟩ := zs1_inv _ _ h
    exact lv_istore_n hx hb hd rfl (zlh_has hl) (by rw [← hl.2.2.1]; exact h2) rfl (fun ls' hl' => h H locs ls' hP hD hS (zlh_s1 hl h3 h4 hl'))
  | istore j =>
    obtain ⟨rfl, h⟩ := h
    obtain ⟨x, st', rfl, h⟩ := zI1_inv h
    obtain ⟨lo', h, h2, h3, h4⟩ := zs1_inv _ _ h
    exact lv_istore hx hb hd (zlh_has hl) (by rw [← hl.2.2.1]; exact h2) rfl (fun ls' hl' => h H locs ls' hP hD hS (zlh_s1 hl h3 h4 hl'))
  | lstore_n j =>
    obtain ⟨rfl, h⟩ := h
    obtain ⟨x, st', rfl, h⟩ := zL1_inv h
    obtain ⟨lo', h, h2, h3, h4⟩ := zs2_inv _ _ h
    exact lv_lstore_n hx hb hd rfl (zlh_has hl) (by rw [← hl.2.2.1]; exact h2) rfl (fun ls' hl' => h H locs ls' hP hD hS (zlh_s2 hl h3 h4 hl'))
  | lstore j =>
    obtain ⟨rfl, h⟩ := h
    obtain ⟨x, st', rfl, h⟩ := zL1_inv h
    obtain ⟨lo', h, h2, h3, h4⟩ := zs2_inv _ _ h
    exact lv_lstore hx hb hd (zlh_has hl) (by rw [← hl.2.2.1]; exact h2) rfl (fun ls' hl' => h H locs ls' hP hD hS (zlh_s2 hl h3 h4 hl'))
  | astore_n j =>
    obtain ⟨rfl, h⟩ := h
    obtain ⟨x, st', rfl, h⟩ := zR1_inv h
    obtain ⟨lo', h, h2, h3, h4⟩ := zs1_inv _ _ h
    exact lv_astore_n hx hb hd rfl (zlh_has hl) (by rw [← hl.2.2.1]; exact h2) rfl (fun ls' hl' => h H locs ls' hP hD hS (zlh_s1 hl h3 h4 hl'))
  | astore j =>
    obtain ⟨rfl, h⟩ := h
    obtain ⟨x, st', rfl, h⟩ := zR1_inv h
    obtain ⟨lo', h, h2, h3, h4⟩ := zs1_inv _ _ h
    exact lv_astore hx hb hd (zlh_has hl) (by rw [← hl.2.2.1]; exact h2) rfl (fun ls' hl' => h H locs ls' hP hD hS (zlh_s1 hl h3 h4 hl'))
  | iinc j n =>
    obtain ⟨rfl, h⟩ := h
    obtain ⟨x, h1, h⟩ := zgi_inv h
    obtain ⟨lo', h, h2, h3, h4⟩ := zs1_inv _ _ h
    obtain ⟨k, hk⟩ := List.getElem?_of_mem (zal_mem (ad := ad) h1)
    exact lv_iinc (v := Int32.ofInt (x + n)) hx hb hd (zlh_has hl) hk (Int32.ofInt_add x n).symm (by rw [← hl.2.2.1]; exact h2) rfl (fun ls' hl' => h H locs ls' hP hD hS (zlh_s1 hl h3 h4 hl'))
  | iadd =>
    obtain ⟨rfl, h⟩ := h
    obtain ⟨x, y, st', rfl, h⟩ := zI2_inv h
    refine lv_iadd hx hb hd ?_
    rw [← Int32.ofInt_add]
    exact h H locs ls hP hD hS hl
  | isub =>
    obtain ⟨rfl, h⟩ := h
    obtain ⟨x, y, st', rfl, h⟩ := zI2_inv h
    refine lv_isub hx hb hd ?_
    rw [← Int32.ofInt_sub]
    exact h H locs ls hP hD hS hl
  | imul =>
    obtain ⟨rfl, h⟩ := h
    obtain ⟨x, y, st', rfl, h⟩ := zI2_inv h
    refine lv_imul hx hb hd ?_
    rw [← Int32.ofInt_mul]
    exact h H locs ls hP hD hS hl
  | idiv =>
    obtain ⟨rfl, h⟩ := h
    obtain ⟨x, y, st', rfl, ⟨h1, h2, h3, h4⟩, h⟩ := zI2_inv h
    refine lv_idiv hx hb hd (zne0 h3 h4) ?_
    rw [zdiv32 h1 h2 h3 h4]
    exact h H locs ls hP hD hS hl
  | irem =>
    obtain ⟨rfl, h⟩ := h
    obtain ⟨x, y, st', rfl, ⟨h1, h2, h3, h4⟩, h⟩ := zI2_inv h
    refine lv_irem hx hb hd (zne0 h3 h4) ?_
    rw [zmod32' h1 h2 h3 h4]
    exact h H locs ls hP hD hS hl
  | ineg =>
    obtain ⟨rfl, h⟩ := h
    obtain ⟨x, st', rfl, h⟩ := zI1_inv h
    refine lv_ineg hx hb hd ?_
    rw [← Int32.ofInt_neg]
    exact h H locs ls hP hD hS hl
  | iand =>
    obtain ⟨rfl, h⟩ := h
    obtain ⟨x, y, st', rfl, h⟩ := zI2_inv h
    refine lv_iand hx hb hd ?_
    rw [← z32 (Int32.ofInt x &&& Int32.ofInt y)]
    exact h H locs ls hP hD hS hl
  | ior =>
    obtain ⟨rfl, h⟩ := h
    obtain ⟨x, y, st', rfl, h⟩ := zI2_inv h
    refine lv_ior hx hb hd ?_
    rw [← z32 (Int32.ofInt x ||| Int32.ofInt y)]
    exact h H locs ls hP hD hS hl
  | ixor =>
    obtain ⟨rfl, h⟩ := h
    obtain ⟨x, y, st', rfl, h⟩ := zI2_inv h
    refine lv_ixor hx hb hd ?_
    rw [← z32 (Int32.ofInt x ^^^ Int32.ofInt y)]
    exact h H locs ls hP hD hS hl
  | ishl =>
    obtain ⟨rfl, h⟩ := h
    obtain ⟨x, y, st', rfl, h⟩ := zI2_inv h
    refine lv_ishl hx hb hd ?_
    rw [← z32 (Int32.ofInt x <<< (Int32.ofInt y &&& 31))]
    exact h H locs ls hP hD hS hl
  | ishr =>
    obtain ⟨rfl, h⟩ := h
    obtain ⟨x, y, st', rfl, h⟩ := zI2_inv h
    refine lv_ishr hx hb hd ?_
    rw [← z32 (Int32.ofInt x >>> (Int32.ofInt y &&& 31))]
    exact h H locs ls hP hD hS hl
  | ladd =>
    obtain ⟨rfl, h⟩ := h
    obtain ⟨x, y, st', rfl, h⟩ := zL2_inv h
    refine lv_ladd hx hb hd ?_
    rw [← Int64.ofInt_add]
    exact h H locs ls hP hD hS hl
  | lsub =>
    obtain ⟨rfl, h⟩ := h
    obtain ⟨x, y, st', rfl, h⟩ := zL2_inv h
    refine lv_lsub hx hb hd ?_
    rw [← Int64.ofInt_sub]
    exact h H locs ls hP hD hS hl
  | lmul =>
    obtain ⟨rfl, h⟩ := h
    obtain ⟨x, y, st', rfl, h⟩ := zL2_inv h
    refine lv_lmul hx hb hd ?_
    rw [← Int64.ofInt_mul]
    exact h H locs ls hP hD hS hl
  | lcmp =>
    obtain ⟨rfl, h⟩ := h
    obtain ⟨x, y, st', rfl, h1, h2, h⟩ := zL2_inv h
    refine W.lcmp hx hb hd ?_
    rw [zlcmp h1 h2]
    exact h H locs ls hP hD hS hl
  | i2l =>
    obtain ⟨rfl, h⟩ := h
    obtain ⟨x, st', rfl, h1, h⟩ := zI1_inv h
    exact lv_i2l hx hb hd (zi2l h1) (h H locs ls hP hD hS hl)
  | dup =>
    obtain ⟨rfl, h⟩ := h
    split at h
    · exact lv_dup hx hb hd ((zcat_cv ad _).trans h.1) (h.2 H locs ls hP hD hS hl)
    · exact False.elim h
  | dup2 =>
    obtain ⟨rfl, h⟩ := h
    split at h
    · exact lv_dup2_11 hx hb hd ((zcat_cv ad _).trans h.1) ((zcat_cv ad _).trans h.2.1) (h.2.2 H locs ls hP hD hS hl)
    · exact False.elim h
  | pop =>
    obtain ⟨rfl, h⟩ := h
    split at h
    · exact lv_pop hx hb hd ((zcat_cv ad _).trans h.1) (h.2 H locs ls hP hD hS hl)
    · exact False.elim h
  | goto off =>
    obtain ⟨rfl, h⟩ := h
    obtain ⟨t, h1, h⟩ := zjmp_inv h
    exact lv_goto hx hb hd h1 (h H locs ls hP hD hS hl)
  | ifCond o off =>
    obtain ⟨rfl, h⟩ := h
    obtain ⟨x, st', rfl, h1, h⟩ := zI1_inv h
    exact zbr_use1 hx hb hd h1 h (fun t h => h H locs ls hP hD hS hl)
  | if_icmp o off =>
    obtain ⟨rfl, h⟩ := h
    obtain ⟨x, y, st', rfl, h1, h2, h⟩ := zI2_inv h
    exact zbr_use2 hx hb hd h1 h2 h (fun t h => h H locs ls hP hD hS hl)
  | ireturn =>
    obtain ⟨rfl, h⟩ := h
    split at h
    · refine W.iret hx hb hr (fun t ht hW => ⟨⟨_, M, rfl, h, by rw [ht]; exact hP, hD⟩, hS.F ht⟩) hS.2.2 hd
    · refine W.zret hx hb hr ?_ (fun t ht hW => ⟨⟨_, M, rfl, h.2, by rw [ht]; exact hP, hD⟩, hS.F ht⟩) hS.2.2 hd
      rcases h.1 with rfl | rfl <;> rfl
    · exact False.elim h
  | areturn =>
    obtain ⟨rfl, h⟩ := h
    split at h
    · exact W.aret hx hb hr (Or.inl ⟨_, rfl⟩) (Or.inr ⟨_, rfl⟩) (fun t ht hW => ⟨⟨some (.inr (.inr _)), M, rfl, h, by rw [ht]; exact hP, hD⟩, hS.F ht⟩) hS.2.2 hd
    · exact W.aret hx hb hr (Or.inr ⟨_, rfl⟩) (Or.inr ⟨_, rfl⟩) (fun t ht hW => ⟨⟨some (.inr (.inr _)), M, rfl, h, by rw [ht]; exact hP, hD⟩, hS.F ht⟩) hS.2.2 hd
    · exact False.elim h
  | return_ =>
    obtain ⟨rfl, h1, rfl, h⟩ := h
    exact W.vret hx hb (hr.trans h1) (fun t ht hW => ⟨⟨none, M, rfl, h, by rw [ht]; exact hP, hD⟩, hS.F ht⟩) hS.2.2 hd
  | tableswitch dd lo' hi offs =>
    obtain ⟨x, st', rfl, h1, h2, h⟩ := zI1_inv h
    by_cases q1 : x < lo' ∨ hi < x
    · obtain ⟨t, h3, h⟩ := zjmp_inv (h2 q1)
      exact lv_tableOut hx hb hd (by rw [zrg_toInt h1]; exact q1) h3 (h H locs ls hP hD hS hl)
    · have h4 := h (fun w => q1 (Or.inl w)) (fun w => q1 (Or.inr w))
      split at h4
      · rename_i ho
        obtain ⟨t, h3, h⟩ := zjmp_inv h4
        exact lv_tableIn hx hb hd (by rw [zrg_toInt h1]; exact fun w => q1 (Or.inl w)) (by rw [zrg_toInt h1]; exact fun w => q1 (Or.inr w)) (by rw [zrg_toInt h1]; exact ho) h3 (h H locs ls hP hD hS hl)
      · exact False.elim h4
  | lookupswitch dd ps =>
    obtain ⟨x, st', rfl, h1, h2, h⟩ := zI1_inv h
    obtain ⟨t, h3, h⟩ := zjmp_inv h
    exact lv_lookup hx hb hd h2 (by rw [zrg_toInt h1]) h3 (h H locs ls hP hD hS hl)
  | getfield idx =>
    obtain ⟨rfl, h⟩ := h
    obtain ⟨a, st', rfl, h⟩ := zR1_inv h
    split at h
    · rename_i ci j hf
      obtain ⟨h1, h⟩ := h
      obtain ⟨q, hq, hk, hw⟩ := zf_use hf
      obtain ⟨e1, ha, h4⟩ := zcell_4 (ad := ad) (ca := ca) (M := M) h1
      have he : (zws ad ca M)[a]? = some (ad a, .inr (ci, zfv ad (M a) (zk a).2.2 0)) := by rw [zws_get ha, e1]
      split at h
      · rename_i h5
        have hv := zfv_get (ad := ad) (f := M a) _ 0 _ _ (zkf_get h4 h5)
        rw [Nat.zero_add] at hv
        exact va_get (C := q.1) (T := q.2.1) (N := q.2.2) hx hb hts (zu_all ci q hq) hown hK hP a he hq j hk (hts _ hw) (fun _ h9 => h9) hv hd (h H locs ls hP hD hS hl)
      · rename_i r h5
        have hv := zfv_get (ad := ad) (f := M a) _ 0 _ _ (zkf_get h4 h5)
        exact va_get (C := q.1) (T := q.2.1) (N := q.2.2) hx hb hts (zu_all ci q hq) hown hK hP a he hq j hk (hts _ hw) (fun _ h9 => h9) hv hd (h H locs ls hP hD hS hl)
      · exact False.elim h
    · exact False.elim h
  | putfield idx =>
    obtain ⟨rfl, h⟩ := h
    obtain ⟨x, st', rfl, h⟩ := zI1_inv h
    obtain ⟨a, st', rfl, h⟩ := zR1_inv h
    split at h
    · rename_i ci j hf
      obtain ⟨h1, h5, h⟩ := h
      obtain ⟨q, hq, hk, hw⟩ := zf_use hf
      obtain ⟨e1, ha, h4⟩ := zcell_4 (ad := ad) (ca := ca) (M := M) h1
      have he : (zws ad ca M)[a]? = some (ad a, .inr (ci, zfv ad (M a) (zk a).2.2 0)) := by rw [zws_get ha, e1]
      have h6 := zkf_get h4 h5
      have hlen : j < (zfv ad (M a) (zk a).2.2 0).length := by rw [zfv_len]; exact (List.getElem?_eq_some_iff.mp h6).1
      have hset : (zws ad ca M).set a (ad a, .inr (ci, (zfv ad (M a) (zk a).2.2 0).set j (.int (Int32.ofInt x)))) = zws ad ca (zup M a j x) := by
        refine zws_set ha ?_ (fun b hb => zup_ne M j x hb)
        rw [(zcell_4 (ad := ad) (ca := ca) (M := zup M a j x) h1).1, zfv_set _ _ _ h6, zup_self, Nat.zero_add]
      rw [hq] at h
      have tyok := (ztyp_ok ci q hq)
      split at h
      · rename_i o n e
        have e : (some q).map (fun q => q.2.1 j) = some (o, n, "I", false) := e
        have e2 : q.2.1 j = (o, n, "I", false) := Option.some.inj e
        exact va_put (C := q.1) (T := q.2.1) (N := q.2.2) (ty := .int) hx hb hts (zu_all ci q hq) (ztyp ci) tyok.1 tyok.2 hown hK hP hD hS a he hq j hk (hts _ hw) (fun _ h9 => h9) (by rw [e2]) (by rw [e2]; exact pd_I) rfl rfl hlen hd (fun H1 locs1 hP hD hS => h H1 locs1 ls (by rw [← hset]; exact hP) (by rw [← hset]; exact hD) hS hl)
      · rename_i o n e
        have e : (some q).map (fun q => q.2.1 j) = some (o, n, "Z", false) := e
        have e2 : q.2.1 j = (o, n, "Z", false) := Option.some.inj e
        exact va_put (C := q.1) (T := q.2.1) (N := q.2.2) (ty := .boolean) hx hb hts (zu_all ci q hq) (ztyp ci) tyok.1 tyok.2 hown hK hP hD hS a he hq j hk (hts _ hw) (fun _ h9 => h9) (by rw [e2]) (by rw [e2]; exact pd_Z) (by rcases h.1 with rfl | rfl <;> rfl) (by rcases h.1 with rfl | rfl <;> rfl) hlen hd (fun H1 locs1 hP hD hS => h.2 H1 locs1 ls (by rw [← hset]; exact hP) (by rw [← hset]; exact hD) hS hl)
      · exact False.elim h
    · exact False.elim h
  | iaload =>
    obtain ⟨rfl, h⟩ := h
    obtain ⟨i, st', rfl, h⟩ := zI1_inv h
    obtain ⟨a, st', rfl, h1, h⟩ := zR1_inv h
    obtain ⟨ha, h2, h3, h4⟩ := zin_len h1 (by omega)
    refine va_iald hx hb hK hP a 0 (by rw [zws_get ha, zcell_0 h1.1]) rfl (zvin h4 h2 h3) hd ?_
    rw [znat h2 (by omega)]
    exact h H locs ls hP hD hS hl
  | baload =>
    obtain ⟨rfl, h⟩ := h
    obtain ⟨i, st', rfl, h⟩ := zI1_inv h
    obtain ⟨a, st', rfl, h1, h⟩ := zR1_inv h
    obtain ⟨ha, h2, h3, h4⟩ := zin_len h1 (by omega)
    refine va_zald hx hb hK hP a 1 (by rw [zws_get ha, zcell_1 h1.1]) rfl (zvin h4 h2 h3) hd ?_
    rw [znat h2 (by omega)]
    exact h H locs ls hP hD hS hl
  | laload =>
    obtain ⟨rfl, h⟩ := h
    obtain ⟨i, st', rfl, h⟩ := zI1_inv h
    obtain ⟨a, st', rfl, h1, h⟩ := zR1_inv h
    obtain ⟨ha, h2, h3, h4⟩ := zin_len h1 (by omega)
    refine va_lald hx hb hK hP a 2 (by rw [zws_get ha, zcell_2 h1.1]) rfl (zvin h4 h2 h3) hd ?_
    rw [znat h2 (by omega)]
    exact h H locs ls hP hD hS hl
  | aaload =>
    obtain ⟨rfl, h⟩ := h
    obtain ⟨i, st', rfl, h⟩ := zI1_inv h
    obtain ⟨a, st', rfl, h1, h⟩ := zR1_inv h
    obtain ⟨ha, h2, h3, h4⟩ := zin_len h1 (by omega)
    obtain ⟨ty, hty, htr⟩ : ∃ ty : FieldType, (ztys ca)[(zk a).2.2.getD 0 0]? = some (ca ((zk a).2.2.getD 0 0), ty) ∧ ty.isReference = true := by
      have h5 := zk_okq ha
      have h6 := h1.1
      revert h5 h6
      unfold zk_ok
      generalize zk a = z
      intro h5 h6
      split at h5
      · rename_i n fs
        simp only [Bool.and_eq_true, decide_eq_true_eq] at h5
        obtain ⟨-, h7, h8⟩ := h5
        show ∃ ty : FieldType, (ztys ca)[fs.getD 0 0]? = some (ca (fs.getD 0 0), ty) ∧ ty.isReference = true
        generalize fs.getD 0 0 = t at h7 h8 ⊢
        rcases (show t = 3 ∨ t = 4 ∨ t = 5 ∨ t = 6 by omega) with rfl | rfl | rfl | rfl
        · exact ⟨_, rfl, rfl⟩
        · exact ⟨_, rfl, rfl⟩
        · exact ⟨_, rfl, rfl⟩
        · exact ⟨_, rfl, rfl⟩
      · exact absurd h6 (show ¬ (4 : Nat) = 3 by omega)
      · rename_i t n fs _ _
        have h6 : t = 3 := h6
        subst h6
        simp at h5
    have hlt : (Int32.ofInt i).toNatClampNeg < (zk a).2.1 := by rw [znat h2 (by omega)]; omega
    have hcell : H[ad a]? = some (vp_cell (ca ((zk a).2.2.getD 0 0)) ((zk a).2.1, .inr (.inr (.inr (.inr (fun i => some (ad ((zk a).2.2.getD 1 0 + (zk a).2.2.getD 2 0 * i)))))))) := by
      have := hP a _ (zws_get ha)
      rw [zcell_3 h1.1] at this
      exact this
    refine W.aald (v := .ref (ad ((zk a).2.2.getD 1 0 + (zk a).2.2.getD 2 0 * i.toNat))) (ty := ty) hx hb hcell ((hK.2 _ _ hty).1 _ (fun j => va_rf (some (ad ((zk a).2.2.getD 1 0 + (zk a).2.2.getD 2 0 * j))))) htr (fun q => by cases q) (by show ¬ (_ ∨ (arrV _ _ _).slots.size ≤ _); rw [arrV_size]; exact zvin h4 h2 h3) (by show (arrV _ _ _).slots[_]? = _; rw [arrV_read _ _ hlt, znat h2 (by omega)]; rfl) rfl rfl hd ?_
    exact h H locs ls hP hD hS hl
  | iastore =>
    obtain ⟨rfl, h⟩ := h
    obtain ⟨i, x, st', rfl, h⟩ := zI2_inv h
    obtain ⟨a, st', rfl, h1, h⟩ := zR1_inv h
    obtain ⟨ha, h2, h3, h4⟩ := zin_len h1 (by omega)
    have hset : (zws ad ca M).set a (ad a, .inl (ca 0, (zk a).2.1, .inl (upd (fun j => Int32.ofInt (M a j)) (Int32.ofInt i).toNatClampNeg (Int32.ofInt x)))) = zws ad ca (zup M a i.toNat x) := by
      refine zws_set ha ?_ (fun b hb => zup_ne M _ x hb)
      rw [zcell_0 h1.1, zup_self, znat h2 (by omega)]
      congr 4
      funext j
      show Int32.ofInt (if j = i.toNat then x else M a j) = if j = i.toNat then Int32.ofInt x else Int32.ofInt (M a j)
      by_cases q : j = i.toNat
      · rw [if_pos q, if_pos q]
      · rw [if_neg q, if_neg q]
    exact va_iast hx hb hK hP hD hS a 0 (by rw [zws_get ha, zcell_0 h1.1]) rfl (zvin h4 h2 h3) hd (fun H1 locs1 hP hD hS => h H1 locs1 ls (by rw [← hset]; exact hP) (by rw [← hset]; exact hD) hS hl)
  | bastore =>
    obtain ⟨rfl, h⟩ := h
    obtain ⟨i, x, st', rfl, h⟩ := zI2_inv h
    obtain ⟨a, st', rfl, h1, h5, h⟩ := zR1_inv h
    obtain ⟨ha, h2, h3, h4⟩ := zin_len h1 (by omega)
    have hset : (zws ad ca M).set a (ad a, .inl (ca 1, (zk a).2.1, .inl (upd (fun j => Int32.ofInt (M a j)) (Int32.ofInt i).toNatClampNeg (vp_nar .boolean (Int32.ofInt x))))) = zws ad ca (zup M a i.toNat x) := by
      refine zws_set ha ?_ (fun b hb => zup_ne M _ x hb)
      rw [zcell_1 h1.1, zup_self, znat h2 (by omega)]
      congr 4
      funext j
      show Int32.ofInt (if j = i.toNat then x else M a j) = if j = i.toNat then vp_nar .boolean (Int32.ofInt x) else Int32.ofInt (M a j)
      by_cases q : j = i.toNat
      · rw [if_pos q, if_pos q]
        rcases h5 with rfl | rfl <;> rfl
      · rw [if_neg q, if_neg q]
    exact va_zast hx hb hK hP hD hS a 1 (by rw [zws_get ha, zcell_1 h1.1]) rfl (zvin h4 h2 h3) hd (fun H1 locs1 hP hD hS => h H1 locs1 ls (by rw [← hset]; exact hP) (by rw [← hset]; exact hD) hS hl)
  | lastore =>
    obtain ⟨rfl, h⟩ := h
    obtain ⟨x, st', rfl, h⟩ := zL1_inv h
    obtain ⟨i, st', rfl, h⟩ := zI1_inv h
    obtain ⟨a, st', rfl, h1, h⟩ := zR1_inv h
    obtain ⟨ha, h2, h3, h4⟩ := zin_len h1 (by omega)
    have hset : (zws ad ca M).set a (ad a, .inl (ca 2, (zk a).2.1, .inr (.inl (vp_updL (fun j => Int64.ofInt (M a j)) (Int32.ofInt i).toNatClampNeg (Int64.ofInt x))))) = zws ad ca (zup M a i.toNat x) := by
      refine zws_set ha ?_ (fun b hb => zup_ne M _ x hb)
      rw [zcell_2 h1.1, zup_self, znat h2 (by omega)]
      congr 5
      funext j
      show Int64.ofInt (if j = i.toNat then x else M a j) = if j = i.toNat then Int64.ofInt x else Int64.ofInt (M a j)
      by_cases q : j = i.toNat
      · rw [if_pos q, if_pos q]
      · rw [if_neg q, if_neg q]
    exact va_last hx hb hK hP hD hS a 2 (by rw [zws_get ha, zcell_2 h1.1]) rfl (zvin h4 h2 h3) hd (fun H1 locs1 hP hD hS => h H1 locs1 ls (by rw [← hset]; exact hP) (by rw [← hset]; exact hD) hS hl)
  | arraylength =>
    obtain ⟨rfl, h⟩ := h
    obtain ⟨a, st', rfl, h1, h⟩ := zR1_inv h
    have ha : a < zN := zk_in (fun q => by rw [q] at h1; exact absurd h1 (show ¬ (5 : Nat) < 3 by omega))
    have hv : Int32.ofNat (zk a).2.1 = Int32.ofInt (((zk a).2.1 : Nat) : Int) := (Int32.ofInt_eq_ofNat).symm
    rcases (show (zk a).1 = 0 ∨ (zk a).1 = 1 ∨ (zk a).1 = 2 by omega) with e1 | e1 | e1
    · exact va_alen hx hb hK hP a (t0 := 0) (by rw [zws_get ha, zcell_0 e1]) rfl hv hd (h H locs ls hP hD hS hl)
    · exact va_alen hx hb hK hP a (t0 := 1) (by rw [zws_get ha, zcell_1 e1]) rfl hv hd (h H locs ls hP hD hS hl)
    · exact va_alen hx hb hK hP a (t0 := 2) (by rw [zws_get ha, zcell_2 e1]) rfl hv hd (h H locs ls hP hD hS hl)
  | invokevirtual idx =>
    obtain ⟨rfl, h⟩ := h
    split at h
    · rename_i μ n ci hz
      obtain ⟨as, rest0, rfl, hn, h⟩ := zpop_inv _ _ h
      obtain ⟨b, rest, rfl, h1, h2, h⟩ := zR1_inv h
      rcases zl_use hz with ⟨q, -⟩ | ⟨q, -⟩ | ⟨q, pp, hq, hp, hnn, hk⟩
      · cases q
      · cases q
      · rcases hk with ⟨-, k1, k2, k3, r, k4, k5⟩ | ⟨q1, -⟩ | ⟨q1, -⟩
        · obtain ⟨p2, hp2, m1, m2, m3, m4, m5, m6, m7⟩ := zm_use hq
          have e2 : p2 = pp := Option.some.inj (hp2.symm.trans hp)
          subst e2
          rw [if_neg (by omega)] at m2
          obtain ⟨e1, ha, h4⟩ := zcell_4 (ad := ad) (ca := ca) (M := M) h1
          have he : (zws ad ca M)[b]? = some (ad b, .inr (ci, zfv ad (M b) (zk b).2.2 0)) := by rw [zws_get ha, e1]
          have hM := hcall μ (.inr (.inr b) :: as) M _ q h hq
          have cw : CallW (zrm (d + 1)) s args (zcn own) q.2.1.cls idx q.2.1 q.2.2.1 q.2.2.2.1 q.2.2.2.2 (zwd q) (zrm d) 0 0 n := by
            refine cwV n hts ?_ rfl rfl rfl ⟨rfl, m5.1, m5.2, by rw [m6, hnn]⟩ ⟨Nat.le_refl _, by show 8 + (q.2.2.2.1 + 11) + 40 * d ≤ 40 * (d + 1); omega⟩
            intro w hw
            rcases List.mem_append.mp hw with hw | hw
            · simp only [List.mem_cons, List.not_mem_nil, or_false] at hw
              rcases hw with rfl | rfl | rfl | rfl
              · exact zgoodT k2
              · exact zgoodT m2
              · exact zgoodT k3
              · exact zgoodT m1
            · exact zwd_good hq w hw
          refine zcall (va_runV (C := q.2.1.cls) (As := as.map (zcv ad)) (rest := rest.map (zcv ad)) ⟨hx, hb, hml, hown, hts⟩ hM cw ⟨zFr, by rw [← k5]; exact va_recv hK hP k4 he, fun U hU hW => ⟨rfl, by rw [hU]; exact hP, va_K.moved hW.alike hK, hD, hN.warm hW⟩⟩ rfl (by rw [List.length_map]; exact hn) hl.1 (by show List.map _ _ = _; rw [zmap_rev]; rfl) (lv_room (zcs_sum h2)) hd ⟨Nat.le_refl _, Nat.le_refl _⟩) hS (fun r M' H1 locs1 hq hP hD hS => ?_)
          have := hq H1 locs1 ls hP hD hS hl
          cases r <;> exact this
        · cases q1
        · cases q1
    · exact False.elim h
  | invokestatic idx =>
    obtain ⟨rfl, h⟩ := h
    split at h
    · rename_i μ n ci hz
      obtain ⟨as, rest, rfl, hn, h2, h⟩ := zpop_inv _ _ h
      rcases zl_use hz with ⟨q, -⟩ | ⟨q, -⟩ | ⟨q, pp, hq, hp, hnn, hk⟩
      · cases q
      · cases q
      · rcases hk with ⟨q1, -⟩ | ⟨-, k1, k2⟩ | ⟨q1, -⟩
        · cases q1
        · obtain ⟨p2, hp2, m1, m2, m3, m4, m5, m6, m7⟩ := zm_use hq
          have e2 : p2 = pp := Option.some.inj (hp2.symm.trans hp)
          subst e2
          rw [if_pos k1] at m2
          have hM := hcall μ as M _ q h hq
          have cw : CallB (zrm (d + 1)) s args (zcn own) idx q.2.1 q.2.2.1 q.2.2.2.1 q.2.2.2.2 (zwd q) (zrm d) 0 0 n ∧ (Cond.static q.2.1).before args s = true := by
            refine va_cwS n hts ?_ rfl rfl rfl ⟨m5.1, m5.2, by rw [m6, hnn]⟩ ⟨Nat.le_refl _, by show 8 + (q.2.2.2.1 + 11) + 40 * d ≤ 40 * (d + 1); omega⟩
            intro w hw
            rcases List.mem_append.mp hw with hw | hw
            · simp only [List.mem_cons, List.not_mem_nil, or_false] at hw
              rcases hw with rfl | rfl | rfl
              · exact zgoodT k2
              · exact zgoodT m2
              · exact zgoodT m1
            · exact zwd_good hq w hw
          refine zcall (va_runS (As := as.map (zcv ad)) (rest := rest.map (zcv ad)) ⟨hx, hb, hml, hown, hts⟩ hM cw ⟨zFr, fun U hU hW => ⟨rfl, by rw [hU]; exact hP, va_K.moved hW.alike hK, hD, hN.warm hW⟩⟩ rfl (by rw [List.length_map]; exact hn) hl.1 (by show List.map _ _ = _; rw [zmap_rev]) (lv_room (zcs_sum h2)) hd ⟨Nat.le_refl _, Nat.le_refl _⟩) hS (fun r M' H1 locs1 hq hP hD hS => ?_)
          have := hq H1 locs1 ls hP hD hS hl
          cases r <;> exact this
        · cases q1
    · rename_i μ n ci hz
      obtain ⟨as, rest, rfl, hn, h2, h⟩ := zpop_inv _ _ h
      rcases zl_use hz with ⟨q, -⟩ | ⟨q, -⟩ | ⟨q, pp, hq, hp, hnn, hk⟩
      · cases q
      · cases q
      · rcases hk with ⟨q1, -⟩ | ⟨q1, -⟩ | ⟨-, k1, k2⟩
        · cases q1
        · cases q1
        · obtain ⟨p2, hp2, m1, m2, m3, m4, m5, m6, m7⟩ := zm_use hq
          have e2 : p2 = pp := Option.some.inj (hp2.symm.trans hp)
          subst e2
          rw [if_pos k1] at m2
          have hM := hcall μ as M _ q h hq
          have cw := va_cnB (R := zrm (d + 1)) (rm := zrm d) (mc := 0) (ms := 0) (host := "SwarmPlanner") n hts (zwd_good hq) rfl rfl rfl (hN _ _ _ k2) (hts _ m1) ⟨m5.1, m5.2, by rw [m6, hnn]⟩ ⟨Nat.le_refl _, by show 8 + (q.2.2.2.1 + 11) + 40 * d ≤ 40 * (d + 1); omega⟩
          refine zcall (va_runSN (As := as.map (zcv ad)) (rest := rest.map (zcv ad)) ⟨hx, hb, hml, hown, hts⟩ hM ⟨cw, hts _ m2, trivial⟩ ⟨zFr, fun U hU hW => ⟨rfl, by rw [hU]; exact hP, va_K.moved hW.alike hK, hD, hN.warm hW⟩⟩ rfl (by rw [List.length_map]; exact hn) hl.1 (by show List.map _ _ = _; rw [zmap_rev]) (lv_room (zcs_sum h2)) hd ⟨Nat.le_refl _, Nat.le_refl _⟩) hS (fun r M' H1 locs1 hq hP hD hS => ?_)
          have := hq H1 locs1 ls hP hD hS hl
          cases r <;> exact this
    · rename_i hz
      obtain ⟨dp, n, st1, rfl, h⟩ := zI2_inv h
      obtain ⟨a1, st2, rfl, h⟩ := zR1_inv h
      obtain ⟨sp, st3, rfl, h⟩ := zI1_inv h
      obtain ⟨a0, rest, rfl, ⟨h1, h2, h3, h4, h5, h6, h7⟩, h8, h⟩ := zR1_inv h
      rcases zl_use hz with ⟨-, hw⟩ | ⟨q, -⟩ | ⟨q, pp, hq, hp, hnn, hk⟩
      · have ha0 : a0 < zN := zk_in (fun q => by rw [q] at h1; exact absurd h1 (show ¬ (5 : Nat) = 0 by omega))
        have ha1 : a1 < zN := zk_in (fun q => by rw [q] at h2; exact absurd h2 (show ¬ (5 : Nat) = 0 by omega))
        have l0 : (zk a0).2.1 < 2147483648 := by
          by_cases q : 0 < (zk a0).2.1
          · exact (zin_len (i := 0) ⟨h1, Int.le_refl 0, by omega⟩ (by omega)).2.2.2
          · omega
        have l1 : (zk a1).2.1 < 2147483648 := by
          by_cases q : 0 < (zk a1).2.1
          · exact (zin_len (i := 0) ⟨h2, Int.le_refl 0, by omega⟩ (by omega)).2.2.2
          · omega
        have hset : (zws ad ca M).set a1 (ad a1, .inl (ca 0, (zk a1).2.1, .inl (va_cpy (fun j => Int32.ofInt (M a0 j)) (fun j => Int32.ofInt (M a1 j)) (Int32.ofInt sp).toNatClampNeg (Int32.ofInt dp).toNatClampNeg (Int32.ofInt n).toNatClampNeg))) = zws ad ca (zrow M a1 (va_cpy (M a0) (M a1) sp.toNat dp.toNat n.toNat)) := by
          refine zws_set ha1 ?_ (fun b hb => zrow_ne M _ hb)
          rw [zcell_0 h2, zrow_self, znat h3 (by omega), znat h4 (by omega), znat h5 (by omega)]
          congr 4
          funext j
          unfold va_cpy
          split <;> rfl
        have h9 := zcs_sum (ad := ad) h8
        exact va_copyi hx hb (hml.trans hl.1.symm) hown (hts _ hw) (hts _ (zT_in zac_nat rfl)) (hts _ (zT_in zac_stat rfl)) (hts _ (zT_in zac_ini rfl)) hK hP hD hS a0 a1 0 0 (by rw [zws_get ha0, zcell_0 h1]) (by rw [zws_get ha1, zcell_0 h2]) rfl rfl rfl (znn h3 (by omega)) (znn h4 (by omega)) (znn h5 (by omega)) (by rw [znat h3 (by omega), znat h5 (by omega)]; omega) (by rw [znat h4 (by omega), znat h5 (by omega)]; omega) (fun _ _ => rfl) (by show 1 ≤ d + 1; omega) (by rw [znat_w]; show _ ≤ 40 * (d + 1); omega) hd (fun H1 locs1 hP hD hS => h H1 locs1 ls (by rw [← hset]; exact hP) (by rw [← hset]; exact hD) hS hl)
      · cases q
      · rcases hk with ⟨q1, -⟩ | ⟨q1, -⟩ | ⟨q1, -⟩ <;> cases q1
    · rename_i hz
      obtain ⟨x, y, rest, rfl, ⟨h1, h2⟩, h8, h⟩ := zI2_inv h
      rcases zl_use hz with ⟨q, -⟩ | ⟨-, hw⟩ | ⟨q, pp, hq, hp, hnn, hk⟩
      · cases q
      · have h9 := zcs_sum (ad := ad) h8
        refine va_mmin hx hb (hml.trans hl.1.symm) hown (hts _ hw) (hts _ (zT_in zmin_stat rfl)) (hts _ (zT_in zmin_ini rfl)) (hts _ (zT_in zmin_code rfl)) (by show 1 ≤ d + 1; omega) (by show _ ≤ 40 * (d + 1); omega) (Nat.le_refl _) (Nat.le_refl _) hd ?_
        have e : (if Int32.ofInt y < Int32.ofInt x then Int32.ofInt y else Int32.ofInt x) = Int32.ofInt (if y < x then y else x) := by
          by_cases q : y < x
          · rw [if_pos q, if_pos ((zlt32 h2 h1).mpr q)]
          · rw [if_neg q, if_neg (fun w => q ((zlt32 h2 h1).mp w))]
        rw [e]
        exact h H locs ls hP hD hS hl
      · rcases hk with ⟨q1, -⟩ | ⟨q1, -⟩ | ⟨q1, -⟩ <;> cases q1
    · exact False.elim h
  | _ => exact False.elim h
