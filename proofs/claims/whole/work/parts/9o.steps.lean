/-! ### further steps of constructors -/
theorem zn_ai (N : Nat) (cA : ClassId) : vp_cell cA (N, .inl (fun _ => Int32.ofInt 0)) = arrV cA N (fun _ => defaultValue .int) := rfl
theorem zn_ab (N : Nat) (cA : ClassId) : vp_cell cA (N, .inl (fun _ => Int32.ofInt 0)) = arrV cA N (fun _ => defaultValue .boolean) := rfl
theorem zn_al (N : Nat) (cA : ClassId) : vp_cell cA (N, .inr (.inl (fun _ => Int64.ofInt 0))) = arrV cA N (fun _ => defaultValue .long) := rfl
def mnL (ca : Nat → ClassId) (tA tB : Nat) (a0 : vp_A) (N o : Nat) : va_W := (o, .inl (ca tA, N, .inr (.inr (.inr (.inr (fun j => some (o + 1 + j))))))) :: (List.range N).map (fun j => (o + 1 + j, .inl (ca tB, a0)))
theorem mnL_get {ca : Nat → ClassId} {tA tB : Nat} {a0 : vp_A} {N o k : Nat} {q : Nat × va_E} (h : (mnL ca tA tB a0 N o)[k]? = some q) : (k = 0 ∧ q = (o, .inl (ca tA, N, .inr (.inr (.inr (.inr (fun j => some (o + 1 + j)))))))) ∨ ∃ j, k = j + 1 ∧ j < N ∧ q = (o + 1 + j, .inl (ca tB, a0)) := by
  unfold mnL at h
  rcases k with _ | j
  · left; rw [List.getElem?_cons_zero] at h; exact ⟨rfl, (Option.some.inj h).symm⟩
  · right
    rw [List.getElem?_cons_succ, List.getElem?_map] at h
    by_cases z : j < N
    · rw [List.getElem?_range z] at h
      exact ⟨j, rfl, z, (Option.some.inj h).symm⟩
    · rw [List.getElem?_eq_none (by rw [List.length_range]; omega)] at h
      cases h
section ZO
variable {p : Program} {l : Launch} {e : Env} {R : Room} {s : State} {m : MethodId} {args : Array Value} {below : List Frame} {meth : Method} {c : Code} {H : Heap} {locs : List Loc} {cells slots : Nat} {Q : State → Prop}
variable {cc : ByteArray} {pc : Nat} {ls : Array Slot} {rest : List Value} {D : va_G} {ca : Nat → ClassId} {A : Nat → Prop} {ws : va_W} {nL : Nat} {own : String}
theorem zn_fill (S : CallFix p m c cc nL s args zT own) (hK : va_K D vwCl (ztys ca) s) (hNo : zNo s) (hP : va_P D vwCl ws H) (hD : va_D A ws) (hS : va_S A s.heap H locs) (hA : ∀ q, s.heap.size ≤ q → A q) (k : Nat) {a n index : Nat} {f : Nat → Int32} {v : Int32} (hk : ws[k]? = some (a, .inl (ca 0, n, .inl f))) (hn : n < 2147483648)
    (cw : CallB R s args own index yJ7_fill_53178 cJ7_fill_53178 4 none (Cond.code yJ7_fill_53178 cJ7_fill_53178 4 none :: zT) { frames := 0, cells := 0, slots := 0, locals := 0 } 0 0 2 ∧ (Cond.static yJ7_fill_53178).before args s = true) (hls : ls.size = nL) (hW : (rest.map fun v => v.category).sum ≤ 8) (hdg : decode cc pc = .ok (.invokestatic index, 3)) (hf : cells + 0 ≤ R.cells ∧ slots + 0 ≤ R.slots)
    (kk : ∀ (H1 : Heap) (locs1 : List Loc), va_P D vwCl (ws.set k (a, .inl (ca 0, n, .inl (fun _ => v)))) H1 → va_D A (ws.set k (a, .inl (ca 0, n, .inl (fun _ => v)))) → va_S A s.heap H1 locs1 → W p l e R s m args below meth c H1 locs1 cells slots Q (F0 m (pc + 3) ls rest)) : W p l e R s m args below meth c H locs cells slots Q (F0 m pc ls (.int v :: .ref a :: rest)) := by
  have h1 : ∀ (j : Nat) (q : Nat × va_E), [((a, .inl (ca 0, n, .inl f)) : Nat × va_E)][j]? = some q → j = 0 ∧ q = (a, .inl (ca 0, n, .inl f)) := fun j q h => by
    rcases j with _ | j
    · rw [List.getElem?_cons_zero] at h; exact ⟨rfl, (Option.some.inj h).symm⟩
    · rw [List.getElem?_cons_succ] at h; cases h
  have hFc : ∀ q, va_A [(a, .inl (ca 0, n, .inl f))] H.size q → A q := fun q h => by
    rcases h with ⟨j, e, h⟩ | h
    · obtain ⟨-, h⟩ := h1 j _ h
      cases h
      exact hD.2 k _ hk
    · exact hA q (Nat.le_trans hS.1 h)
  refine va_callv (va_runS (As := [.ref a, .int v]) (rest := rest) S (n_fill l D ca a H.size n v f hn) cw ⟨zNP_blind D ca _ _ H.size, fun U hU hW => ⟨rfl, by rw [hU], by rw [hU]; exact fun j q h => by (obtain ⟨-, rfl⟩ := h1 j q h; exact hP k _ hk), va_K.moved hW.alike hK, ⟨fun i j x y hx hy _ => by rw [(h1 i x hx).1, (h1 j y hy).1], fun _ _ _ => trivial⟩, hNo.warm hW⟩⟩ rfl rfl hls rfl (lv_room hW) hdg hf) hS (fun q _ h => hFc q h) hFc (fun u t H1 locs1 ht hvm hw hB hz1 hk1 hS => ?_)
  obtain ⟨hP1, hD1⟩ := hB
  rw [ht] at hP1
  subst hw
  refine kk H1 locs1 (zn_set hP hD hk (hP1 0 _ rfl) (fun q h2 h3 => hk1 q h2 (fun z => ?_))) (hD.set hk) hS
  rcases z with ⟨j, e, h⟩ | h
  · obtain ⟨-, h⟩ := h1 j _ h
    cases h
    exact h3 rfl
  · omega
theorem zn_multi (hexec : p.tables.exec = Jvm.exec) (hb : c.code = cc) {index : Nat} {ty : FieldType} (hown : s.vm.findClass own = some m.cls) (hclink : (Cond.classLink own index ("[" ++ (FieldType.array ty).toString)).before args s = true) (hover : mnOv ty s) (harr : (Cond.arrayClass ty).before args s = true) (tA tB : Nat) (htA : (ztys ca)[tA]? = some (ca tA, .array ty)) (htB : (ztys ca)[tB]? = some (ca tB, ty))
    (hraA : ∀ c : ClassId, va_RA s c (.array ty) = (s.vm.findClass ("[" ++ (FieldType.array ty).toString) = some c)) (hraB : ∀ c : ClassId, va_RA s c ty = (s.vm.findClass (FieldType.array ty).toString = some c)) (hK : va_K D vwCl (ztys ca) s) (hP : va_P D vwCl ws H) (hD : va_D A ws) (hS : va_S A s.heap H locs) (hA : ∀ q, s.heap.size ≤ q → A q)
    {n k : Int32} {N M : Nat} {a0 : vp_A} (ha : ∀ cA : ClassId, vp_cell cA a0 = arrV cA M (fun _ => defaultValue ty)) (hN : n.toNatClampNeg = N) (hM : k.toNatClampNeg = M) (hn : ¬ n < 0) (hk : ¬ k < 0) (hb1 : N * 4 ≤ 536870912) (hb2 : M * componentBytes ty ≤ 536870912) (hb3 : M ≤ 536870912) (hdf : fits ty (defaultValue ty) = true) (hdd : (defaultValue ty).isDefault = true) (hcells : cells + (1 + N) ≤ R.cells) (hslots : slots + (N + N * M) ≤ R.slots) (hdg : decode cc pc = .ok (.multianewarray index 2, 4))
    (kk : ∀ (o : Nat) (H1 : Heap) (locs1 : List Loc), va_P D vwCl (ws ++ mnL ca tA tB a0 N o) H1 → va_D A (ws ++ mnL ca tA tB a0 N o) → va_S A s.heap H1 locs1 → W p l e R s m args below meth c H1 locs1 (cells + 1 + N) (slots + N + N * M) Q (F0 m (pc + 4) ls (.ref o :: rest))) : W p l e R s m args below meth c H locs cells slots Q (F0 m pc ls (.int k :: .int n :: rest)) := by
  refine mn_row hexec hb hown hclink hover harr hdg hN hM hn hk hb1 hb2 hb3 hdf hdd hcells hslots (fun H1 cA cB locs1 g1 g2 g3 g4 g5 g6 g7 g8 g9 => ?_)
  have r1 := (hK.2 tA _ htA).2
  have r2 := (hK.2 tB _ htB).2
  rw [hraA] at r1
  rw [hraB] at r2
  obtain rfl : cA = ca tA := Option.some.inj (g2.symm.trans r1)
  obtain rfl : cB = ca tB := Option.some.inj (g4.symm.trans r2)
  have hlt : ∀ (j : Nat) (q : Nat × va_E), ws[j]? = some q → q.1 < H.size := fun j q h => (hP j q h).lt
  refine kk H.size H1 locs1 (va_P.app (hP.kept (fun j q h => g8 q.1 (hlt j q h))) (fun j q h => ?_)) (va_D.app hD ⟨fun i j x y hx hy e => ?_, fun j q h => ?_⟩ (fun i j x y hx hy e => ?_)) ⟨by rw [g7]; have := hS.1; omega, fun q h1 h2 => by rw [g8 q (Nat.lt_of_lt_of_le h1 hS.1)]; exact hS.2.1 q h1 h2, fun q hq => ?_⟩
  · rcases mnL_get h with ⟨-, rfl⟩ | ⟨i, -, hi, rfl⟩
    · show H1[H.size]? = some (vp_cell _ _)
      rw [g5, vp_cell_q]
      congr 1
      exact arrV_cong (fun i hi => by rw [if_pos hi]; rfl)
    · show H1[H.size + 1 + i]? = some (vp_cell _ _)
      rw [g6 i hi, ha]
  · rcases mnL_get hx with ⟨rfl, rfl⟩ | ⟨i1, rfl, hi1, rfl⟩ <;> rcases mnL_get hy with ⟨rfl, rfl⟩ | ⟨i2, rfl, hi2, rfl⟩
    · rfl
    · exfalso; have e : H.size = H.size + 1 + i2 := e; omega
    · exfalso; have e : H.size + 1 + i1 = H.size := e; omega
    · have e : H.size + 1 + i1 = H.size + 1 + i2 := e; omega
  · rcases mnL_get h with ⟨-, rfl⟩ | ⟨i, -, hi, rfl⟩
    · exact hA _ hS.1
    · exact hA _ (show s.heap.size ≤ H.size + 1 + i by have := hS.1; omega)
  · have h1 := hlt i x hx
    rcases mnL_get hy with ⟨-, rfl⟩ | ⟨i2, -, hi2, rfl⟩
    · have e : x.1 = H.size := e; omega
    · have e : x.1 = H.size + 1 + i2 := e; omega
  · rcases g9 q hq with h | h
    · exact hS.2.2 q h
    · rw [h]; exact hA _ hS.1
end ZO
