/-! ### what the abstract machine says of a method holds of the machine -/
theorem zget_none {v : zV} : ∀ (n i : Nat), zget (List.replicate n none) i = some v → False
  | 0, _, h => by cases h
  | _ + 1, 0, h => by cases h
  | n + 1, i + 1, h => zget_none n i h
theorem zget_app {v : zV} : ∀ (l : zL) (n i : Nat), zget (l ++ List.replicate n none) i = some v → zget l i = some v
  | [], n, i, h => absurd h (fun h => zget_none n i h)
  | _ :: _, _, 0, h => h
  | _ :: l, n, i + 1, h => zget_app l n i h
theorem zsl_args {ad : Nat → Nat} {v : zV} : ∀ (as : List zV) (k i : Nat), zget (zsl as) i = some v → (k + i, zcv ad v) ∈ lv_args k (as.map (zcv ad))
  | [], _, _, h => by cases h
  | a :: as, k, i, h => by
    show (k + i, zcv ad v) ∈ (k, zcv ad a) :: lv_args (if (zcv ad a).category = 2 then k + 2 else k + 1) (as.map (zcv ad))
    rw [zcat_cv]
    unfold zsl at h
    by_cases h2 : zcat a = 2
    · rw [if_pos h2] at h ⊢
      match i, h with
      | 0, h =>
        cases h
        exact List.mem_cons_self
      | 1, h => cases h
      | i + 2, h =>
        have := zsl_args (ad := ad) as (k + 2) i h
        rw [show k + (i + 2) = k + 2 + i by omega]
        exact List.mem_cons_of_mem _ this
    · rw [if_neg h2] at h ⊢
      match i, h with
      | 0, h =>
        cases h
        exact List.mem_cons_self
      | i + 1, h =>
        have := zsl_args (ad := ad) as (k + 1) i h
        rw [show k + (i + 1) = k + 1 + i by omega]
        exact List.mem_cons_of_mem _ this
theorem zsl_cons (v : zV) (vs : List zV) : zsl (v :: vs) = if zcat v = 2 then some v :: none :: zsl vs else some v :: zsl vs := rfl
theorem zsl_len {ad : Nat → Nat} : ∀ as : List zV, (lg_sl (as.map (zcv ad))).length = (zsl as).length
  | [] => rfl
  | a :: as => by
    have ih := zsl_len (ad := ad) as
    unfold lg_sl at ih ⊢
    rw [List.map_cons, List.flatMap_cons, List.length_append, ih, zcat_cv, zsl_cons]
    by_cases h2 : zcat a = 2
    · rw [if_pos h2, if_pos h2]; simp; omega
    · rw [if_neg h2, if_neg h2]; simp; omega
theorem zlh_entry {ad : Nat → Nat} {nL : Nat} {as : List zV} (h : (zsl as).length ≤ nL) : zlh ad ((lg_sl (as.map (zcv ad)) ++ List.replicate (nL - (lg_sl (as.map (zcv ad))).length) Slot.unset).toArray) nL (zent nL as) := by
  have h1 := lv_entry (as.map (zcv ad)) (n := nL) (by rw [zsl_len]; exact h)
  refine ⟨h1.1, h1.2.1, ?_, fun i v hv => ?_⟩
  · unfold zent
    rw [List.length_append, List.length_replicate]
    omega
  · have h2 := zsl_args (ad := ad) as 0 i (zget_app _ _ _ hv)
    rw [Nat.zero_add] at h2
    exact h1.2.2 _ h2
theorem zsound (l : Launch) (ad : Nat → Nat) (ca : Nat → ClassId) (D : va_G) : ∀ d : Nat, zMet l ad ca D d
  | 0 => fun _ _ _ _ _ h _ => False.elim h
  | d + 1 => fun μ as M Q q h hq => by
    unfold Sp at h
    rw [hq] at h
    obtain ⟨hlen, hRT⟩ := h
    obtain ⟨pp, -, -, -, m3, m4, -, -, -⟩ := zm_use hq
    refine Met.ofW (cc := q.2.2.1) (maxL := q.2.2.2.1) (ret := q.2.2.2.2) m4 rfl ?_
    intro p e s m args below meth c s₁ B hml hv
    obtain ⟨rfl, hP, hK, hD, hN⟩ := hv
    have hts := atoms_spec (ws := zwd q) B.pre
    have hown : s.vm.findClass (zcn q.1) = some m.cls := by rw [m3]; exact findClass_of_methodNamed B.named
    rw [lg_entry_eq]
    refine hRT (fun pc lo st M => zG p l e (zrm (d + 1)) s m _ below meth c ad ca D q.2.2.2.1 (MQ below (zQc ad ca D Q) _ s 0 0 (zA ad)) pc lo st M) ?_ s.heap [] _ hP hD va_S.rf (zlh_entry hlen)
    intro pc lo st M h
    unfold zstp at h
    rw [hq] at h
    cases hd : decode q.2.2.1 pc with
    | ok dd =>
      simp only [hd] at h
      exact zstep (i := dd.1) (len := dd.2) B.exec B.bytes hml hown (fun w hw => hts w (List.mem_cons_of_mem _ hw)) hK hN B.notSynchronized B.returns (zsound l ad ca D d) hd h
    | error z =>
      exfalso
      simp only [hd] at h
