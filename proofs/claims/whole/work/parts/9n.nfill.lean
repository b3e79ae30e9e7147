/-! ### fill, over one array -/
theorem arrV_cong {cA : ClassId} {N : Nat} {f g : Nat → Value} (h : ∀ j, j < N → f j = g j) : arrV cA N f = arrV cA N g := by
  unfold arrV
  congr 1
  apply Array.ext
  · simp
  · intro j h1 h2
    simp only [Array.getElem_ofFn]
    exact h j (by simpa using h1)
theorem zofnat (n : Nat) : Int32.ofNat n = Int32.ofInt (n : Int) := (Int32.ofInt_eq_ofNat).symm
set_option maxHeartbeats 4000000 in
set_option maxRecDepth 100000 in
theorem n_fill (l : Launch) (D : va_G) (ca : Nat → ClassId) (a sz n : Nat) (v : Int32) (f : Nat → Int32) (hn : n < 2147483648) : Met l yJ7_fill_53178 (Cond.code yJ7_fill_53178 cJ7_fill_53178 4 none :: zT) { frames := 0, cells := 0, slots := 0, locals := 0 } (zNP D ca [.ref a, .int v] [(a, .inl (ca 0, n, .inl f))] sz) (zNQ D [(a, .inl (ca 0, n, .inl f))] sz (fun w => w = [(a, .inl (ca 0, n, .inl (fun _ => v)))])) 0 0 (va_A [(a, .inl (ca 0, n, .inl f))] sz) := by
  refine Met.ofW (cc := cJ7_fill_53178) (maxL := 4) (ret := none) (by decide) rfl ?_
  intro p e s m args below meth c s₁ B hml hv
  obtain ⟨rfl, hsz, hP, hK, hD0, hNo⟩ := hv
  have hx := B.exec
  have hb := B.bytes
  have hr := B.returns
  have hlocks := B.notSynchronized
  subst hsz
  have hD := hD0.self (sz := s.heap.size)
  generalize hAe : va_A [(a, .inl (ca 0, n, .inl f))] s.heap.size = A at hD ⊢
  have hA : ∀ q : Nat, s.heap.size ≤ q → A q := fun q h => by rw [← hAe]; exact Or.inr h
  have hS : va_S A s.heap s.heap [] := va_S.rf
  have hl := lv_entry ([.ref a, .int v]) (n := 4) (Nat.le_of_ble_eq_true rfl)
  rw [lg_entry_eq]
  generalize (lg_sl ([.ref a, .int v]) ++ List.replicate (4 - (lg_sl ([.ref a, .int v])).length) Slot.unset).toArray = ls at hl ⊢
  have hl : lv_has ls 4 [(0, .ref a), (1, .int v)] := hl
  have zn : zrg (n : Int) := ⟨by omega, by omega⟩
  have loop : ∀ q i : Nat, i + q = n → ∀ (g : Nat → Int32) (H : Heap) (locs : List Loc) (ls : Array Slot), (∀ j, j < i → g j = v) → va_P D vwCl [(a, .inl (ca 0, n, .inl g))] H → va_D A [(a, .inl (ca 0, n, .inl g))] → va_S A s.heap H locs → lv_has ls 4 [(0, .ref a), (1, .int v), (2, .int (Int32.ofInt (i : Int))), (3, .int (Int32.ofInt (n : Int)))] →
      W p l e { frames := 0, cells := 0, slots := 0, locals := 0 } s m #[Value.ref a, Value.int v] below meth c H locs 0 0 (MQ below (zNQ D [(a, .inl (ca 0, n, .inl f))] s.heap.size (fun w => w = [(a, .inl (ca 0, n, .inl (fun _ => v)))])) #[Value.ref a, Value.int v] s 0 0 A) (F0 m 5 ls []) := by
    intro q
    induction q with
    | zero =>
      intro i hi g H locs ls h1 hP hD hS hl
      obtain rfl : i = n := by omega
      refine lv_iload_n hx hb dJ7_fill_53178_5 rfl (lv_at hl 2 rfl) ?_
      refine lv_iload_n hx hb dJ7_fill_53178_6 rfl (lv_at hl 3 rfl) ?_
      refine lv_icmp_ge (tgt := 20) hx hb dJ7_fill_53178_7 (by decide) (fun _ => ?_) (fun z => absurd (Int32.le_refl _) z)
      refine W.vret hx hb hr (fun t ht hW => ⟨⟨[(a, .inl (ca 0, i, .inl (fun _ => v)))], rfl, rfl, ?_, ?_⟩, by rw [hAe]; exact hS.F ht⟩) hS.2.2 dJ7_fill_53178_20
      · rw [ht]
        intro k x hk
        have hz : k < 1 := (List.getElem?_eq_some_iff.mp hk).1
        obtain rfl : k = 0 := by omega
        cases hk
        have := hP 0 _ rfl
        show H[a]? = some (vp_cell _ _)
        have h2 : vp_cell (ca 0) (i, .inl g) = vp_cell (ca 0) (i, .inl (fun _ => v)) := by
          rw [vp_cell_i, vp_cell_i]
          exact arrV_cong (fun j hj => by rw [h1 j hj])
        rw [← h2]
        exact this
      · rw [hAe]
        exact hD.set (p := 0) rfl
    | succ q ih =>
      intro i hi g H locs ls h1 hP hD hS hl
      have zi : zrg (i : Int) := ⟨by omega, by omega⟩
      refine lv_iload_n hx hb dJ7_fill_53178_5 rfl (lv_at hl 2 rfl) ?_
      refine lv_iload_n hx hb dJ7_fill_53178_6 rfl (lv_at hl 3 rfl) ?_
      refine lv_icmp_ge (tgt := 20) hx hb dJ7_fill_53178_7 (by decide) (fun z => absurd ((zle32 zn zi).mp z) (by omega)) (fun _ => ?_)
      refine lv_aload_n hx hb dJ7_fill_53178_10 rfl (lv_at hl 0 rfl) ?_
      refine lv_iload_n hx hb dJ7_fill_53178_11 rfl (lv_at hl 2 rfl) ?_
      refine lv_iload_n hx hb dJ7_fill_53178_12 rfl (lv_at hl 1 rfl) ?_
      refine va_iast hx hb hK hP hD hS 0 0 rfl rfl (zvin hn (by omega) (by omega)) dJ7_fill_53178_13 (fun H1 locs1 hP hD hS => ?_)
      rw [znat (by omega) (by omega), Int.toNat_natCast] at hP hD
      have hv : Int32.ofInt (i : Int) + Int32.ofInt 1 = Int32.ofInt ((i + 1 : Nat) : Int) := by rw [← Int32.ofInt_add]; rfl
      refine lv_iinc (v := Int32.ofInt ((i + 1 : Nat) : Int)) (lv' := [(2, .int (Int32.ofInt ((i + 1 : Nat) : Int))), (0, .ref a), (1, .int v), (3, .int (Int32.ofInt (n : Int)))]) hx hb dJ7_fill_53178_14 hl (k := 2) rfl hv (by decide) rfl (fun ls hl => ?_)
      refine lv_goto (tgt := 5) hx hb dJ7_fill_53178_17 (by decide) ?_
      exact ih (i + 1) (by omega) (upd g i v) H1 locs1 ls (fun j hj => by
        unfold upd
        by_cases z : j = i
        · rw [if_pos z]
        · rw [if_neg z]; exact h1 j (by omega)) hP hD hS (lv_sub hl [1, 2, 0, 3] rfl)
  refine lv_iconst (v := Int32.ofInt ((0 : Nat) : Int)) hx hb dJ7_fill_53178_0 rfl ?_
  refine lv_istore_n (lv' := [(2, .int (Int32.ofInt ((0 : Nat) : Int))), (0, .ref a), (1, .int v)]) hx hb dJ7_fill_53178_1 rfl hl (by decide) rfl (fun ls hl => ?_)
  refine lv_aload_n hx hb dJ7_fill_53178_2 rfl (lv_at hl 1 rfl) ?_
  refine va_alen hx hb hK hP 0 0 rfl rfl (zofnat n) dJ7_fill_53178_3 ?_
  refine lv_istore_n (lv' := [(3, .int (Int32.ofInt (n : Int))), (2, .int (Int32.ofInt ((0 : Nat) : Int))), (0, .ref a), (1, .int v)]) hx hb dJ7_fill_53178_4 rfl hl (by decide) rfl (fun ls hl => ?_)
  exact loop n 0 (by omega) f s.heap [] ls (fun j hj => absurd hj (Nat.not_lt_zero j)) hP hD hS (lv_sub hl [2, 3, 1, 0] rfl)
