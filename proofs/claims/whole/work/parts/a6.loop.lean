/-! ### the law's loop -/
section ZLOOP
variable {p : Program} {l : Launch} {e : Env} {s : State} {m : MethodId} {below : List Frame} {meth : Method} {c : Code} {b L : Nat} {xs : Nat → Int32} {ad : Nat → Nat} {ca : Nat → ClassId} {D : va_G}
set_option maxRecDepth 100000 in
set_option maxHeartbeats 4000000 in
/-- the switch: some call of both sides, or none -/
theorem law_switch {H : Heap} {locs : List Loc} {QQ : State → Prop} {ls : Array Slot} {M : zM} {X : zX} {B : Int} {i : Nat} (hL : L ≤ 3584) (C0 : lw_At p s m meth c b L xs) (hK : va_K D vwCl (ztys ca) s) (hN : zNw s) (hA : ∀ q, zA ad q → s.heap.size ≤ q) (hP : va_P D vwCl (zws ad ca M) H) (hD : va_D (zA ad) (zws ad ca M)) (hS : va_S (fun q : Nat => s.heap.size ≤ q) s.heap H locs) (hl : lv_has ls 4 [(0, .ref b), (1, .ref (ad 209)), (2, .ref (ad 374)), (3, .int (Int32.ofInt (i : Int)))]) (hi : i + 7 ≤ L) (hB : B ≤ 700000000) (hC : IC X M) (hI : IR X M) (hX : WX B X) (next : zlNext p l e s m below meth c b ad ca D QQ ls B) (x : Int32) (h0 : 0 ≤ x.toInt) : W p l e room_1 s m #[Value.ref b] below meth c H locs 600000 7302250 QQ (F0 m 33 ls [.int x]) := by
  obtain ⟨hx, hb, -⟩ := id C0
  rcases (show x.toInt = 0 ∨ x.toInt = 1 ∨ x.toInt = 2 ∨ x.toInt = 3 ∨ x.toInt = 4 ∨ x.toInt = 5 ∨ x.toInt = 6 ∨ x.toInt = 7 ∨ x.toInt = 8 ∨ x.toInt = 9 ∨ x.toInt = 10 ∨ x.toInt = 11 ∨ x.toInt = 12 ∨ x.toInt = 13 ∨ x.toInt = 14 ∨ x.toInt = 15 ∨ x.toInt = 16 ∨ x.toInt = 17 ∨ x.toInt = 18 ∨ x.toInt = 19 ∨ x.toInt = 20 ∨ x.toInt = 21 ∨ x.toInt = 22 ∨ x.toInt = 23 ∨ x.toInt = 24 ∨ 24 < x.toInt by omega) with z | z | z | z | z | z | z | z | z | z | z | z | z | z | z | z | z | z | z | z | z | z | z | z | z | z
  · exact lv_tableIn (off := 115) (tgt := 148) hx hb dL_law_33 (by rw [z]; decide) (by rw [z]; decide) (by rw [z]; rfl) (by decide) (law_0 hL C0 hK hN hA hP hD hS hl hi hB hC hI hX next)
  · exact lv_tableIn (off := 148) (tgt := 181) hx hb dL_law_33 (by rw [z]; decide) (by rw [z]; decide) (by rw [z]; rfl) (by decide) (law_1 hL C0 hK hN hA hP hD hS hl hi hB hC hI hX next)
  · exact lv_tableIn (off := 171) (tgt := 204) hx hb dL_law_33 (by rw [z]; decide) (by rw [z]; decide) (by rw [z]; rfl) (by decide) (law_2 hL C0 hK hN hA hP hD hS hl hi hB hC hI hX next)
  · exact lv_tableIn (off := 194) (tgt := 227) hx hb dL_law_33 (by rw [z]; decide) (by rw [z]; decide) (by rw [z]; rfl) (by decide) (law_3 hL C0 hK hN hA hP hD hS hl hi hB hC hI hX next)
  · exact lv_tableIn (off := 217) (tgt := 250) hx hb dL_law_33 (by rw [z]; decide) (by rw [z]; decide) (by rw [z]; rfl) (by decide) (law_4 hL C0 hK hN hA hP hD hS hl hi hB hC hI hX next)
  · exact lv_tableIn (off := 240) (tgt := 273) hx hb dL_law_33 (by rw [z]; decide) (by rw [z]; decide) (by rw [z]; rfl) (by decide) (law_5 hL C0 hK hN hA hP hD hS hl hi hB hC hI hX next)
  · exact lv_tableIn (off := 315) (tgt := 348) hx hb dL_law_33 (by rw [z]; decide) (by rw [z]; decide) (by rw [z]; rfl) (by decide) (law_6 hL C0 hK hN hA hP hD hS hl hi hB hC hI hX next)
  · exact lv_tableIn (off := 338) (tgt := 371) hx hb dL_law_33 (by rw [z]; decide) (by rw [z]; decide) (by rw [z]; rfl) (by decide) (law_7 hL C0 hK hN hA hP hD hS hl hi hB hC hI hX next)
  · exact lv_tableIn (off := 361) (tgt := 394) hx hb dL_law_33 (by rw [z]; decide) (by rw [z]; decide) (by rw [z]; rfl) (by decide) (law_8 hL C0 hK hN hA hP hD hS hl hi hB hC hI hX next)
  · exact lv_tableIn (off := 384) (tgt := 417) hx hb dL_law_33 (by rw [z]; decide) (by rw [z]; decide) (by rw [z]; rfl) (by decide) (law_9 hL C0 hK hN hA hP hD hS hl hi hB hC hI hX next)
  · exact lv_tableIn (off := 397) (tgt := 430) hx hb dL_law_33 (by rw [z]; decide) (by rw [z]; decide) (by rw [z]; rfl) (by decide) (law_10 hL C0 hK hN hA hP hD hS hl hi hB hC hI hX next)
  · exact lv_tableIn (off := 420) (tgt := 453) hx hb dL_law_33 (by rw [z]; decide) (by rw [z]; decide) (by rw [z]; rfl) (by decide) (law_11 hL C0 hK hN hA hP hD hS hl hi hB hC hI hX next)
  · exact lv_tableIn (off := 453) (tgt := 486) hx hb dL_law_33 (by rw [z]; decide) (by rw [z]; decide) (by rw [z]; rfl) (by decide) (law_12 hL C0 hK hN hA hP hD hS hl hi hB hC hI hX next)
  · exact lv_tableIn (off := 476) (tgt := 509) hx hb dL_law_33 (by rw [z]; decide) (by rw [z]; decide) (by rw [z]; rfl) (by decide) (law_13 hL C0 hK hN hA hP hD hS hl hi hB hC hI hX next)
  · exact lv_tableIn (off := 509) (tgt := 542) hx hb dL_law_33 (by rw [z]; decide) (by rw [z]; decide) (by rw [z]; rfl) (by decide) (law_14 hL C0 hK hN hA hP hD hS hl hi hB hC hI hX next)
  · exact lv_tableIn (off := 542) (tgt := 575) hx hb dL_law_33 (by rw [z]; decide) (by rw [z]; decide) (by rw [z]; rfl) (by decide) (law_15 hL C0 hK hN hA hP hD hS hl hi hB hC hI hX next)
  · exact lv_tableIn (off := 575) (tgt := 608) hx hb dL_law_33 (by rw [z]; decide) (by rw [z]; decide) (by rw [z]; rfl) (by decide) (law_16 hL C0 hK hN hA hP hD hS hl hi hB hC hI hX next)
  · exact lv_tableIn (off := 598) (tgt := 631) hx hb dL_law_33 (by rw [z]; decide) (by rw [z]; decide) (by rw [z]; rfl) (by decide) (law_17 hL C0 hK hN hA hP hD hS hl hi hB hC hI hX next)
  · exact lv_tableIn (off := 621) (tgt := 654) hx hb dL_law_33 (by rw [z]; decide) (by rw [z]; decide) (by rw [z]; rfl) (by decide) (law_18 hL C0 hK hN hA hP hD hS hl hi hB hC hI hX next)
  · exact lv_tableIn (off := 654) (tgt := 687) hx hb dL_law_33 (by rw [z]; decide) (by rw [z]; decide) (by rw [z]; rfl) (by decide) (law_19 hL C0 hK hN hA hP hD hS hl hi hB hC hI hX next)
  · exact lv_tableIn (off := 667) (tgt := 700) hx hb dL_law_33 (by rw [z]; decide) (by rw [z]; decide) (by rw [z]; rfl) (by decide) (law_20 hL C0 hK hN hA hP hD hS hl hi hB hC hI hX next)
  · exact lv_tableIn (off := 690) (tgt := 723) hx hb dL_law_33 (by rw [z]; decide) (by rw [z]; decide) (by rw [z]; rfl) (by decide) (law_21 hL C0 hK hN hA hP hD hS hl hi hB hC hI hX next)
  · exact lv_tableIn (off := 703) (tgt := 736) hx hb dL_law_33 (by rw [z]; decide) (by rw [z]; decide) (by rw [z]; rfl) (by decide) (law_22 hL C0 hK hN hA hP hD hS hl hi hB hC hI hX next)
  · exact lv_tableIn (off := 716) (tgt := 749) hx hb dL_law_33 (by rw [z]; decide) (by rw [z]; decide) (by rw [z]; rfl) (by decide) (law_23 hL C0 hK hN hA hP hD hS hl hi hB hC hI hX next)
  · exact lv_tableIn (off := 729) (tgt := 762) hx hb dL_law_33 (by rw [z]; decide) (by rw [z]; decide) (by rw [z]; rfl) (by decide) (law_24 hL C0 hK hN hA hP hD hS hl hi hB hC hI hX next)
  · exact lv_tableOut (tgt := 785) hx hb dL_law_33 (Or.inr z) (by decide) (next X M H locs hC hI (WX_mono (by omega) hX) hP hD hS)
set_option maxRecDepth 100000 in
set_option maxHeartbeats 4000000 in
theorem law_loop (hL : L ≤ 3584) (C0 : lw_At p s m meth c b L xs) (hK : va_K D vwCl (ztys ca) s) (hN : zNw s) (hA : ∀ q, zA ad q → s.heap.size ≤ q) : ∀ (n i : Nat) (B : Int) (X : zX) (M : zM) (H : Heap) (locs : List Loc) (ls : Array Slot), L ≤ i + 7 * n → B + 12000 * (n : Int) ≤ 700000000 → i ≤ L → IC X M → IR X M → WX B X → va_P D vwCl (zws ad ca M) H → va_D (zA ad) (zws ad ca M) → va_S (fun q : Nat => s.heap.size ≤ q) s.heap H locs → lv_has ls 4 [(0, .ref b), (1, .ref (ad 209)), (2, .ref (ad 374)), (3, .int (Int32.ofInt (i : Int)))] → W p l e room_1 s m #[Value.ref b] below meth c H locs 600000 7302250 (lw_Z below #[Value.ref b] s) (F0 m 18 ls []) := by
  intro n
  induction n with
  | zero =>
    intro i B X M H locs ls h1 h2 h3 hC hI hX hP hD hS hl
    obtain ⟨hx, hb, hr, hml, hown, hts, hXs, hbl, hlocks, hgv⟩ := id C0
    refine lv_iload_n hx hb dL_law_18 rfl (lv_at hl 3 rfl) ?_
    refine lv_aload_n hx hb dL_law_19 rfl (lv_at hl 0 rfl) ?_
    refine va_slen hx hb hXs hbl (Nat.not_le.mpr hbl) hS dL_law_20 ?_
    refine lv_bipush (v := Int32.ofInt 7) hx hb dL_law_21 (zi8 (by omega) (by omega)) ?_
    refine lv_isub hx hb dL_law_23 ?_
    rw [← Int32.ofInt_eq_ofNat, ← Int32.ofInt_sub]
    refine lv_icmp_gt (tgt := 791) hx hb dL_law_24 (by decide) (fun _ => ?_) (fun z => ?_)
    · refine va_forget hS.2.2 ?_
      refine lv_iconst (v := 1) hx hb dL_law_791 rfl ?_
      exact lw_ret hx hb hr hlocks dL_law_792
    · rw [zlt32 ⟨by omega, by omega⟩ ⟨by omega, by omega⟩] at z
      omega
  | succ n ih =>
    intro i B X M H locs ls h1 h2 h3 hC hI hX hP hD hS hl
    obtain ⟨hx, hb, hr, hml, hown, hts, hXs, hbl, hlocks, hgv⟩ := id C0
    refine lv_iload_n hx hb dL_law_18 rfl (lv_at hl 3 rfl) ?_
    refine lv_aload_n hx hb dL_law_19 rfl (lv_at hl 0 rfl) ?_
    refine va_slen hx hb hXs hbl (Nat.not_le.mpr hbl) hS dL_law_20 ?_
    refine lv_bipush (v := Int32.ofInt 7) hx hb dL_law_21 (zi8 (by omega) (by omega)) ?_
    refine lv_isub hx hb dL_law_23 ?_
    rw [← Int32.ofInt_eq_ofNat, ← Int32.ofInt_sub]
    refine lv_icmp_gt (tgt := 791) hx hb dL_law_24 (by decide) (fun _ => ?_) (fun z => ?_)
    · refine va_forget hS.2.2 ?_
      refine lv_iconst (v := 1) hx hb dL_law_791 rfl ?_
      exact lw_ret hx hb hr hlocks dL_law_792
    · rw [zlt32 ⟨by omega, by omega⟩ ⟨by omega, by omega⟩] at z
      refine lv_aload_n hx hb dL_law_27 rfl (lv_at hl 0 rfl) ?_
      refine lv_iload_n hx hb dL_law_28 rfl (lv_at hl 3 rfl) ?_
      refine zl_ld (j := i) hL C0 hS (by omega) dL_law_29 ?_
      refine lv_bipush (v := Int32.ofInt 31) hx hb dL_law_30 (zi8 (by omega) (by omega)) ?_
      refine lv_iand hx hb dL_law_32 ?_
      refine law_switch hL C0 hK hN hA hP hD hS hl (by omega) (by omega) hC hI hX (fun X2 M2 H2 locs2 c1 c2 c3 hP2 hD2 hS2 => ?_) _ (z31 _).1
      refine lv_iinc (v := Int32.ofInt ((i + 7 : Nat) : Int)) (lv' := [(3, .int (Int32.ofInt ((i + 7 : Nat) : Int))), (0, .ref b), (1, .ref (ad 209)), (2, .ref (ad 374))]) hx hb dL_law_785 hl (k := 3) rfl (by rw [← Int32.ofInt_add]; rfl) (by decide) rfl (fun ls hl => ?_)
      refine lv_goto (tgt := 18) hx hb dL_law_788 (by decide) ?_
      exact ih (i + 7) (B + 12000) X2 M2 H2 locs2 ls (by omega) (by omega) (by omega) c1 c2 c3 hP2 hD2 hS2 (lv_sub hl [1, 2, 3, 0] rfl)
end ZLOOP
