/-! ### the start: nothing in the world, nothing kept -/
def Sz : zM := fun b j => if b = 1 then -1 else if b = 6 then -5 else if b = 8 ∧ j < 2 then -1 else if (b = 9 ∨ b = 10 ∨ b = 11) ∧ j = 1 then -5 else 0
def Xz : zX := fun k => if k = 0 then Sz else fun _ _ => 0
/-- a world's cells at its start -/
def Mw (i j : Nat) : Int := if i = 0 ∧ (j = 9 ∨ j = 10) then -5 else if i = 1 then -1 else if i = 2 ∨ i = 3 then -5 else if (i = 10 ∨ i = 13 ∨ i = 16) ∧ j = 3 then -5 else 0
def Mz : zM := fun a j => if a < 209 then Mw (a % 19) j else if a = 209 ∧ (j = 11 ∨ j = 12) then -5 else if a = 215 ∧ j = 3 then -5 else if a = 375 ∧ (j = 1 ∨ j = 2) then -1 else 0
theorem Sz_1 (j : Nat) : Sz 1 j = -1 := rfl
theorem Sz_6 (j : Nat) : Sz 6 j = -5 := rfl
theorem Sz_o {b j : Nat} (h1 : b ≠ 1) (h6 : b ≠ 6) (h8 : b ≠ 8 ∨ 2 ≤ j) (h9 : (b ≠ 9 ∧ b ≠ 10 ∧ b ≠ 11) ∨ j ≠ 1) : Sz b j = 0 := by
  unfold Sz
  rw [if_neg h1, if_neg h6, if_neg (by omega), if_neg (by omega)]
theorem Mz_w {a j : Nat} (h : a < 209) : Mz a j = Mw (a % 19) j := if_pos h
theorem Mz_o {a j : Nat} (h : 209 ≤ a) (h1 : a ≠ 209 ∨ (j ≠ 11 ∧ j ≠ 12)) (h2 : a ≠ 215 ∨ j ≠ 3) (h3 : a ≠ 375 ∨ (j ≠ 1 ∧ j ≠ 2)) : Mz a j = 0 := by
  unfold Mz
  rw [if_neg (by omega), if_neg (by omega), if_neg (by omega), if_neg (by omega)]
theorem Mw_o {i j : Nat} (h0 : i ≠ 0 ∨ (j ≠ 9 ∧ j ≠ 10)) (h1 : i ≠ 1) (h2 : i ≠ 2 ∧ i ≠ 3) (h3 : (i ≠ 10 ∧ i ≠ 13 ∧ i ≠ 16) ∨ j ≠ 3) : Mw i j = 0 := by
  unfold Mw
  rw [if_neg (by omega), if_neg h1, if_neg (by omega), if_neg (by omega)]
theorem Sz_on (c : Nat) : onS Sz c = -1 := onS_none.mpr (fun k hk => by rw [Sz_1]; omega)
theorem Sz_sum : ∀ n : Nat, sumW Sz n = 0
  | 0 => rfl
  | n + 1 => by
    show sumW Sz n + Sz 0 n = 0
    rw [Sz_sum n, Sz_o (by omega) (by omega) (by omega) (by omega)]
    rfl
theorem Sz_ok : Wb 0 Sz := by
  refine ⟨⟨fun c _ => Or.inl (Sz_o (by omega) (by omega) (by omega) (by omega)), fun m _ => by rw [Sz_1]; omega, fun m _ _ => ?_, fun m _ h => by rw [Sz_1] at h; omega, fun m k _ _ h => by rw [Sz_1] at h; omega, ⟨by rw [Sz_o (by omega) (by omega) (by omega) (by omega)]; omega, by rw [Sz_o (by omega) (by omega) (by omega) (by omega)]; omega, ?_⟩, ?_, ?_, ?_, fun j hj => ?_⟩, ?_, fun m _ => ?_⟩
  · exact ⟨rfl, Sz_o (by omega) (by omega) (by omega) (by omega), Sz_o (by omega) (by omega) (by omega) (by omega), Sz_o (by omega) (by omega) (by omega) (by omega), Sz_o (by omega) (by omega) (by omega) (by omega), rfl⟩
  · rw [cnt_zero Sz 10 (fun m _ => by rw [Sz_1]; omega), Sz_o (by omega) (by omega) (by omega) (by omega), Sz_o (by omega) (by omega) (by omega) (by omega)]
    rfl
  · show -1 ≤ (-1 : Int) ∧ (-1 : Int) < 10; omega
  · show -1 ≤ (-1 : Int) ∧ (-1 : Int) < 120; omega
  · show 0 ≤ (0 : Int) ∧ (0 : Int) < 3; omega
  · have h0 : Sz (9 + j) 0 = 0 := Sz_o (by omega) (by omega) (by omega) (by omega)
    have h1 : Sz (9 + j) 1 = -5 := by
      rcases (show j = 0 ∨ j = 1 ∨ j = 2 by omega) with rfl | rfl | rfl <;> rfl
    rw [h0, h1]
    exact ⟨by omega, by omega, fun _ => rfl, fun h => by omega, fun s hs => by omega⟩
  · rw [Sz_sum, Sz_o (by omega) (by omega) (by omega) (by omega)]
  · rw [Sz_o (by omega) (by omega) (by omega) (by omega)]; omega
theorem Xz_ok : WX 0 Xz := ⟨Sz_ok, ⟨Int.le_refl 0, by show (0 : Int) ≤ 8; omega⟩, fun k k1 k2 => by have k2 : (k : Int) ≤ 0 := k2; omega, Or.inl rfl, fun h => by have h : (0 : Int) = 1 := h; omega, ⟨Int.le_refl 0, by show (0 : Int) ≤ 60; omega⟩, fun j hj => by have hj : (j : Int) < 0 := hj; omega, ⟨Int.le_refl 0, by show (0 : Int) ≤ 6; omega⟩⟩
theorem Mz_C : RelC Mz 0 Sz := by
  have z : ∀ b j : Nat, 1 ≤ b → b < 19 → Mz b j = Mw b j := fun b j h1 h2 => by rw [Mz_w (by omega), Nat.mod_eq_of_lt h2]
  refine ⟨fun c _ => ?_, fun m _ => ?_, fun m _ => ?_, fun m _ => ?_, fun m _ => ?_, fun m _ => ?_, fun m _ => ?_, fun k _ => ?_, rfl, rfl, rfl, fun j hj => ?_⟩
  · rw [Sz_on, Sz_o (by omega) (by omega) (by omega) (by omega), z _ _ (by omega) (by omega)]
    rfl
  · rw [Sz_1, z _ _ (by omega) (by omega)]
    rfl
  · rw [Sz_6, z _ _ (by omega) (by omega)]
    rfl
  · rw [Sz_o (by omega) (by omega) (by omega) (by omega), z _ _ (by omega) (by omega), Mw_o (by omega) (by omega) (by omega) (by omega)]
  · rw [Sz_o (by omega) (by omega) (by omega) (by omega), z _ _ (by omega) (by omega), Mw_o (by omega) (by omega) (by omega) (by omega)]
  · rw [Sz_o (by omega) (by omega) (by omega) (by omega), z _ _ (by omega) (by omega), Mw_o (by omega) (by omega) (by omega) (by omega)]
  · rw [Sz_o (by omega) (by omega) (by omega) (by omega), z _ _ (by omega) (by omega), Mw_o (by omega) (by omega) (by omega) (by omega)]
  · rw [Sz_o (by omega) (by omega) (by omega) (by omega), z _ _ (by omega) (by omega), Mw_o (by omega) (by omega) (by omega) (by omega)]
  · rcases (show j = 0 ∨ j = 1 ∨ j = 2 by omega) with rfl | rfl | rfl
    · exact ⟨rfl, rfl, fun s _ => ⟨by rw [Sz_o (by omega) (by omega) (by omega) (by omega), z _ _ (by omega) (by omega), Mw_o (by omega) (by omega) (by omega) (by omega)], by rw [Sz_o (by omega) (by omega) (by omega) (by omega), z _ _ (by omega) (by omega), Mw_o (by omega) (by omega) (by omega) (by omega)]⟩⟩
    · exact ⟨rfl, rfl, fun s _ => ⟨by rw [Sz_o (by omega) (by omega) (by omega) (by omega), z _ _ (by omega) (by omega), Mw_o (by omega) (by omega) (by omega) (by omega)], by rw [Sz_o (by omega) (by omega) (by omega) (by omega), z _ _ (by omega) (by omega), Mw_o (by omega) (by omega) (by omega) (by omega)]⟩⟩
    · exact ⟨rfl, rfl, fun s _ => ⟨by rw [Sz_o (by omega) (by omega) (by omega) (by omega), z _ _ (by omega) (by omega), Mw_o (by omega) (by omega) (by omega) (by omega)], by rw [Sz_o (by omega) (by omega) (by omega) (by omega), z _ _ (by omega) (by omega), Mw_o (by omega) (by omega) (by omega) (by omega)]⟩⟩
theorem Mz_IC : IC Xz Mz := by
  refine ⟨Mz_C, fun s _ => ⟨Or.inl (Mz_o (by omega) (by omega) (by omega) (by omega)), fun h => ?_⟩, ⟨0, by omega, rfl, rfl, fun k k1 k2 => ?_⟩, rfl, fun h => ?_, rfl, fun j hj => ?_, rfl, rfl⟩
  · rw [Mz_o (by omega) (by omega) (by omega) (by omega)] at h; omega
  · have k2 : (k : Int) ≤ 0 := k2; omega
  · have h : (0 : Int) = 1 := h; omega
  · have hj : (j : Int) < 0 := hj; omega
theorem Mz_IR : IR Xz Mz := by
  refine ⟨⟨⟨⟨rfl, rfl, rfl, rfl⟩, fun k _ _ _ => ?_, fun m _ h => ?_, fun c _ => ?_, fun j hj => ⟨?_, fun h => ?_, fun s h => ?_⟩⟩, rfl⟩, rfl, fun k k1 k2 => ?_, rfl, fun h => ?_, rfl, fun j hj => ?_, rfl, fun h => absurd rfl h⟩
  · show Mz 375 (0 + 4 + k) = Sz 7 k
    rw [Sz_o (by omega) (by omega) (by omega) (by omega), Mz_o (by omega) (by omega) (by omega) (by omega)]
  · have h : (m : Int) < 0 := h; omega
  · show Mz 375 (0 + 72 + c) = Sz 0 c
    rw [Sz_o (by omega) (by omega) (by omega) (by omega), Mz_o (by omega) (by omega) (by omega) (by omega)]
  · show Mz 375 (0 + 192 + 22 * j) = Sz (9 + j) 0
    rw [Sz_o (by omega) (by omega) (by omega) (by omega), Mz_o (by omega) (by omega) (by omega) (by omega)]
  · have h : 0 < Sz (9 + j) 0 := h
    rw [Sz_o (by omega) (by omega) (by omega) (by omega)] at h; omega
  · have h : (s : Int) < Sz (9 + j) 0 := h
    rw [Sz_o (by omega) (by omega) (by omega) (by omega)] at h; omega
  · have k2 : (k : Int) ≤ 0 := k2; omega
  · have h : (0 : Int) = 1 := h; omega
  · have hj : (j : Int) < 0 := hj; omega
