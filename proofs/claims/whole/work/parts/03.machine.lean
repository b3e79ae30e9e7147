/-! An abstract machine for this class and its reference: whole numbers instead of ints and longs, cells by numbers (0 to 387) instead of addresses; its methods run as least fixed points over the instructions that decode reads. -/
abbrev zV : Type := Int ⊕ (Int ⊕ Nat)
abbrev zM : Type := Nat → Nat → Int
abbrev zL : Type := List (Option zV)
abbrev zQ : Type := Option zV → zM → Prop
abbrev zC : Type := Nat → List zV → zM → zQ → Prop
def zcv (ad : Nat → Nat) : zV → Value
  | .inl x => .int (Int32.ofInt x)
  | .inr (.inl x) => .long (Int64.ofInt x)
  | .inr (.inr a) => .ref (ad a)
def zrg (x : Int) : Prop := -2147483648 ≤ x ∧ x < 2147483648
def zrl (x : Int) : Prop := -9223372036854775808 ≤ x ∧ x < 9223372036854775808
def zbl (x : Int) : Prop := x = 0 ∨ x = 1
theorem zrg_toInt {x : Int} (h : zrg x) : (Int32.ofInt x).toInt = x := by
  obtain ⟨h1, h2⟩ := h
  exact Int32.toInt_ofInt_of_le (by omega) (by omega)
theorem zrl_toInt {x : Int} (h : zrl x) : (Int64.ofInt x).toInt = x := by
  obtain ⟨h1, h2⟩ := h
  exact Int64.toInt_ofInt_of_le (by omega) (by omega)
theorem zlt32 {x y : Int} (hx : zrg x) (hy : zrg y) : Int32.ofInt x < Int32.ofInt y ↔ x < y := by
  rw [Int32.lt_iff_toInt_lt, zrg_toInt hx, zrg_toInt hy]
theorem zle32 {x y : Int} (hx : zrg x) (hy : zrg y) : Int32.ofInt x ≤ Int32.ofInt y ↔ x ≤ y := by
  rw [Int32.le_iff_toInt_le, zrg_toInt hx, zrg_toInt hy]
theorem zeq32 {x y : Int} (hx : zrg x) (hy : zrg y) : Int32.ofInt x = Int32.ofInt y ↔ x = y := by
  rw [← Int32.toInt_inj, zrg_toInt hx, zrg_toInt hy]
theorem zlt64 {x y : Int} (hx : zrl x) (hy : zrl y) : Int64.ofInt x < Int64.ofInt y ↔ x < y := by
  rw [Int64.lt_iff_toInt_lt, zrl_toInt hx, zrl_toInt hy]
theorem zeq64 {x y : Int} (hx : zrl x) (hy : zrl y) : Int64.ofInt x = Int64.ofInt y ↔ x = y := by
  rw [← Int64.toInt_inj, zrl_toInt hx, zrl_toInt hy]
theorem znat {x : Int} (h0 : 0 ≤ x) (h1 : x < 2147483648) : (Int32.ofInt x).toNatClampNeg = x.toNat := by
  show (Int32.ofInt x).toInt.toNat = x.toNat
  rw [zrg_toInt ⟨by omega, h1⟩]
theorem zvin {x : Int} {n : Nat} (hn : n < 2147483648) (h0 : 0 ≤ x) (h1 : x < (n : Int)) : vp_in (Int32.ofInt x) n := by
  intro h
  rcases h with h | h
  · have : Int32.ofInt x < Int32.ofInt 0 := h
    rw [zlt32 ⟨by omega, by omega⟩ ⟨by omega, by omega⟩] at this
    omega
  · rw [znat h0 (by omega)] at h
    omega
theorem zdiv32 {x y : Int} (hx : 0 ≤ x) (hx2 : zrg x) (hy : 0 < y) (hy2 : zrg y) : Int32.ofInt x / Int32.ofInt y = Int32.ofInt (x / y) := by
  obtain ⟨-, hx3⟩ := hx2
  have h3 : x / y ≤ x := Int.ediv_le_self y hx
  have h4 : 0 ≤ x / y := Int.ediv_nonneg hx (Int.le_of_lt hy)
  apply Int32.toInt_inj.mp
  rw [Int32.toInt_div, zrg_toInt ⟨by omega, hx3⟩, zrg_toInt hy2, zrg_toInt ⟨by omega, by omega⟩, Int.tdiv_eq_ediv_of_nonneg hx]
  exact Int.bmod_eq_of_le (by omega) (by omega)
theorem zmod32 {x y : Int} (hx : 0 ≤ x) (hx2 : zrg x) (hy : 0 < y) (hy2 : zrg y) : Int32.ofInt x % Int32.ofInt y = Int32.ofInt (x % y) := by
  obtain ⟨-, hx3⟩ := hx2
  have h3 : x % y < y := Int.emod_lt_of_pos x hy
  have h4 : 0 ≤ x % y := Int.emod_nonneg x (by omega)
  have h5 := hy2.2
  apply Int32.toInt_inj.mp
  rw [Int32.toInt_mod, zrg_toInt ⟨by omega, hx3⟩, zrg_toInt hy2, zrg_toInt ⟨by omega, by omega⟩, Int.tmod_eq_emod_of_nonneg hx]
theorem z32 (v : Int32) : Int32.ofInt v.toInt = v := Int32.ofInt_toInt v
theorem z32rg (v : Int32) : zrg v.toInt := ⟨by have := Int32.le_toInt v; omega, by have := Int32.toInt_lt v; omega⟩
theorem zi8 {n : Int} (h1 : -128 ≤ n) (h2 : n < 128) : (Int8.ofInt n).toInt32 = Int32.ofInt n := by
  apply Int32.toInt_inj.mp
  rw [Int8.toInt_toInt32, Int8.toInt_ofInt_of_le (by omega) (by omega), zrg_toInt ⟨by omega, by omega⟩]
theorem zi16 {n : Int} (h1 : -32768 ≤ n) (h2 : n < 32768) : (Int16.ofInt n).toInt32 = Int32.ofInt n := by
  apply Int32.toInt_inj.mp
  rw [Int16.toInt_toInt32, Int16.toInt_ofInt_of_le (by omega) (by omega), zrg_toInt ⟨by omega, by omega⟩]
theorem zi2l {x : Int} (h : zrg x) : (Int32.ofInt x).toInt64 = Int64.ofInt x := by
  apply Int64.toInt_inj.mp
  rw [Int32.toInt_toInt64, zrg_toInt h, zrl_toInt ⟨by have := h.1; omega, by have := h.2; omega⟩]
theorem zlcmp {x y : Int} (hx : zrl x) (hy : zrl y) : lg_cmp (Int64.ofInt x) (Int64.ofInt y) = Int32.ofInt (if y < x then 1 else if x = y then 0 else -1) := by
  unfold lg_cmp
  have h1 : Int64.ofInt x > Int64.ofInt y ↔ y < x := zlt64 hy hx
  have h2 : Int64.ofInt x = Int64.ofInt y ↔ x = y := zeq64 hx hy
  by_cases a : y < x
  · rw [if_pos (h1.mpr a), if_pos a]; rfl
  · rw [if_neg (fun q => a (h1.mp q)), if_neg a]
    by_cases b : x = y
    · rw [if_pos (h2.mpr b), if_pos b]; rfl
    · rw [if_neg (fun q => b (h2.mp q)), if_neg b]; rfl
/-! ### the cells -/
/-- what the cell a is: (0, n) ints, (1, n) booleans, (2, n) longs, (3, n, [kind, first, stride]) references, (4, class, fields: 0 an int, r + 1 the cell r) an object -/
def zkW (a : Nat) : Nat → Nat × Nat × List Nat
  | 0 => (4, 9, [a + 2, a + 3, a + 4, a + 5, a + 6, a + 7, a + 8, a + 9, a + 10, 0, 0, 0])
  | 1 => (0, 120, [])
  | 8 => (0, 8, [])
  | 9 => (3, 3, [5, a + 1, 3])
  | 10 => (4, 4, [a + 2, a + 3, 0, 0])
  | 13 => (4, 4, [a + 2, a + 3, 0, 0])
  | 16 => (4, 4, [a + 2, a + 3, 0, 0])
  | _ => (0, 10, [])
def zkT : List (Nat × Nat × List Nat) := [
  (4, 10, [1, 20, 39, 0, 211, 213, 215, 219, 223, 227, 252, 0, 0]),
  (4, 3, [0, 212, 0]), (3, 8, [6, 57, 19]),
  (4, 6, [0, 214]), (0, 60, []),
  (4, 5, [216, 0, 0]), (4, 4, [217, 218, 0, 0]), (0, 10, []), (0, 10, []),
  (4, 0, [220, 221, 222, 0, 0]), (0, 30, []), (0, 30, []), (0, 30, []),
  (4, 8, [1, 224, 225, 226]), (3, 120, [3, 254, 1]), (1, 120, []), (0, 120, []),
  (4, 1, [228, 229, 230, 0, 0, 0, 1, 223, 234, 231, 0, 232, 233]), (0, 10, []), (0, 10, []), (0, 10, []), (0, 10, []), (0, 10, []), (0, 512, []),
  (4, 2, [235, 236, 237, 238, 239, 240, 251]), (3, 10, [4, 240, 1]), (0, 20, []), (2, 10, []), (2, 20, []), (2, 20, []), (0, 20, []),
  (2, 20, []), (2, 20, []), (2, 20, []), (2, 20, []), (2, 20, []), (2, 20, []), (2, 20, []), (2, 20, []), (2, 20, []), (2, 20, []), (1, 20, []),
  (4, 7, [1, 223, 227, 253, 254, 0]), (0, 10, []), (0, 10, [])]
def zkR : List (Nat × Nat × List Nat) := [
  (4, 11, [376, 0, 0, 377, 378, 379, 380, 381, 0, 0, 382, 383, 384, 385, 386, 0, 0, 0, 387, 388, 0, 0, 0, 0, 0]),
  (0, 2838, []), (0, 1440, []), (0, 120, []), (0, 10, []), (0, 11264, []), (0, 10, []), (0, 100, []), (0, 10, []), (0, 10, []), (0, 10, []), (0, 60, []), (0, 22, []), (0, 180, [])]
def zk (a : Nat) : Nat × Nat × List Nat :=
  if a < 209 then zkW a (a % 19)
  else if a < 254 then zkT.getD (a - 209) (5, 0, [])
  else if a < 374 then (0, 120, [])
  else zkR.getD (a - 374) (5, 0, [])
def zfv (ad : Nat → Nat) (f : Nat → Int) : List Nat → Nat → List Value
  | [], _ => []
  | r :: rs, k => (match r with | 0 => .int (Int32.ofInt (f k)) | q + 1 => .ref (ad q)) :: zfv ad f rs (k + 1)
def zcl1 (ad : Nat → Nat) (ca : Nat → ClassId) (f : Nat → Int) : Nat × Nat × List Nat → va_E
  | (0, n, _) => .inl (ca 0, n, .inl (fun j => Int32.ofInt (f j)))
  | (1, n, _) => .inl (ca 1, n, .inl (fun j => Int32.ofInt (f j)))
  | (2, n, _) => .inl (ca 2, n, .inr (.inl (fun j => Int64.ofInt (f j))))
  | (3, n, fs) => .inl (ca (fs.getD 0 0), n, .inr (.inr (.inr (.inr (fun i => some (ad (fs.getD 1 0 + fs.getD 2 0 * i)))))))
  | (4, c, fs) => .inr (c, zfv ad f fs 0)
  | _ => .inl (ca 0, 0, .inl (fun _ => 0))
def zcell (ad : Nat → Nat) (ca : Nat → ClassId) (M : zM) (a : Nat) : va_E := zcl1 ad ca (M a) (zk a)
def zN : Nat := 388
def zws (ad : Nat → Nat) (ca : Nat → ClassId) (M : zM) : va_W := (List.range zN).map (fun a => (ad a, zcell ad ca M a))
def zA (ad : Nat → Nat) : Nat → Prop := fun q => ∃ a, a < zN ∧ q = ad a
def ztys (ca : Nat → ClassId) : List (ClassId × FieldType) := [(ca 0, .int), (ca 1, .boolean), (ca 2, .long), (ca 3, .array .int), (ca 4, .array .long), (ca 5, .object "SwarmPlanner$Shape"), (ca 6, .object "SwarmPlanner$World")]
def zup (M : zM) (a k : Nat) (x : Int) : zM := fun b j => if b = a ∧ j = k then x else M b j
def zrow (M : zM) (a : Nat) (f : Nat → Int) : zM := fun b => if b = a then f else M b
theorem zws_get {ad : Nat → Nat} {ca : Nat → ClassId} {M : zM} {a : Nat} (h : a < zN) : (zws ad ca M)[a]? = some (ad a, zcell ad ca M a) := by
  simp [zws, List.getElem?_range h]
theorem zws_len {ad : Nat → Nat} {ca : Nat → ClassId} {M : zM} : (zws ad ca M).length = zN := by simp [zws]
theorem zws_set {ad : Nat → Nat} {ca : Nat → ClassId} {M M' : zM} {a : Nat} {e : va_E} (h : a < zN) (h1 : zcell ad ca M' a = e) (h2 : ∀ b, b ≠ a → M' b = M b) : (zws ad ca M).set a (ad a, e) = zws ad ca M' := by
  apply List.ext_getElem?
  intro j
  by_cases hj : j = a
  · subst hj
    rw [List.getElem?_set_self (by rw [zws_len]; exact h), zws_get h, h1]
  · rw [List.getElem?_set_ne (Ne.symm hj)]
    by_cases hl : j < zN
    · rw [zws_get hl, zws_get hl]
      unfold zcell
      rw [h2 j hj]
    · rw [List.getElem?_eq_none (by rw [zws_len]; omega), List.getElem?_eq_none (by rw [zws_len]; omega)]
theorem zup_self (M : zM) (a k : Nat) (x : Int) : (zup M a k x) a = fun j => if j = k then x else M a j := by
  funext j; simp [zup]
theorem zup_ne (M : zM) {a b : Nat} (k : Nat) (x : Int) (h : b ≠ a) : (zup M a k x) b = M b := by
  funext j; simp [zup, h]
theorem zrow_self (M : zM) (a : Nat) (f : Nat → Int) : zrow M a f a = f := by simp [zrow]
theorem zrow_ne (M : zM) {a b : Nat} (f : Nat → Int) (h : b ≠ a) : zrow M a f b = M b := by simp [zrow, h]
/-- every cell's length is small, and every number of a cell in it is one of the cells -/
def zk_ok (a : Nat) : Bool := match zk a with
  | (3, n, fs) => fs.length == 3 && decide (n ≤ 20000) && (List.range n).all (fun i => decide (fs.getD 1 0 + fs.getD 2 0 * i < zN)) && decide (3 ≤ fs.getD 0 0 ∧ fs.getD 0 0 < 7)
  | (4, c, fs) => fs.all (fun r => decide (r ≤ zN)) && decide (c < 12) && (match vwCl[c]? with | some q => q.2.2 == fs.length | none => false)
  | (t, n, _) => decide (t < 3) && decide (n ≤ 20000)
set_option maxRecDepth 100000 in
theorem zk_all : (List.range zN).all zk_ok = true := by decide +kernel
theorem zk_out {a : Nat} (h : ¬ a < zN) : zk a = (5, 0, []) := by
  have h : ¬ a < 388 := h
  unfold zk
  rw [if_neg (by omega), if_neg (by omega), if_neg (by omega)]
  rw [List.getD_eq_getElem?_getD, List.getElem?_eq_none (by show zkR.length ≤ _; simp [zkR]; omega)]
  rfl
theorem zk_in {a : Nat} (h : zk a ≠ (5, 0, [])) : a < zN := Classical.byContradiction fun q => h (zk_out q)
theorem zk_okq {a : Nat} (h : a < zN) : zk_ok a = true := List.all_eq_true.mp zk_all a (List.mem_range.mpr h)
/-! ### the instructions -/
/-- an object's class and one: 0 where the cell is no object -/
def zkc (a : Nat) : Nat := match zk a with
  | (4, c, _) => c + 1
  | _ => 0
/-- an object's field: none, some 0 (an int), some (r + 1) (the cell r) -/
def zkf (a k : Nat) : Option Nat := match zk a with
  | (4, _, fs) => fs[k]?
  | _ => none
def zin (t a : Nat) (i : Int) : Prop := (zk a).1 = t ∧ 0 ≤ i ∧ i < ((zk a).2.1 : Int)
def zcat : zV → Nat
  | .inr (.inl _) => 2
  | _ => 1
def zcs (st : List zV) : Prop := (st.map zcat).sum ≤ 8
def zget : zL → Nat → Option zV
  | [], _ => none
  | v :: _, 0 => v
  | _ :: l, i + 1 => zget l i
/-- no long -/
def znl : Option zV → Prop
  | some (.inr (.inl _)) => False
  | _ => True
/-- the locals with an int or a reference in place i -/
def zs1 : zL → Nat → zV → (zL → Prop) → Prop
  | [], _, _, _ => False
  | _ :: l, 0, v, κ => κ (some v :: l)
  | w :: _ :: l, 1, v, κ => znl w ∧ κ (w :: some v :: l)
  | w :: l, i + 1, v, κ => zs1 l i v (fun l' => κ (w :: l'))
/-- the locals with a long in place i -/
def zs2 : zL → Nat → zV → (zL → Prop) → Prop
  | _ :: _ :: l, 0, v, κ => κ (some v :: none :: l)
  | w :: _ :: _ :: l, 1, v, κ => znl w ∧ κ (w :: some v :: none :: l)
  | w :: l, i + 1, v, κ => zs2 l i v (fun l' => κ (w :: l'))
  | _, _, _, _ => False
def zgi (l : zL) (i : Nat) (κ : Int → Prop) : Prop := match zget l i with
  | some (.inl x) => κ x
  | _ => False
def zgl (l : zL) (i : Nat) (κ : Int → Prop) : Prop := match zget l i with
  | some (.inr (.inl x)) => κ x
  | _ => False
def zgr (l : zL) (i : Nat) (κ : Nat → Prop) : Prop := match zget l i with
  | some (.inr (.inr a)) => κ a
  | _ => False
def zI1 (st : List zV) (κ : Int → List zV → Prop) : Prop := match st with
  | .inl x :: st => κ x st
  | _ => False
def zI2 (st : List zV) (κ : Int → Int → List zV → Prop) : Prop := match st with
  | .inl y :: .inl x :: st => κ x y st
  | _ => False
def zL1 (st : List zV) (κ : Int → List zV → Prop) : Prop := match st with
  | .inr (.inl x) :: st => κ x st
  | _ => False
def zL2 (st : List zV) (κ : Int → Int → List zV → Prop) : Prop := match st with
  | .inr (.inl y) :: .inr (.inl x) :: st => κ x y st
  | _ => False
def zR1 (st : List zV) (κ : Nat → List zV → Prop) : Prop := match st with
  | .inr (.inr a) :: st => κ a st
  | _ => False
def zpop : Nat → List zV → (List zV → List zV → Prop) → Prop
  | 0, st, κ => κ [] st
  | n + 1, v :: st, κ => zpop n st (fun as rest => κ (as ++ [v]) rest)
  | _ + 1, [], _ => False
def zjmp (pc : Nat) (off : Int) (κ : Nat → Prop) : Prop := 0 ≤ (pc : Int) + off ∧ κ ((pc : Int) + off).toNat
/-- a branch on whether c holds -/
def zbr (pc : Nat) (off : Int) (c : Prop) (κ : Nat → Prop) : Prop := 0 ≤ (pc : Int) + off ∧ (c → κ ((pc : Int) + off).toNat) ∧ (¬ c → κ (pc + 3))
def zcmp (o : Jvm.ClassFile.Cond) (x y : Int) : Prop := match o with
  | .eq => x = y
  | .ne => x ≠ y
  | .lt => x < y
  | .ge => x ≥ y
  | .gt => x > y
  | .le => x ≤ y
