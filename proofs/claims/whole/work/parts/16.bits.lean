/-! ### bits of sets -/
theorem zb_tst : ∀ s : Nat, s < 10 → ∀ set : Nat, set < 1024 → zand (zshr (set : Int) (s : Int)) 1 = if set.testBit s = true then 1 else 0 := by decide +kernel
theorem zb_rm : ∀ s : Nat, s < 10 → ∀ set : Nat, set < 1024 → set.testBit s = true → zand (set : Int) (zxor (zshl 1 (s : Int)) (-1)) = ((set ^^^ 2 ^ s : Nat) : Int) ∧ set ^^^ 2 ^ s < set := by decide +kernel
theorem zb_or : ∀ s : Nat, s < 10 → ∀ set : Nat, set < 1024 → zor (set : Int) (zshl 1 (s : Int)) = ((set ||| 2 ^ s : Nat) : Int) := by decide +kernel
theorem zb_shl : ∀ s : Nat, s < 11 → zshl 1 (s : Int) = ((2 ^ s : Nat) : Int) ∧ 2 ^ s ≤ 1024 := by decide +kernel
