/-! ### one instruction: what must hold so that the machine goes on with k, or ends with Q -/
def zst (call : zC) (own : Nat) (ret : Option FieldType) (Q : zQ) (k : Nat → zL → List zV → zM → Prop) (pc : Nat) (l : zL) (st : List zV) (M : zM) (i : Instr) (len : Nat) : Prop :=
  match i with
  | .iconst n => len = 1 ∧ k (pc + 1) l (.inl n :: st) M
  | .bipush n => len = 2 ∧ (-128 ≤ n ∧ n < 128) ∧ k (pc + 2) l (.inl n :: st) M
  | .sipush n => len = 3 ∧ (-32768 ≤ n ∧ n < 32768) ∧ k (pc + 3) l (.inl n :: st) M
  | .lconst n => len = 1 ∧ k (pc + 1) l (.inr (.inl (n : Nat)) :: st) M
  | .ldc2_w idx => len = 3 ∧ (match zlc own idx with | some v => k (pc + 3) l (.inr (.inl v) :: st) M | none => False)
  | .iload_n j => len = 1 ∧ zgi l j (fun x => k (pc + 1) l (.inl x :: st) M)
  | .iload j => len = 2 ∧ zgi l j (fun x => k (pc + 2) l (.inl x :: st) M)
  | .lload_n j => len = 1 ∧ zgl l j (fun x => k (pc + 1) l (.inr (.inl x) :: st) M)
  | .lload j => len = 2 ∧ zgl l j (fun x => k (pc + 2) l (.inr (.inl x) :: st) M)
  | .aload_n j => len = 1 ∧ zgr l j (fun x => k (pc + 1) l (.inr (.inr x) :: st) M)
  | .aload j => len = 2 ∧ zgr l j (fun x => k (pc + 2) l (.inr (.inr x) :: st) M)
  | .istore_n j => len = 1 ∧ zI1 st (fun x st => zs1 l j (.inl x) (fun l => k (pc + 1) l st M))
  | .istore j => len = 2 ∧ zI1 st (fun x st => zs1 l j (.inl x) (fun l => k (pc + 2) l st M))
  | .lstore_n j => len = 1 ∧ zL1 st (fun x st => zs2 l j (.inr (.inl x)) (fun l => k (pc + 1) l st M))
  | .lstore j => len = 2 ∧ zL1 st (fun x st => zs2 l j (.inr (.inl x)) (fun l => k (pc + 2) l st M))
  | .astore_n j => len = 1 ∧ zR1 st (fun x st => zs1 l j (.inr (.inr x)) (fun l => k (pc + 1) l st M))
  | .astore j => len = 2 ∧ zR1 st (fun x st => zs1 l j (.inr (.inr x)) (fun l => k (pc + 2) l st M))
  | .iinc j n => len = 3 ∧ zgi l j (fun x => zs1 l j (.inl (x + n)) (fun l => k (pc + 3) l st M))
  | .iadd => len = 1 ∧ zI2 st (fun x y st => k (pc + 1) l (.inl (x + y) :: st) M)
  | .isub => len = 1 ∧ zI2 st (fun x y st => k (pc + 1) l (.inl (x - y) :: st) M)
  | .imul => len = 1 ∧ zI2 st (fun x y st => k (pc + 1) l (.inl (x * y) :: st) M)
  | .idiv => len = 1 ∧ zI2 st (fun x y st => (0 ≤ x ∧ zrg x ∧ 0 < y ∧ zrg y) ∧ k (pc + 1) l (.inl (x / y) :: st) M)
  | .irem => len = 1 ∧ zI2 st (fun x y st => (0 ≤ x ∧ zrg x ∧ 0 < y ∧ zrg y) ∧ k (pc + 1) l (.inl (x % y) :: st) M)
  | .ineg => len = 1 ∧ zI1 st (fun x st => k (pc + 1) l (.inl (-x) :: st) M)
  | .iand => len = 1 ∧ zI2 st (fun x y st => k (pc + 1) l (.inl (Int32.ofInt x &&& Int32.ofInt y).toInt :: st) M)
  | .ior => len = 1 ∧ zI2 st (fun x y st => k (pc + 1) l (.inl (Int32.ofInt x ||| Int32.ofInt y).toInt :: st) M)
  | .ixor => len = 1 ∧ zI2 st (fun x y st => k (pc + 1) l (.inl (Int32.ofInt x ^^^ Int32.ofInt y).toInt :: st) M)
  | .ishl => len = 1 ∧ zI2 st (fun x y st => k (pc + 1) l (.inl (Int32.ofInt x <<< (Int32.ofInt y &&& 31)).toInt :: st) M)
  | .ishr => len = 1 ∧ zI2 st (fun x y st => k (pc + 1) l (.inl (Int32.ofInt x >>> (Int32.ofInt y &&& 31)).toInt :: st) M)
  | .ladd => len = 1 ∧ zL2 st (fun x y st => k (pc + 1) l (.inr (.inl (x + y)) :: st) M)
  | .lsub => len = 1 ∧ zL2 st (fun x y st => k (pc + 1) l (.inr (.inl (x - y)) :: st) M)
  | .lmul => len = 1 ∧ zL2 st (fun x y st => k (pc + 1) l (.inr (.inl (x * y)) :: st) M)
  | .lcmp => len = 1 ∧ zL2 st (fun x y st => zrl x ∧ zrl y ∧ k (pc + 1) l (.inl (if y < x then 1 else if x = y then 0 else -1) :: st) M)
  | .i2l => len = 1 ∧ zI1 st (fun x st => zrg x ∧ k (pc + 1) l (.inr (.inl x) :: st) M)
  | .dup => len = 1 ∧ (match st with | v :: st => zcat v = 1 ∧ k (pc + 1) l (v :: v :: st) M | _ => False)
  | .dup2 => len = 1 ∧ (match st with | v :: w :: st => zcat v = 1 ∧ zcat w = 1 ∧ k (pc + 1) l (v :: w :: v :: w :: st) M | _ => False)
  | .pop => len = 1 ∧ (match st with | v :: st => zcat v = 1 ∧ k (pc + 1) l st M | _ => False)
  | .goto off => len = 3 ∧ zjmp pc off (fun t => k t l st M)
  | .ifCond o off => len = 3 ∧ zI1 st (fun x st => zrg x ∧ zbr pc off (zcmp o x 0) (fun t => k t l st M))
  | .if_icmp o off => len = 3 ∧ zI2 st (fun x y st => zrg x ∧ zrg y ∧ zbr pc off (zcmp o x y) (fun t => k t l st M))
  | .tableswitch d lo hi offs => zI1 st (fun x st => zrg x ∧ ((x < lo ∨ hi < x) → zjmp pc d (fun t => k t l st M)) ∧ (¬ x < lo → ¬ hi < x → match offs[(x - lo).toNat]? with | some off => zjmp pc off (fun t => k t l st M) | none => False))
  | .lookupswitch d ps => zI1 st (fun x st => zrg x ∧ (ps.toList.zip (ps.toList.drop 1)).all (fun (a, next) => a.1 < next.1) = true ∧ zjmp pc (Op.lookupswitch.offset ps.toList d x) (fun t => k t l st M))
  | .getfield idx => len = 3 ∧ zR1 st (fun a st => match zfl own idx with
      | some (ci, j) => zkc a = ci + 1 ∧ (match zkf a j with | some 0 => k (pc + 3) l (.inl (M a j) :: st) M | some (r + 1) => k (pc + 3) l (.inr (.inr r) :: st) M | none => False)
      | none => False)
  | .putfield idx => len = 3 ∧ zI1 st (fun x st => zR1 st (fun a st => match zfl own idx with
      | some (ci, j) => zkc a = ci + 1 ∧ zkf a j = some 0 ∧ (match (vwCl[ci]?).map (fun q => q.2.1 j) with
          | some (_, _, "I", false) => k (pc + 3) l st (zup M a j x)
          | some (_, _, "Z", false) => zbl x ∧ k (pc + 3) l st (zup M a j x)
          | _ => False)
      | none => False))
  | .iaload => len = 1 ∧ zI1 st (fun i st => zR1 st (fun a st => zin 0 a i ∧ k (pc + 1) l (.inl (M a i.toNat) :: st) M))
  | .baload => len = 1 ∧ zI1 st (fun i st => zR1 st (fun a st => zin 1 a i ∧ k (pc + 1) l (.inl (M a i.toNat) :: st) M))
  | .laload => len = 1 ∧ zI1 st (fun i st => zR1 st (fun a st => zin 2 a i ∧ k (pc + 1) l (.inr (.inl (M a i.toNat)) :: st) M))
  | .aaload => len = 1 ∧ zI1 st (fun i st => zR1 st (fun a st => zin 3 a i ∧ k (pc + 1) l (.inr (.inr ((zk a).2.2.getD 1 0 + (zk a).2.2.getD 2 0 * i.toNat)) :: st) M))
  | .iastore => len = 1 ∧ zI2 st (fun i x st => zR1 st (fun a st => zin 0 a i ∧ k (pc + 1) l st (zup M a i.toNat x)))
  | .bastore => len = 1 ∧ zI2 st (fun i x st => zR1 st (fun a st => zin 1 a i ∧ zbl x ∧ k (pc + 1) l st (zup M a i.toNat x)))
  | .lastore => len = 1 ∧ zL1 st (fun x st => zI1 st (fun i st => zR1 st (fun a st => zin 2 a i ∧ k (pc + 1) l st (zup M a i.toNat x))))
  | .arraylength => len = 1 ∧ zR1 st (fun a st => (zk a).1 < 3 ∧ k (pc + 1) l (.inl (((zk a).2.1 : Nat) : Int) :: st) M)
  | .ireturn => len = 1 ∧ (match st, ret with
      | [.inl x], some .int => Q (some (.inl x)) M
      | [.inl x], some .boolean => zbl x ∧ Q (some (.inl x)) M
      | _, _ => False)
  | .areturn => len = 1 ∧ (match st, ret with
      | [.inr (.inr a)], some (.object _) => Q (some (.inr (.inr a))) M
      | [.inr (.inr a)], some (.array _) => Q (some (.inr (.inr a))) M
      | _, _ => False)
  | .return_ => len = 1 ∧ ret = none ∧ st = [] ∧ Q none M
  | .invokevirtual idx => len = 3 ∧ (match zml own idx with
      | some (0, μ, n, ci) => zpop n st (fun as rest => zR1 rest (fun b rest => zkc b = ci + 1 ∧ zcs rest ∧ call μ (.inr (.inr b) :: as) M (fun r M' => k (pc + 3) l (r.toList ++ rest) M')))
      | _ => False)
  | .invokestatic idx => len = 3 ∧ (match zml own idx with
      | some (1, μ, n, _) => zpop n st (fun as rest => zcs rest ∧ call μ as M (fun r M' => k (pc + 3) l (r.toList ++ rest) M'))
      | some (2, μ, n, _) => zpop n st (fun as rest => zcs rest ∧ call μ as M (fun r M' => k (pc + 3) l (r.toList ++ rest) M'))
      | some (3, _, _, _) => zI2 st (fun dp n st => zR1 st (fun a1 st => zI1 st (fun sp st => zR1 st (fun a0 st => ((zk a0).1 = 0 ∧ (zk a1).1 = 0 ∧ 0 ≤ sp ∧ 0 ≤ dp ∧ 0 ≤ n ∧ sp + n ≤ ((zk a0).2.1 : Int) ∧ dp + n ≤ ((zk a1).2.1 : Int)) ∧ zcs st ∧ k (pc + 3) l st (zrow M a1 (va_cpy (M a0) (M a1) sp.toNat dp.toNat n.toNat))))))
      | some (4, _, _, _) => zI2 st (fun x y st => (zrg x ∧ zrg y) ∧ zcs st ∧ k (pc + 3) l (.inl (if y < x then y else x) :: st) M)
      | _ => False)
  | _ => False
theorem zI1_mono {st : List zV} {κ κ' : Int → List zV → Prop} (h : ∀ x s, κ x s → κ' x s) (a : zI1 st κ) : zI1 st κ' := by
  unfold zI1 at *; split at a
  · exact h _ _ a
  · exact a
theorem zI2_mono {st : List zV} {κ κ' : Int → Int → List zV → Prop} (h : ∀ x y s, κ x y s → κ' x y s) (a : zI2 st κ) : zI2 st κ' := by
  unfold zI2 at *; split at a
  · exact h _ _ _ a
  · exact a
theorem zL1_mono {st : List zV} {κ κ' : Int → List zV → Prop} (h : ∀ x s, κ x s → κ' x s) (a : zL1 st κ) : zL1 st κ' := by
  unfold zL1 at *; split at a
  · exact h _ _ a
  · exact a
theorem zL2_mono {st : List zV} {κ κ' : Int → Int → List zV → Prop} (h : ∀ x y s, κ x y s → κ' x y s) (a : zL2 st κ) : zL2 st κ' := by
  unfold zL2 at *; split at a
  · exact h _ _ _ a
  · exact a
theorem zR1_mono {st : List zV} {κ κ' : Nat → List zV → Prop} (h : ∀ x s, κ x s → κ' x s) (a : zR1 st κ) : zR1 st κ' := by
  unfold zR1 at *; split at a
  · exact h _ _ a
  · exact a
theorem zgi_mono {l : zL} {i : Nat} {κ κ' : Int → Prop} (h : ∀ x, κ x → κ' x) (a : zgi l i κ) : zgi l i κ' := by
  unfold zgi at *; split at a
  · exact h _ a
  · exact a
theorem zgl_mono {l : zL} {i : Nat} {κ κ' : Int → Prop} (h : ∀ x, κ x → κ' x) (a : zgl l i κ) : zgl l i κ' := by
  unfold zgl at *; split at a
  · exact h _ a
  · exact a
theorem zgr_mono {l : zL} {i : Nat} {κ κ' : Nat → Prop} (h : ∀ x, κ x → κ' x) (a : zgr l i κ) : zgr l i κ' := by
  unfold zgr at *; split at a
  · exact h _ a
  · exact a
theorem zs1_mono {v : zV} : ∀ (l : zL) (i : Nat) {κ κ' : zL → Prop}, (∀ x, κ x → κ' x) → zs1 l i v κ → zs1 l i v κ'
  | [], _, _, _, _, a => a
  | _ :: _, 0, _, _, h, a => h _ a
  | _ :: _ :: _, 1, _, _, h, a => ⟨a.1, h _ a.2⟩
  | [_], 1, _, _, _, a => False.elim a
  | _ :: l, i + 2, _, _, h, a => zs1_mono l (i + 1) (fun x => h _) a
theorem zs2_mono {v : zV} : ∀ (l : zL) (i : Nat) {κ κ' : zL → Prop}, (∀ x, κ x → κ' x) → zs2 l i v κ → zs2 l i v κ'
  | [], _, _, _, _, a => a
  | [_], 0, _, _, _, a => a
  | _ :: _ :: _, 0, _, _, h, a => h _ a
  | _ :: _ :: _ :: _, 1, _, _, h, a => ⟨a.1, h _ a.2⟩
  | [_], 1, _, _, _, a => False.elim a
  | [_, _], 1, _, _, _, a => False.elim a
  | [_], _ + 2, _, _, _, a => False.elim a
  | [_, _], 2, _, _, _, a => False.elim a
  | [_, _], _ + 3, _, _, _, a => False.elim a
  | _ :: w :: u :: l, i + 2, _, _, h, a => zs2_mono (w :: u :: l) (i + 1) (fun x => h _) a
theorem zpop_mono : ∀ (n : Nat) (st : List zV) {κ κ' : List zV → List zV → Prop}, (∀ x y, κ x y → κ' x y) → zpop n st κ → zpop n st κ'
  | 0, _, _, _, h, a => h _ _ a
  | n + 1, _ :: st, _, _, h, a => zpop_mono n st (fun x y => h _ _) a
  | _ + 1, [], _, _, _, a => a
theorem zjmp_mono {pc : Nat} {off : Int} {κ κ' : Nat → Prop} (h : ∀ x, κ x → κ' x) (a : zjmp pc off κ) : zjmp pc off κ' := ⟨a.1, h _ a.2⟩
theorem zbr_mono {pc : Nat} {off : Int} {c : Prop} {κ κ' : Nat → Prop} (h : ∀ x, κ x → κ' x) (a : zbr pc off c κ) : zbr pc off c κ' := ⟨a.1, fun q => h _ (a.2.1 q), fun q => h _ (a.2.2 q)⟩
set_option maxHeartbeats 4000000 in
theorem zst_mono {call call' : zC} {own : Nat} {ret : Option FieldType} {Q Q' : zQ} {k k' : Nat → zL → List zV → zM → Prop} {pc : Nat} {l : zL} {st : List zV} {M : zM} {i : Instr} {len : Nat}
    (hc : ∀ (μ : Nat) (as : List zV) (M : zM) (q q' : zQ), (∀ r M, q r M → q' r M) → call μ as M q → call' μ as M q') (hQ : ∀ r M, Q r M → Q' r M) (hk : ∀ pc l st M, k pc l st M → k' pc l st M)
    (h : zst call own ret Q k pc l st M i len) : zst call' own ret Q' k' pc l st M i len := by
  cases i with
  | iconst n => exact ⟨h.1, hk _ _ _ _ h.2⟩
  | bipush n => exact ⟨h.1, h.2.1, hk _ _ _ _ h.2.2⟩
  | sipush n => exact ⟨h.1, h.2.1, hk _ _ _ _ h.2.2⟩
  | lconst n => exact ⟨h.1, hk _ _ _ _ h.2⟩
  | ldc2_w idx =>
    obtain ⟨h1, h2⟩ := h
    refine ⟨h1, ?_⟩
    split at h2
    · exact hk _ _ _ _ h2
    · exact h2
  | iload_n j => exact ⟨h.1, zgi_mono (fun _ h => hk _ _ _ _ h) h.2⟩
  | iload j => exact ⟨h.1, zgi_mono (fun _ h => hk _ _ _ _ h) h.2⟩
  | lload_n j => exact ⟨h.1, zgl_mono (fun _ h => hk _ _ _ _ h) h.2⟩
  | lload j => exact ⟨h.1, zgl_mono (fun _ h => hk _ _ _ _ h) h.2⟩
  | aload_n j => exact ⟨h.1, zgr_mono (fun _ h => hk _ _ _ _ h) h.2⟩
  | aload j => exact ⟨h.1, zgr_mono (fun _ h => hk _ _ _ _ h) h.2⟩
  | istore_n j => exact ⟨h.1, zI1_mono (fun _ _ h => zs1_mono _ _ (fun _ h => hk _ _ _ _ h) h) h.2⟩
  | istore j => exact ⟨h.1, zI1_mono (fun _ _ h => zs1_mono _ _ (fun _ h => hk _ _ _ _ h) h) h.2⟩
  | lstore_n j => exact ⟨h.1, zL1_mono (fun _ _ h => zs2_mono _ _ (fun _ h => hk _ _ _ _ h) h) h.2⟩
  | lstore j => exact ⟨h.1, zL1_mono (fun _ _ h => zs2_mono _ _ (fun _ h => hk _ _ _ _ h) h) h.2⟩
  | astore_n j => exact ⟨h.1, zR1_mono (fun _ _ h => zs1_mono _ _ (fun _ h => hk _ _ _ _ h) h) h.2⟩
  | astore j => exact ⟨h.1, zR1_mono (fun _ _ h => zs1_mono _ _ (fun _ h => hk _ _ _ _ h) h) h.2⟩
  | iinc j n => exact ⟨h.1, zgi_mono (fun _ h => zs1_mono _ _ (fun _ h => hk _ _ _ _ h) h) h.2⟩
  | iadd => exact ⟨h.1, zI2_mono (fun _ _ _ h => hk _ _ _ _ h) h.2⟩
  | isub => exact ⟨h.1, zI2_mono (fun _ _ _ h => hk _ _ _ _ h) h.2⟩
  | imul => exact ⟨h.1, zI2_mono (fun _ _ _ h => hk _ _ _ _ h) h.2⟩
  | idiv => exact ⟨h.1, zI2_mono (fun _ _ _ h => ⟨h.1, hk _ _ _ _ h.2⟩) h.2⟩
  | irem => exact ⟨h.1, zI2_mono (fun _ _ _ h => ⟨h.1, hk _ _ _ _ h.2⟩) h.2⟩
  | ineg => exact ⟨h.1, zI1_mono (fun _ _ h => hk _ _ _ _ h) h.2⟩
  | iand => exact ⟨h.1, zI2_mono (fun _ _ _ h => hk _ _ _ _ h) h.2⟩
  | ior => exact ⟨h.1, zI2_mono (fun _ _ _ h => hk _ _ _ _ h) h.2⟩
  | ixor => exact ⟨h.1, zI2_mono (fun _ _ _ h => hk _ _ _ _ h) h.2⟩
  | ishl => exact ⟨h.1, zI2_mono (fun _ _ _ h => hk _ _ _ _ h) h.2⟩
  | ishr => exact ⟨h.1, zI2_mono (fun _ _ _ h => hk _ _ _ _ h) h.2⟩
  | ladd => exact ⟨h.1, zL2_mono (fun _ _ _ h => hk _ _ _ _ h) h.2⟩
  | lsub => exact ⟨h.1, zL2_mono (fun _ _ _ h => hk _ _ _ _ h) h.2⟩
  | lmul => exact ⟨h.1, zL2_mono (fun _ _ _ h => hk _ _ _ _ h) h.2⟩
  | lcmp => exact ⟨h.1, zL2_mono (fun _ _ _ h => ⟨h.1, h.2.1, hk _ _ _ _ h.2.2⟩) h.2⟩
  | i2l => exact ⟨h.1, zI1_mono (fun _ _ h => ⟨h.1, hk _ _ _ _ h.2⟩) h.2⟩
  | dup =>
    obtain ⟨h1, h2⟩ := h
    refine ⟨h1, ?_⟩
    split at h2
    · exact ⟨h2.1, hk _ _ _ _ h2.2⟩
    · exact h2
  | dup2 =>
    obtain ⟨h1, h2⟩ := h
    refine ⟨h1, ?_⟩
    split at h2
    · exact ⟨h2.1, h2.2.1, hk _ _ _ _ h2.2.2⟩
    · exact h2
  | pop =>
    obtain ⟨h1, h2⟩ := h
    refine ⟨h1, ?_⟩
    split at h2
    · exact ⟨h2.1, hk _ _ _ _ h2.2⟩
    · exact h2
  | goto off => exact ⟨h.1, zjmp_mono (fun _ h => hk _ _ _ _ h) h.2⟩
  | ifCond o off => exact ⟨h.1, zI1_mono (fun _ _ h => ⟨h.1, zbr_mono (fun _ h => hk _ _ _ _ h) h.2⟩) h.2⟩
  | if_icmp o off => exact ⟨h.1, zI2_mono (fun _ _ _ h => ⟨h.1, h.2.1, zbr_mono (fun _ h => hk _ _ _ _ h) h.2.2⟩) h.2⟩
  | tableswitch d lo hi offs =>
    refine zI1_mono (fun x s h => ⟨h.1, fun q => zjmp_mono (fun _ h => hk _ _ _ _ h) (h.2.1 q), fun q1 q2 => ?_⟩) h
    have h3 := h.2.2 q1 q2
    split at h3
    · exact zjmp_mono (fun _ h => hk _ _ _ _ h) h3
    · exact h3
  | lookupswitch d ps => exact zI1_mono (fun x s h => ⟨h.1, h.2.1, zjmp_mono (fun _ h => hk _ _ _ _ h) h.2.2⟩) h
  | getfield idx =>
    refine ⟨h.1, zR1_mono (fun a s h => ?_) h.2⟩
    split at h
    · refine ⟨h.1, ?_⟩
      have h2 := h.2
      split at h2
      · exact hk _ _ _ _ h2
      · exact hk _ _ _ _ h2
      · exact h2
    · exact h
  | putfield idx =>
    refine ⟨h.1, zI1_mono (fun x s h => zR1_mono (fun a s h => ?_) h) h.2⟩
    split at h
    · refine ⟨h.1, h.2.1, ?_⟩
      have h2 := h.2.2
      split at h2
      · exact hk _ _ _ _ h2
      · exact ⟨h2.1, hk _ _ _ _ h2.2⟩
      · exact h2
    · exact h
  | iaload => exact ⟨h.1, zI1_mono (fun _ _ h => zR1_mono (fun _ _ h => ⟨h.1, hk _ _ _ _ h.2⟩) h) h.2⟩
  | baload => exact ⟨h.1, zI1_mono (fun _ _ h => zR1_mono (fun _ _ h => ⟨h.1, hk _ _ _ _ h.2⟩) h) h.2⟩
  | laload => exact ⟨h.1, zI1_mono (fun _ _ h => zR1_mono (fun _ _ h => ⟨h.1, hk _ _ _ _ h.2⟩) h) h.2⟩
  | aaload => exact ⟨h.1, zI1_mono (fun _ _ h => zR1_mono (fun _ _ h => ⟨h.1, hk _ _ _ _ h.2⟩) h) h.2⟩
  | iastore => exact ⟨h.1, zI2_mono (fun _ _ _ h => zR1_mono (fun _ _ h => ⟨h.1, hk _ _ _ _ h.2⟩) h) h.2⟩
  | bastore => exact ⟨h.1, zI2_mono (fun _ _ _ h => zR1_mono (fun _ _ h => ⟨h.1, h.2.1, hk _ _ _ _ h.2.2⟩) h) h.2⟩
  | lastore => exact ⟨h.1, zL1_mono (fun _ _ h => zI1_mono (fun _ _ h => zR1_mono (fun _ _ h => ⟨h.1, hk _ _ _ _ h.2⟩) h) h) h.2⟩
  | arraylength => exact ⟨h.1, zR1_mono (fun _ _ h => ⟨h.1, hk _ _ _ _ h.2⟩) h.2⟩
  | ireturn =>
    obtain ⟨h1, h2⟩ := h
    refine ⟨h1, ?_⟩
    split at h2
    · exact hQ _ _ h2
    · exact ⟨h2.1, hQ _ _ h2.2⟩
    · exact h2
  | areturn =>
    obtain ⟨h1, h2⟩ := h
    refine ⟨h1, ?_⟩
    split at h2
    · exact hQ _ _ h2
    · exact hQ _ _ h2
    · exact h2
  | return_ => exact ⟨h.1, h.2.1, h.2.2.1, hQ _ _ h.2.2.2⟩
  | invokevirtual idx =>
    obtain ⟨h1, h2⟩ := h
    refine ⟨h1, ?_⟩
    split at h2
    · exact zpop_mono _ _ (fun _ _ h => zR1_mono (fun _ _ h => ⟨h.1, h.2.1, hc _ _ _ _ _ (fun _ _ h => hk _ _ _ _ h) h.2.2⟩) h) h2
    · exact h2
  | invokestatic idx =>
    obtain ⟨h1, h2⟩ := h
    refine ⟨h1, ?_⟩
    split at h2
    · exact zpop_mono _ _ (fun _ _ h => ⟨h.1, hc _ _ _ _ _ (fun _ _ h => hk _ _ _ _ h) h.2⟩) h2
    · exact zpop_mono _ _ (fun _ _ h => ⟨h.1, hc _ _ _ _ _ (fun _ _ h => hk _ _ _ _ h) h.2⟩) h2
    · exact zI2_mono (fun _ _ _ h => zR1_mono (fun _ _ h => zI1_mono (fun _ _ h => zR1_mono (fun _ _ h => ⟨h.1, h.2.1, hk _ _ _ _ h.2.2⟩) h) h) h) h2
    · exact zI2_mono (fun _ _ _ h => ⟨h.1, h.2.1, hk _ _ _ _ h.2.2⟩) h2
    · exact h2
  | _ => exact False.elim h
/-! ### a method's run: the least fixed point of its instructions; a call: a run with callees of one level less -/
def zstp (call : zC) (μ : Nat) (Q : zQ) (X : Nat → zL → List zV → zM → Prop) (pc : Nat) (l : zL) (st : List zV) (M : zM) : Prop := match zmt[μ]? with
  | some q => (match decode q.2.2.1 pc with
    | .ok d => zst call q.1 q.2.2.2.2 Q X pc l st M d.1 d.2
    | .error _ => False)
  | none => False
theorem zstp_mono {call call' : zC} {μ : Nat} {Q Q' : zQ} {X X' : Nat → zL → List zV → zM → Prop} {pc : Nat} {l : zL} {st : List zV} {M : zM}
    (hc : ∀ (μ : Nat) (as : List zV) (M : zM) (q q' : zQ), (∀ r M, q r M → q' r M) → call μ as M q → call' μ as M q') (hQ : ∀ r M, Q r M → Q' r M) (hk : ∀ pc l st M, X pc l st M → X' pc l st M)
    (h : zstp call μ Q X pc l st M) : zstp call' μ Q' X' pc l st M := by
  unfold zstp at *
  split at h
  · split at h
    · exact zst_mono hc hQ hk h
    · exact h
  · exact h
def RT (call : zC) (μ : Nat) (Q : zQ) (pc : Nat) (l : zL) (st : List zV) (M : zM) : Prop :=
  ∀ X : Nat → zL → List zV → zM → Prop, (∀ pc l st M, zstp call μ Q X pc l st M → X pc l st M) → X pc l st M
def zmono (call : zC) : Prop := ∀ (μ : Nat) (as : List zV) (M : zM) (q q' : zQ), (∀ r M, q r M → q' r M) → call μ as M q → call μ as M q'
theorem RT_mk {call : zC} (hc : zmono call) {μ : Nat} {Q : zQ} {pc : Nat} {l : zL} {st : List zV} {M : zM} (h : zstp call μ Q (RT call μ Q) pc l st M) : RT call μ Q pc l st M := by
  intro X hX
  exact hX _ _ _ _ (zstp_mono hc (fun _ _ h => h) (fun pc l st M h => h X hX) h)
theorem RT_eq {call : zC} (hc : zmono call) (μ : Nat) (Q : zQ) (pc : Nat) (l : zL) (st : List zV) (M : zM) : RT call μ Q pc l st M = zstp call μ Q (RT call μ Q) pc l st M := by
  refine propext ⟨fun h => ?_, RT_mk hc⟩
  exact h (fun pc l st M => zstp call μ Q (RT call μ Q) pc l st M) (fun pc l st M h => zstp_mono hc (fun _ _ h => h) (fun pc l st M h => RT_mk hc h) h)
theorem RT_mono {call : zC} (hc : zmono call) {μ : Nat} {Q Q' : zQ} (hQ : ∀ r M, Q r M → Q' r M) {pc : Nat} {l : zL} {st : List zV} {M : zM} (h : RT call μ Q pc l st M) : RT call μ Q' pc l st M :=
  h (fun pc l st M => RT call μ Q' pc l st M) (fun _ _ _ _ h => RT_mk hc (zstp_mono hc hQ (fun _ _ _ _ h => h) h))
/-- the locals at a method's entry -/
def zsl : List zV → zL
  | [] => []
  | v :: vs => if zcat v = 2 then some v :: none :: zsl vs else some v :: zsl vs
def zent (nL : Nat) (as : List zV) : zL := zsl as ++ List.replicate (nL - (zsl as).length) none
def Sp : Nat → zC
  | 0 => fun _ _ _ _ => False
  | d + 1 => fun μ as M Q => match zmt[μ]? with
    | some q => (zsl as).length ≤ q.2.2.2.1 ∧ RT (Sp d) μ Q 0 (zent q.2.2.2.1 as) [] M
    | none => False
theorem Sp_mono : ∀ d : Nat, zmono (Sp d)
  | 0 => fun _ _ _ _ _ _ h => h
  | d + 1 => fun μ as M q q' hq h => by
    unfold Sp at *
    split at h
    · exact ⟨h.1, RT_mono (Sp_mono d) hq h.2⟩
    · exact h
/-! ### the locals of the machine beside those of the abstract one -/
def zlh (ad : Nat → Nat) (ls : Array Slot) (nL : Nat) (lo : zL) : Prop := ls.size = nL ∧ lv_wf ls ∧ lo.length = nL ∧ ∀ (i : Nat) (v : zV), zget lo i = some v → ls[i]? = some (.val (zcv ad v))
def zal (ad : Nat → Nat) (lo : zL) : List (Nat × Value) := (List.range lo.length).filterMap (fun i => (zget lo i).map (fun v => (i, zcv ad v)))
theorem zget_lt {v : zV} : ∀ (lo : zL) (i : Nat), zget lo i = some v → i < lo.length
  | [], _, h => by cases h
  | _ :: _, 0, _ => Nat.zero_lt_succ _
  | _ :: lo, i + 1, h => Nat.succ_lt_succ (zget_lt lo i h)
theorem zal_mem {ad : Nat → Nat} {lo : zL} {i : Nat} {v : zV} (h : zget lo i = some v) : (i, zcv ad v) ∈ zal ad lo :=
  List.mem_filterMap.mpr ⟨i, List.mem_range.mpr (zget_lt lo i h), by rw [h]; rfl⟩
theorem zlh_has {ad : Nat → Nat} {ls : Array Slot} {nL : Nat} {lo : zL} (h : zlh ad ls nL lo) : lv_has ls nL (zal ad lo) := by
  refine ⟨h.1, h.2.1, fun q hq => ?_⟩
  obtain ⟨i, -, hi⟩ := List.mem_filterMap.mp hq
  cases hg : zget lo i with
  | none => rw [hg] at hi; cases hi
  | some v =>
    rw [hg] at hi
    cases hi
    exact h.2.2.2 i v hg
theorem zcat_cv (ad : Nat → Nat) (v : zV) : (zcv ad v).category = zcat v := by
  rcases v with x | x | a <;> rfl
theorem znl_cat {w : zV} (h : znl (some w)) : zcat w = 1 := by
  rcases w with x | x | a
  · rfl
  · exact False.elim h
  · rfl
theorem zs1_inv {v : zV} : ∀ (lo : zL) (i : Nat) {κ : zL → Prop}, zs1 lo i v κ → ∃ lo' : zL, κ lo' ∧ i < lo.length ∧ lo'.length = lo.length ∧ ∀ (j : Nat) (w : zV), zget lo' j = some w → (j = i ∧ w = v) ∨ (j ≠ i ∧ zget lo j = some w ∧ (j + 1 = i → zcat w = 1))
  | [], _, _, a => False.elim a
  | u :: lo, 0, _, a => ⟨some v :: lo, a, Nat.zero_lt_succ _, rfl, fun j w h => by
    cases j with
    | zero => cases h; exact Or.inl ⟨rfl, rfl⟩
    | succ j => exact Or.inr ⟨by omega, h, by omega⟩⟩
  | u :: u2 :: lo, 1, _, a => ⟨u :: some v :: lo, a.2, by simp, rfl, fun j w h => by
    cases j with
    | zero => exact Or.inr ⟨by omega, h, fun _ => by have h2 : u = some w := h; exact znl_cat (h2 ▸ a.1)⟩
    | succ j =>
      cases j with
      | zero => cases h; exact Or.inl ⟨rfl, rfl⟩
      | succ j => exact Or.inr ⟨by omega, h, by omega⟩⟩
  | [_], 1, _, a => False.elim a
  | u :: lo, i + 2, _, a => by
    obtain ⟨lo', h1, h2, h3, h4⟩ := zs1_inv lo (i + 1) a
    refine ⟨u :: lo', h1, by simp; omega, by simp [h3], fun j w h => ?_⟩
    cases j with
    | zero => exact Or.inr ⟨by omega, h, by omega⟩
    | succ j =>
      rcases h4 j w h with ⟨e1, e2⟩ | ⟨e1, e2, e3⟩
      · exact Or.inl ⟨by omega, e2⟩
      · exact Or.inr ⟨by omega, e2, fun q => e3 (by omega)⟩
theorem zs2_inv {v : zV} : ∀ (lo : zL) (i : Nat) {κ : zL → Prop}, zs2 lo i v κ → ∃ lo' : zL, κ lo' ∧ i + 1 < lo.length ∧ lo'.length = lo.length ∧ ∀ (j : Nat) (w : zV), zget lo' j = some w → (j = i ∧ w = v) ∨ (j ≠ i ∧ j ≠ i + 1 ∧ zget lo j = some w ∧ (j + 1 = i → zcat w = 1))
  | [], _, _, a => False.elim a
  | [_], 0, _, a => False.elim a
  | _ :: _ :: lo, 0, _, a => ⟨some v :: none :: lo, a, by simp, rfl, fun j w h => by
    cases j with
    | zero => cases h; exact Or.inl ⟨rfl, rfl⟩
    | succ j =>
      cases j with
      | zero => cases h
      | succ j => exact Or.inr ⟨by omega, by omega, h, by omega⟩⟩
  | u :: _ :: _ :: lo, 1, _, a => ⟨u :: some v :: none :: lo, a.2, by simp, rfl, fun j w h => by
    cases j with
    | zero => exact Or.inr ⟨by omega, by omega, h, fun _ => by have h2 : u = some w := h; exact znl_cat (h2 ▸ a.1)⟩
    | succ j =>
      cases j with
      | zero => cases h; exact Or.inl ⟨rfl, rfl⟩
      | succ j =>
        cases j with
        | zero => cases h
        | succ j => exact Or.inr ⟨by omega, by omega, h, by omega⟩⟩
  | [_], 1, _, a => False.elim a
  | [_, _], 1, _, a => False.elim a
  | [_], _ + 2, _, a => False.elim a
  | [_, _], 2, _, a => False.elim a
  | [_, _], _ + 3, _, a => False.elim a
  | u :: w :: w2 :: lo, i + 2, _, a => by
    obtain ⟨lo', h1, h2, h3, h4⟩ := zs2_inv (w :: w2 :: lo) (i + 1) a
    refine ⟨u :: lo', h1, by simp at h2 ⊢; omega, by simp [h3], fun j w h => ?_⟩
    cases j with
    | zero => exact Or.inr ⟨by omega, by omega, h, by omega⟩
    | succ j =>
      rcases h4 j w h with ⟨e1, e2⟩ | ⟨e1, e2, e3, e4⟩
      · exact Or.inl ⟨by omega, e2⟩
      · exact Or.inr ⟨by omega, by omega, e3, fun q => e4 (by omega)⟩
theorem zlh_s1 {ad : Nat → Nat} {ls ls' : Array Slot} {nL : Nat} {lo lo' : zL} {i : Nat} {v : zV} (h : zlh ad ls nL lo) (hlen : lo'.length = lo.length)
    (hg : ∀ (j : Nat) (w : zV), zget lo' j = some w → (j = i ∧ w = v) ∨ (j ≠ i ∧ zget lo j = some w ∧ (j + 1 = i → zcat w = 1)))
    (h' : lv_has ls' nL ((i, zcv ad v) :: (zal ad lo).filter (fun q => !(q.1 == i) && !(q.1 + 1 == i && q.2.category == 2)))) : zlh ad ls' nL lo' := by
  refine ⟨h'.1, h'.2.1, hlen.trans h.2.2.1, fun j w hj => ?_⟩
  rcases hg j w hj with ⟨rfl, rfl⟩ | ⟨e1, e2, e3⟩
  · exact h'.2.2 _ List.mem_cons_self
  · refine h'.2.2 (j, zcv ad w) (List.mem_cons_of_mem _ (List.mem_filter.mpr ⟨zal_mem e2, ?_⟩))
    simp only [Bool.and_eq_true, Bool.not_eq_true', beq_eq_false_iff_ne, ne_eq, Bool.and_eq_false_iff, zcat_cv]
    refine ⟨e1, ?_⟩
    by_cases q : j + 1 = i
    · exact Or.inr (by rw [e3 q]; omega)
    · exact Or.inl q
theorem zlh_s2 {ad : Nat → Nat} {ls ls' : Array Slot} {nL : Nat} {lo lo' : zL} {i : Nat} {v : zV} (h : zlh ad ls nL lo) (hlen : lo'.length = lo.length)
    (hg : ∀ (j : Nat) (w : zV), zget lo' j = some w → (j = i ∧ w = v) ∨ (j ≠ i ∧ j ≠ i + 1 ∧ zget lo j = some w ∧ (j + 1 = i → zcat w = 1)))
    (h' : lv_has ls' nL ((i, zcv ad v) :: (zal ad lo).filter (fun q => !(q.1 == i) && (!(q.1 == i + 1) && !(q.1 + 1 == i && q.2.category == 2))))) : zlh ad ls' nL lo' := by
  refine ⟨h'.1, h'.2.1, hlen.trans h.2.2.1, fun j w hj => ?_⟩
  rcases hg j w hj with ⟨rfl, rfl⟩ | ⟨e1, e2, e3, e4⟩
  · exact h'.2.2 _ List.mem_cons_self
  · refine h'.2.2 (j, zcv ad w) (List.mem_cons_of_mem _ (List.mem_filter.mpr ⟨zal_mem e3, ?_⟩))
    simp only [Bool.and_eq_true, Bool.not_eq_true', beq_eq_false_iff_ne, ne_eq, Bool.and_eq_false_iff, zcat_cv]
    refine ⟨e1, e2, ?_⟩
    by_cases q : j + 1 = i
    · exact Or.inr (by rw [e4 q]; omega)
    · exact Or.inl q
