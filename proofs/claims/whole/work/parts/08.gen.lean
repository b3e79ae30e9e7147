/-! ### a row an instruction kind: a run at it is a run behind it -/
def zret (call : zC) (μ : Nat) (Q : zQ) (pc : Nat) (l : zL) (st : List zV) (r : Option zV) (M : zM) : Prop := RT call μ Q pc l (r.toList ++ st) M
theorem zret_some {call : zC} {μ : Nat} {Q : zQ} {pc : Nat} {l : zL} {st : List zV} {v : zV} {M : zM} : zret call μ Q pc l st (some v) M = RT call μ Q pc l (v :: st) M := rfl
theorem zret_none {call : zC} {μ : Nat} {Q : zQ} {pc : Nat} {l : zL} {st : List zV} {M : zM} : zret call μ Q pc l st none M = RT call μ Q pc l st M := rfl
def zaa (a n : Nat) : Nat := (zk a).2.2.getD 1 0 + (zk a).2.2.getD 2 0 * n
theorem zt1 {n : Nat} (a : Prop) : (n = n ∧ a) = a := by simp
section ZROW
variable {d μ : Nat} {Q : zQ} {pc : Nat} {l : zL} {st : List zV} {M : zM} {q : zMt} {x y n : Int} {a b : Nat}
theorem zat {i : Instr} {len : Nat} (hm : zmt[μ]? = some q) (hd : decode q.2.2.1 pc = .ok (i, len)) : RT (Sp d) μ Q pc l st M = zst (Sp d) q.1 q.2.2.2.2 Q (RT (Sp d) μ Q) pc l st M i len := by
  rw [RT_eq (Sp_mono d)]
  unfold zstp
  rw [hm]
  simp only [hd]
theorem zbr_ite {off : Int} {t : Nat} {c : Prop} [Decidable c] {κ : Nat → Prop} (ht : (pc : Int) + off = (t : Int)) : zbr pc off c κ = (if c then κ t else κ (pc + 3)) := by
  unfold zbr
  have h0 : 0 ≤ (pc : Int) + off := by omega
  have h1 : ((pc : Int) + off).toNat = t := by omega
  rw [h1]
  by_cases h : c
  · rw [if_pos h]; exact propext ⟨fun w => w.2.1 h, fun w => ⟨h0, fun _ => w, fun z => absurd h z⟩⟩
  · rw [if_neg h]; exact propext ⟨fun w => w.2.2 h, fun w => ⟨h0, fun z => absurd z h, fun _ => w⟩⟩
theorem zjmp_t {off : Int} {t : Nat} {κ : Nat → Prop} (ht : (pc : Int) + off = (t : Int)) : zjmp pc off κ = κ t := by
  unfold zjmp
  have h0 : 0 ≤ (pc : Int) + off := by omega
  have h1 : ((pc : Int) + off).toNat = t := by omega
  rw [h1]
  exact propext ⟨fun w => w.2, fun w => ⟨h0, w⟩⟩
theorem zr_iconst (hm : zmt[μ]? = some q) (hd : decode q.2.2.1 pc = .ok (.iconst n, 1)) : RT (Sp d) μ Q pc l st M = RT (Sp d) μ Q (pc + 1) l (.inl n :: st) M := by
  rw [zat hm hd]; unfold zst; simp
theorem zr_bipush (hm : zmt[μ]? = some q) (hd : decode q.2.2.1 pc = .ok (.bipush n, 2)) (h : -128 ≤ n ∧ n < 128) : RT (Sp d) μ Q pc l st M = RT (Sp d) μ Q (pc + 2) l (.inl n :: st) M := by
  rw [zat hm hd]; unfold zst; simp [h.1, h.2]
theorem zr_sipush (hm : zmt[μ]? = some q) (hd : decode q.2.2.1 pc = .ok (.sipush n, 3)) (h : -32768 ≤ n ∧ n < 32768) : RT (Sp d) μ Q pc l st M = RT (Sp d) μ Q (pc + 3) l (.inl n :: st) M := by
  rw [zat hm hd]; unfold zst; simp [h.1, h.2]
theorem zr_lconst {n : Fin 2} (hm : zmt[μ]? = some q) (hd : decode q.2.2.1 pc = .ok (.lconst n, 1)) (hn : ((n : Nat) : Int) = x) : RT (Sp d) μ Q pc l st M = RT (Sp d) μ Q (pc + 1) l (.inr (.inl x) :: st) M := by
  rw [zat hm hd]; unfold zst; simp [hn]
theorem zr_ldc2 {idx : Nat} (hm : zmt[μ]? = some q) (hd : decode q.2.2.1 pc = .ok (.ldc2_w idx, 3)) (hn : zlc q.1 idx = some x) : RT (Sp d) μ Q pc l st M = RT (Sp d) μ Q (pc + 3) l (.inr (.inl x) :: st) M := by
  rw [zat hm hd]; unfold zst; simp [hn]
theorem zr_iload_n {k : Fin 4} (hm : zmt[μ]? = some q) (hd : decode q.2.2.1 pc = .ok (.iload_n k, 1)) (hl : zget l k = some (.inl x)) : RT (Sp d) μ Q pc l st M = RT (Sp d) μ Q (pc + 1) l (.inl x :: st) M := by
  rw [zat hm hd]; unfold zst zgi; simp [hl]
theorem zr_iload {k : Nat} (hm : zmt[μ]? = some q) (hd : decode q.2.2.1 pc = .ok (.iload k, 2)) (hl : zget l k = some (.inl x)) : RT (Sp d) μ Q pc l st M = RT (Sp d) μ Q (pc + 2) l (.inl x :: st) M := by
  rw [zat hm hd]; unfold zst zgi; simp [hl]
theorem zr_lload_n {k : Fin 4} (hm : zmt[μ]? = some q) (hd : decode q.2.2.1 pc = .ok (.lload_n k, 1)) (hl : zget l k = some (.inr (.inl x))) : RT (Sp d) μ Q pc l st M = RT (Sp d) μ Q (pc + 1) l (.inr (.inl x) :: st) M := by
  rw [zat hm hd]; unfold zst zgl; simp [hl]
theorem zr_lload {k : Nat} (hm : zmt[μ]? = some q) (hd : decode q.2.2.1 pc = .ok (.lload k, 2)) (hl : zget l k = some (.inr (.inl x))) : RT (Sp d) μ Q pc l st M = RT (Sp d) μ Q (pc + 2) l (.inr (.inl x) :: st) M := by
  rw [zat hm hd]; unfold zst zgl; simp [hl]
theorem zr_aload_n {k : Fin 4} (hm : zmt[μ]? = some q) (hd : decode q.2.2.1 pc = .ok (.aload_n k, 1)) (hl : zget l k = some (.inr (.inr a))) : RT (Sp d) μ Q pc l st M = RT (Sp d) μ Q (pc + 1) l (.inr (.inr a) :: st) M := by
  rw [zat hm hd]; unfold zst zgr; simp [hl]
theorem zr_aload {k : Nat} (hm : zmt[μ]? = some q) (hd : decode q.2.2.1 pc = .ok (.aload k, 2)) (hl : zget l k = some (.inr (.inr a))) : RT (Sp d) μ Q pc l st M = RT (Sp d) μ Q (pc + 2) l (.inr (.inr a) :: st) M := by
  rw [zat hm hd]; unfold zst zgr; simp [hl]
theorem zr_istore_n {k : Fin 4} {P : Prop} (hm : zmt[μ]? = some q) (hd : decode q.2.2.1 pc = .ok (.istore_n k, 1)) (hl : zs1 l k (.inl x) (fun l => RT (Sp d) μ Q (pc + 1) l st M) = P) : RT (Sp d) μ Q pc l (.inl x :: st) M = P := by
  rw [zat hm hd]; unfold zst zI1; simp [hl]
theorem zr_istore {k : Nat} {P : Prop} (hm : zmt[μ]? = some q) (hd : decode q.2.2.1 pc = .ok (.istore k, 2)) (hl : zs1 l k (.inl x) (fun l => RT (Sp d) μ Q (pc + 2) l st M) = P) : RT (Sp d) μ Q pc l (.inl x :: st) M = P := by
  rw [zat hm hd]; unfold zst zI1; simp [hl]
theorem zr_lstore_n {k : Fin 4} {P : Prop} (hm : zmt[μ]? = some q) (hd : decode q.2.2.1 pc = .ok (.lstore_n k, 1)) (hl : zs2 l k (.inr (.inl x)) (fun l => RT (Sp d) μ Q (pc + 1) l st M) = P) : RT (Sp d) μ Q pc l (.inr (.inl x) :: st) M = P := by
  rw [zat hm hd]; unfold zst zL1; simp [hl]
theorem zr_lstore {k : Nat} {P : Prop} (hm : zmt[μ]? = some q) (hd : decode q.2.2.1 pc = .ok (.lstore k, 2)) (hl : zs2 l k (.inr (.inl x)) (fun l => RT (Sp d) μ Q (pc + 2) l st M) = P) : RT (Sp d) μ Q pc l (.inr (.inl x) :: st) M = P := by
  rw [zat hm hd]; unfold zst zL1; simp [hl]
theorem zr_astore_n {k : Fin 4} {P : Prop} (hm : zmt[μ]? = some q) (hd : decode q.2.2.1 pc = .ok (.astore_n k, 1)) (hl : zs1 l k (.inr (.inr a)) (fun l => RT (Sp d) μ Q (pc + 1) l st M) = P) : RT (Sp d) μ Q pc l (.inr (.inr a) :: st) M = P := by
  rw [zat hm hd]; unfold zst zR1; simp [hl]
theorem zr_astore {k : Nat} {P : Prop} (hm : zmt[μ]? = some q) (hd : decode q.2.2.1 pc = .ok (.astore k, 2)) (hl : zs1 l k (.inr (.inr a)) (fun l => RT (Sp d) μ Q (pc + 2) l st M) = P) : RT (Sp d) μ Q pc l (.inr (.inr a) :: st) M = P := by
  rw [zat hm hd]; unfold zst zR1; simp [hl]
theorem zr_iinc {k : Nat} {P : Prop} (hm : zmt[μ]? = some q) (hd : decode q.2.2.1 pc = .ok (.iinc k n, 3)) (hg : zget l k = some (.inl x)) (hl : zs1 l k (.inl (x + n)) (fun l => RT (Sp d) μ Q (pc + 3) l st M) = P) : RT (Sp d) μ Q pc l st M = P := by
  rw [zat hm hd]; unfold zst zgi; simp [hl, hg]
theorem zr_iadd (hm : zmt[μ]? = some q) (hd : decode q.2.2.1 pc = .ok (.iadd, 1)) : RT (Sp d) μ Q pc l (.inl y :: .inl x :: st) M = RT (Sp d) μ Q (pc + 1) l (.inl (x + y) :: st) M := by
  rw [zat hm hd]; unfold zst zI2; simp
theorem zr_isub (hm : zmt[μ]? = some q) (hd : decode q.2.2.1 pc = .ok (.isub, 1)) : RT (Sp d) μ Q pc l (.inl y :: .inl x :: st) M = RT (Sp d) μ Q (pc + 1) l (.inl (x - y) :: st) M := by
  rw [zat hm hd]; unfold zst zI2; simp
theorem zr_imul (hm : zmt[μ]? = some q) (hd : decode q.2.2.1 pc = .ok (.imul, 1)) : RT (Sp d) μ Q pc l (.inl y :: .inl x :: st) M = RT (Sp d) μ Q (pc + 1) l (.inl (x * y) :: st) M := by
  rw [zat hm hd]; unfold zst zI2; simp
theorem zr_idiv (hm : zmt[μ]? = some q) (hd : decode q.2.2.1 pc = .ok (.idiv, 1)) : RT (Sp d) μ Q pc l (.inl y :: .inl x :: st) M = ((0 ≤ x ∧ zrg x ∧ 0 < y ∧ zrg y) ∧ RT (Sp d) μ Q (pc + 1) l (.inl (x / y) :: st) M) := by
  rw [zat hm hd]; unfold zst zI2; simp
theorem zr_irem (hm : zmt[μ]? = some q) (hd : decode q.2.2.1 pc = .ok (.irem, 1)) : RT (Sp d) μ Q pc l (.inl y :: .inl x :: st) M = ((0 ≤ x ∧ zrg x ∧ 0 < y ∧ zrg y) ∧ RT (Sp d) μ Q (pc + 1) l (.inl (x % y) :: st) M) := by
  rw [zat hm hd]; unfold zst zI2; simp
theorem zr_ineg (hm : zmt[μ]? = some q) (hd : decode q.2.2.1 pc = .ok (.ineg, 1)) : RT (Sp d) μ Q pc l (.inl x :: st) M = RT (Sp d) μ Q (pc + 1) l (.inl (-x) :: st) M := by
  rw [zat hm hd]; unfold zst zI1; simp
def zand (x y : Int) : Int := (Int32.ofInt x &&& Int32.ofInt y).toInt
def zor (x y : Int) : Int := (Int32.ofInt x ||| Int32.ofInt y).toInt
def zxor (x y : Int) : Int := (Int32.ofInt x ^^^ Int32.ofInt y).toInt
def zshl (x y : Int) : Int := (Int32.ofInt x <<< (Int32.ofInt y &&& 31)).toInt
def zshr (x y : Int) : Int := (Int32.ofInt x >>> (Int32.ofInt y &&& 31)).toInt
theorem zr_iand (hm : zmt[μ]? = some q) (hd : decode q.2.2.1 pc = .ok (.iand, 1)) : RT (Sp d) μ Q pc l (.inl y :: .inl x :: st) M = RT (Sp d) μ Q (pc + 1) l (.inl (zand x y) :: st) M := by
  rw [zat hm hd]; exact zt1 _
theorem zr_ior (hm : zmt[μ]? = some q) (hd : decode q.2.2.1 pc = .ok (.ior, 1)) : RT (Sp d) μ Q pc l (.inl y :: .inl x :: st) M = RT (Sp d) μ Q (pc + 1) l (.inl (zor x y) :: st) M := by
  rw [zat hm hd]; exact zt1 _
theorem zr_ixor (hm : zmt[μ]? = some q) (hd : decode q.2.2.1 pc = .ok (.ixor, 1)) : RT (Sp d) μ Q pc l (.inl y :: .inl x :: st) M = RT (Sp d) μ Q (pc + 1) l (.inl (zxor x y) :: st) M := by
  rw [zat hm hd]; exact zt1 _
theorem zr_ishl (hm : zmt[μ]? = some q) (hd : decode q.2.2.1 pc = .ok (.ishl, 1)) : RT (Sp d) μ Q pc l (.inl y :: .inl x :: st) M = RT (Sp d) μ Q (pc + 1) l (.inl (zshl x y) :: st) M := by
  rw [zat hm hd]; exact zt1 _
theorem zr_ishr (hm : zmt[μ]? = some q) (hd : decode q.2.2.1 pc = .ok (.ishr, 1)) : RT (Sp d) μ Q pc l (.inl y :: .inl x :: st) M = RT (Sp d) μ Q (pc + 1) l (.inl (zshr x y) :: st) M := by
  rw [zat hm hd]; exact zt1 _
theorem zr_ladd (hm : zmt[μ]? = some q) (hd : decode q.2.2.1 pc = .ok (.ladd, 1)) : RT (Sp d) μ Q pc l (.inr (.inl y) :: .inr (.inl x) :: st) M = RT (Sp d) μ Q (pc + 1) l (.inr (.inl (x + y)) :: st) M := by
  rw [zat hm hd]; exact zt1 _
theorem zr_lsub (hm : zmt[μ]? = some q) (hd : decode q.2.2.1 pc = .ok (.lsub, 1)) : RT (Sp d) μ Q pc l (.inr (.inl y) :: .inr (.inl x) :: st) M = RT (Sp d) μ Q (pc + 1) l (.inr (.inl (x - y)) :: st) M := by
  rw [zat hm hd]; exact zt1 _
theorem zr_lmul (hm : zmt[μ]? = some q) (hd : decode q.2.2.1 pc = .ok (.lmul, 1)) : RT (Sp d) μ Q pc l (.inr (.inl y) :: .inr (.inl x) :: st) M = RT (Sp d) μ Q (pc + 1) l (.inr (.inl (x * y)) :: st) M := by
  rw [zat hm hd]; exact zt1 _
theorem zr_lcmp (hm : zmt[μ]? = some q) (hd : decode q.2.2.1 pc = .ok (.lcmp, 1)) : RT (Sp d) μ Q pc l (.inr (.inl y) :: .inr (.inl x) :: st) M = (zrl x ∧ zrl y ∧ RT (Sp d) μ Q (pc + 1) l (.inl (if y < x then 1 else if x = y then 0 else -1) :: st) M) := by
  rw [zat hm hd]; exact zt1 _
theorem zr_i2l (hm : zmt[μ]? = some q) (hd : decode q.2.2.1 pc = .ok (.i2l, 1)) : RT (Sp d) μ Q pc l (.inl x :: st) M = (zrg x ∧ RT (Sp d) μ Q (pc + 1) l (.inr (.inl x) :: st) M) := by
  rw [zat hm hd]; exact zt1 _
theorem zr_dup_i (hm : zmt[μ]? = some q) (hd : decode q.2.2.1 pc = .ok (.dup, 1)) : RT (Sp d) μ Q pc l (.inl x :: st) M = RT (Sp d) μ Q (pc + 1) l (.inl x :: .inl x :: st) M := by
  rw [zat hm hd]; unfold zst; simp [zcat]
theorem zr_dup_r (hm : zmt[μ]? = some q) (hd : decode q.2.2.1 pc = .ok (.dup, 1)) : RT (Sp d) μ Q pc l (.inr (.inr a) :: st) M = RT (Sp d) μ Q (pc + 1) l (.inr (.inr a) :: .inr (.inr a) :: st) M := by
  rw [zat hm hd]; unfold zst; simp [zcat]
theorem zr_dup2 (hm : zmt[μ]? = some q) (hd : decode q.2.2.1 pc = .ok (.dup2, 1)) : RT (Sp d) μ Q pc l (.inl x :: .inr (.inr a) :: st) M = RT (Sp d) μ Q (pc + 1) l (.inl x :: .inr (.inr a) :: .inl x :: .inr (.inr a) :: st) M := by
  rw [zat hm hd]; unfold zst; simp [zcat]
theorem zr_pop (hm : zmt[μ]? = some q) (hd : decode q.2.2.1 pc = .ok (.pop, 1)) : RT (Sp d) μ Q pc l (.inl x :: st) M = RT (Sp d) μ Q (pc + 1) l st M := by
  rw [zat hm hd]; unfold zst; simp [zcat]
theorem zr_goto {off : Int} {t : Nat} (hm : zmt[μ]? = some q) (hd : decode q.2.2.1 pc = .ok (.goto off, 3)) (ht : (pc : Int) + off = (t : Int)) : RT (Sp d) μ Q pc l st M = RT (Sp d) μ Q t l st M := by
  rw [zat hm hd]; exact (zt1 _).trans (zjmp_t ht)
theorem zr_if {o : Jvm.ClassFile.Cond} {off : Int} {t : Nat} {c : Prop} [Decidable c] (hm : zmt[μ]? = some q) (hd : decode q.2.2.1 pc = .ok (.ifCond o off, 3)) (ht : (pc : Int) + off = (t : Int)) (hc : zcmp o x 0 = c) : RT (Sp d) μ Q pc l (.inl x :: st) M = (zrg x ∧ if c then RT (Sp d) μ Q t l st M else RT (Sp d) μ Q (pc + 3) l st M) := by
  rw [zat hm hd]
  refine (zt1 _).trans ?_
  show (zrg x ∧ zbr pc off (zcmp o x 0) _) = _
  rw [hc, zbr_ite ht]
theorem zr_icmp {o : Jvm.ClassFile.Cond} {off : Int} {t : Nat} {c : Prop} [Decidable c] (hm : zmt[μ]? = some q) (hd : decode q.2.2.1 pc = .ok (.if_icmp o off, 3)) (ht : (pc : Int) + off = (t : Int)) (hc : zcmp o x y = c) : RT (Sp d) μ Q pc l (.inl y :: .inl x :: st) M = (zrg x ∧ zrg y ∧ if c then RT (Sp d) μ Q t l st M else RT (Sp d) μ Q (pc + 3) l st M) := by
  rw [zat hm hd]
  refine (zt1 _).trans ?_
  show (zrg x ∧ zrg y ∧ zbr pc off (zcmp o x y) _) = _
  rw [hc, zbr_ite ht]
theorem zr_getI {idx ci k : Nat} (hm : zmt[μ]? = some q) (hd : decode q.2.2.1 pc = .ok (.getfield idx, 3)) (hf : zfl q.1 idx = some (ci, k)) (hk : ∀ a, zkc a = ci + 1 → zkf a k = some 0) : RT (Sp d) μ Q pc l (.inr (.inr a) :: st) M = (zkc a = ci + 1 ∧ RT (Sp d) μ Q (pc + 3) l (.inl (M a k) :: st) M) := by
  rw [zat hm hd]
  refine (zt1 _).trans ?_
  show (match zfl q.1 idx with | some (ci, j) => _ | none => _) = _
  rw [hf]
  show (zkc a = ci + 1 ∧ _) = _
  by_cases h : zkc a = ci + 1
  · rw [hk a h]
  · exact propext ⟨fun w => absurd w.1 h, fun w => absurd w.1 h⟩
theorem zr_getR {idx ci k : Nat} {f : Nat → Nat} (hm : zmt[μ]? = some q) (hd : decode q.2.2.1 pc = .ok (.getfield idx, 3)) (hf : zfl q.1 idx = some (ci, k)) (hk : ∀ a, zkc a = ci + 1 → zkf a k = some (f a + 1)) : RT (Sp d) μ Q pc l (.inr (.inr a) :: st) M = (zkc a = ci + 1 ∧ RT (Sp d) μ Q (pc + 3) l (.inr (.inr (f a)) :: st) M) := by
  rw [zat hm hd]
  refine (zt1 _).trans ?_
  show (match zfl q.1 idx with | some (ci, j) => _ | none => _) = _
  rw [hf]
  show (zkc a = ci + 1 ∧ _) = _
  by_cases h : zkc a = ci + 1
  · rw [hk a h]
  · exact propext ⟨fun w => absurd w.1 h, fun w => absurd w.1 h⟩
theorem zr_putI {idx ci k : Nat} {o nm : String} (hm : zmt[μ]? = some q) (hd : decode q.2.2.1 pc = .ok (.putfield idx, 3)) (hf : zfl q.1 idx = some (ci, k)) (hk : ∀ a, zkc a = ci + 1 → zkf a k = some 0) (ht : (vwCl[ci]?).map (fun q => q.2.1 k) = some (o, nm, "I", false)) : RT (Sp d) μ Q pc l (.inl x :: .inr (.inr a) :: st) M = (zkc a = ci + 1 ∧ RT (Sp d) μ Q (pc + 3) l st (zup M a k x)) := by
  rw [zat hm hd]
  refine (zt1 _).trans ?_
  show (match zfl q.1 idx with | some (ci, j) => _ | none => _) = _
  rw [hf]
  show (zkc a = ci + 1 ∧ zkf a k = some 0 ∧ (match (vwCl[ci]?).map (fun q => q.2.1 k) with | some (_, _, "I", false) => _ | some (_, _, "Z", false) => _ | _ => False)) = _
  rw [ht]
  exact propext ⟨fun w => ⟨w.1, w.2.2⟩, fun w => ⟨w.1, hk a w.1, w.2⟩⟩
theorem zr_putZ {idx ci k : Nat} {o nm : String} (hm : zmt[μ]? = some q) (hd : decode q.2.2.1 pc = .ok (.putfield idx, 3)) (hf : zfl q.1 idx = some (ci, k)) (hk : ∀ a, zkc a = ci + 1 → zkf a k = some 0) (ht : (vwCl[ci]?).map (fun q => q.2.1 k) = some (o, nm, "Z", false)) : RT (Sp d) μ Q pc l (.inl x :: .inr (.inr a) :: st) M = (zkc a = ci + 1 ∧ zbl x ∧ RT (Sp d) μ Q (pc + 3) l st (zup M a k x)) := by
  rw [zat hm hd]
  refine (zt1 _).trans ?_
  show (match zfl q.1 idx with | some (ci, j) => _ | none => _) = _
  rw [hf]
  show (zkc a = ci + 1 ∧ zkf a k = some 0 ∧ (match (vwCl[ci]?).map (fun q => q.2.1 k) with | some (_, _, "I", false) => _ | some (_, _, "Z", false) => _ | _ => False)) = _
  rw [ht]
  exact propext ⟨fun w => ⟨w.1, w.2.2⟩, fun w => ⟨w.1, hk a w.1, w.2⟩⟩
theorem zr_iaload (hm : zmt[μ]? = some q) (hd : decode q.2.2.1 pc = .ok (.iaload, 1)) : RT (Sp d) μ Q pc l (.inl x :: .inr (.inr a) :: st) M = (zin 0 a x ∧ RT (Sp d) μ Q (pc + 1) l (.inl (M a x.toNat) :: st) M) := by
  rw [zat hm hd]; exact zt1 _
theorem zr_baload (hm : zmt[μ]? = some q) (hd : decode q.2.2.1 pc = .ok (.baload, 1)) : RT (Sp d) μ Q pc l (.inl x :: .inr (.inr a) :: st) M = (zin 1 a x ∧ RT (Sp d) μ Q (pc + 1) l (.inl (M a x.toNat) :: st) M) := by
  rw [zat hm hd]; exact zt1 _
theorem zr_laload (hm : zmt[μ]? = some q) (hd : decode q.2.2.1 pc = .ok (.laload, 1)) : RT (Sp d) μ Q pc l (.inl x :: .inr (.inr a) :: st) M = (zin 2 a x ∧ RT (Sp d) μ Q (pc + 1) l (.inr (.inl (M a x.toNat)) :: st) M) := by
  rw [zat hm hd]; exact zt1 _
theorem zr_aaload (hm : zmt[μ]? = some q) (hd : decode q.2.2.1 pc = .ok (.aaload, 1)) : RT (Sp d) μ Q pc l (.inl x :: .inr (.inr a) :: st) M = (zin 3 a x ∧ RT (Sp d) μ Q (pc + 1) l (.inr (.inr (zaa a x.toNat)) :: st) M) := by
  rw [zat hm hd]; exact zt1 _
theorem zr_iastore (hm : zmt[μ]? = some q) (hd : decode q.2.2.1 pc = .ok (.iastore, 1)) : RT (Sp d) μ Q pc l (.inl y :: .inl x :: .inr (.inr a) :: st) M = (zin 0 a x ∧ RT (Sp d) μ Q (pc + 1) l st (zup M a x.toNat y)) := by
  rw [zat hm hd]; exact zt1 _
theorem zr_bastore (hm : zmt[μ]? = some q) (hd : decode q.2.2.1 pc = .ok (.bastore, 1)) : RT (Sp d) μ Q pc l (.inl y :: .inl x :: .inr (.inr a) :: st) M = (zin 1 a x ∧ zbl y ∧ RT (Sp d) μ Q (pc + 1) l st (zup M a x.toNat y)) := by
  rw [zat hm hd]; exact zt1 _
theorem zr_lastore (hm : zmt[μ]? = some q) (hd : decode q.2.2.1 pc = .ok (.lastore, 1)) : RT (Sp d) μ Q pc l (.inr (.inl y) :: .inl x :: .inr (.inr a) :: st) M = (zin 2 a x ∧ RT (Sp d) μ Q (pc + 1) l st (zup M a x.toNat y)) := by
  rw [zat hm hd]; exact zt1 _
theorem zr_alen (hm : zmt[μ]? = some q) (hd : decode q.2.2.1 pc = .ok (.arraylength, 1)) : RT (Sp d) μ Q pc l (.inr (.inr a) :: st) M = ((zk a).1 < 3 ∧ RT (Sp d) μ Q (pc + 1) l (.inl (((zk a).2.1 : Nat) : Int) :: st) M) := by
  rw [zat hm hd]; exact zt1 _
theorem zr_iret (hm : zmt[μ]? = some q) (hd : decode q.2.2.1 pc = .ok (.ireturn, 1)) (hr : q.2.2.2.2 = some .int) : RT (Sp d) μ Q pc l [.inl x] M = Q (some (.inl x)) M := by
  rw [zat hm hd, hr]; exact zt1 _
theorem zr_zret (hm : zmt[μ]? = some q) (hd : decode q.2.2.1 pc = .ok (.ireturn, 1)) (hr : q.2.2.2.2 = some .boolean) : RT (Sp d) μ Q pc l [.inl x] M = (zbl x ∧ Q (some (.inl x)) M) := by
  rw [zat hm hd, hr]; exact zt1 _
theorem zr_aretO {C : String} (hm : zmt[μ]? = some q) (hd : decode q.2.2.1 pc = .ok (.areturn, 1)) (hr : q.2.2.2.2 = some (.object C)) : RT (Sp d) μ Q pc l [.inr (.inr a)] M = Q (some (.inr (.inr a))) M := by
  rw [zat hm hd, hr]; exact zt1 _
theorem zr_aretA {t : FieldType} (hm : zmt[μ]? = some q) (hd : decode q.2.2.1 pc = .ok (.areturn, 1)) (hr : q.2.2.2.2 = some (.array t)) : RT (Sp d) μ Q pc l [.inr (.inr a)] M = Q (some (.inr (.inr a))) M := by
  rw [zat hm hd, hr]; exact zt1 _
theorem zr_vret (hm : zmt[μ]? = some q) (hd : decode q.2.2.1 pc = .ok (.return_, 1)) (hr : q.2.2.2.2 = none) : RT (Sp d) μ Q pc l [] M = Q none M := by
  rw [zat hm hd, hr]
  exact propext ⟨fun w => w.2.2.2, fun w => ⟨rfl, rfl, rfl, w⟩⟩
theorem zr_callV {idx ν n ci : Nat} {as : List zV} {rest : List zV} (hm : zmt[μ]? = some q) (hd : decode q.2.2.1 pc = .ok (.invokevirtual idx, 3)) (hz : zml q.1 idx = some (0, ν, n, ci)) (hp : ∀ κ : List zV → List zV → Prop, zpop n st κ = κ as (.inr (.inr b) :: rest)) : RT (Sp d) μ Q pc l st M = (zkc b = ci + 1 ∧ zcs rest ∧ Sp d ν (.inr (.inr b) :: as) M (fun r M' => zret (Sp d) μ Q (pc + 3) l rest r M')) := by
  rw [zat hm hd]
  refine (zt1 _).trans ?_
  show (match zml q.1 idx with | some (0, μ, n, ci) => _ | _ => False) = _
  rw [hz]
  exact hp _
theorem zr_callS {idx ν n ci : Nat} {as : List zV} {rest : List zV} (hm : zmt[μ]? = some q) (hd : decode q.2.2.1 pc = .ok (.invokestatic idx, 3)) (hz : zml q.1 idx = some (1, ν, n, ci)) (hp : ∀ κ : List zV → List zV → Prop, zpop n st κ = κ as rest) : RT (Sp d) μ Q pc l st M = (zcs rest ∧ Sp d ν as M (fun r M' => zret (Sp d) μ Q (pc + 3) l rest r M')) := by
  rw [zat hm hd]
  refine (zt1 _).trans ?_
  show (match zml q.1 idx with | some (1, μ, n, ci) => _ | some (2, μ, n, ci) => _ | some (3, μ, n, ci) => _ | some (4, μ, n, ci) => _ | _ => False) = _
  rw [hz]
  exact hp _
theorem zr_callN {idx ν n ci : Nat} {as : List zV} {rest : List zV} (hm : zmt[μ]? = some q) (hd : decode q.2.2.1 pc = .ok (.invokestatic idx, 3)) (hz : zml q.1 idx = some (2, ν, n, ci)) (hp : ∀ κ : List zV → List zV → Prop, zpop n st κ = κ as rest) : RT (Sp d) μ Q pc l st M = (zcs rest ∧ Sp d ν as M (fun r M' => zret (Sp d) μ Q (pc + 3) l rest r M')) := by
  rw [zat hm hd]
  refine (zt1 _).trans ?_
  show (match zml q.1 idx with | some (1, μ, n, ci) => _ | some (2, μ, n, ci) => _ | some (3, μ, n, ci) => _ | some (4, μ, n, ci) => _ | _ => False) = _
  rw [hz]
  exact hp _
def zcp (a0 a1 : Nat) (sp dp n : Int) : Prop := (zk a0).1 = 0 ∧ (zk a1).1 = 0 ∧ 0 ≤ sp ∧ 0 ≤ dp ∧ 0 ≤ n ∧ sp + n ≤ ((zk a0).2.1 : Int) ∧ dp + n ≤ ((zk a1).2.1 : Int)
theorem zr_copy {idx ν n2 ci : Nat} {sp dp n : Int} (hm : zmt[μ]? = some q) (hd : decode q.2.2.1 pc = .ok (.invokestatic idx, 3)) (hz : zml q.1 idx = some (3, ν, n2, ci)) : RT (Sp d) μ Q pc l (.inl n :: .inl dp :: .inr (.inr b) :: .inl sp :: .inr (.inr a) :: st) M = (zcp a b sp dp n ∧ zcs st ∧ RT (Sp d) μ Q (pc + 3) l st (zrow M b (va_cpy (M a) (M b) sp.toNat dp.toNat n.toNat))) := by
  rw [zat hm hd]
  refine (zt1 _).trans ?_
  show (match zml q.1 idx with | some (1, μ, n, ci) => _ | some (2, μ, n, ci) => _ | some (3, μ, n, ci) => _ | some (4, μ, n, ci) => _ | _ => False) = _
  rw [hz]
  rfl
theorem zr_min {idx ν n2 ci : Nat} (hm : zmt[μ]? = some q) (hd : decode q.2.2.1 pc = .ok (.invokestatic idx, 3)) (hz : zml q.1 idx = some (4, ν, n2, ci)) : RT (Sp d) μ Q pc l (.inl y :: .inl x :: st) M = ((zrg x ∧ zrg y) ∧ zcs st ∧ RT (Sp d) μ Q (pc + 3) l (.inl (if y < x then y else x) :: st) M) := by
  rw [zat hm hd]
  refine (zt1 _).trans ?_
  show (match zml q.1 idx with | some (1, μ, n, ci) => _ | some (2, μ, n, ci) => _ | some (3, μ, n, ci) => _ | some (4, μ, n, ci) => _ | _ => False) = _
  rw [hz]
  rfl
theorem zr_entry {as : List zV} {lo : zL} (hm : zmt[μ]? = some q) (h1 : (zsl as).length ≤ q.2.2.2.1) (h2 : zent q.2.2.2.1 as = lo) : Sp (d + 1) μ as M Q = RT (Sp d) μ Q 0 lo [] M := by
  show (match zmt[μ]? with | some q => (zsl as).length ≤ q.2.2.2.1 ∧ RT (Sp d) μ Q 0 (zent q.2.2.2.1 as) [] M | none => False) = _
  rw [hm]
  show ((zsl as).length ≤ q.2.2.2.1 ∧ RT (Sp d) μ Q 0 (zent q.2.2.2.1 as) [] M) = _
  rw [h2]
  exact propext ⟨fun w => w.2, fun w => ⟨h1, w⟩⟩
theorem zr_table {dd lo hi : Int} {offs : Array Int} {len : Nat} (hm : zmt[μ]? = some q) (hd : decode q.2.2.1 pc = .ok (.tableswitch dd lo hi offs, len)) : RT (Sp d) μ Q pc l (.inl x :: st) M = (zrg x ∧ ((x < lo ∨ hi < x) → zjmp pc dd (fun t => RT (Sp d) μ Q t l st M)) ∧ (¬ x < lo → ¬ hi < x → match offs[(x - lo).toNat]? with | some off => zjmp pc off (fun t => RT (Sp d) μ Q t l st M) | none => False)) := by
  rw [zat hm hd]; rfl
theorem zr_lookup {dd : Int} {ps : Array (Int × Int)} {len : Nat} (hm : zmt[μ]? = some q) (hd : decode q.2.2.1 pc = .ok (.lookupswitch dd ps, len)) (hs : (ps.toList.zip (ps.toList.drop 1)).all (fun (a, next) => a.1 < next.1) = true) : RT (Sp d) μ Q pc l (.inl x :: st) M = (zrg x ∧ zjmp pc (Op.lookupswitch.offset ps.toList dd x) (fun t => RT (Sp d) μ Q t l st M)) := by
  rw [zat hm hd]
  show (zrg x ∧ _ ∧ _) = _
  exact propext ⟨fun w => ⟨w.1, w.2.2⟩, fun w => ⟨w.1, hs, w.2⟩⟩
end ZROW
theorem zkf_of {ci k : Nat} {f : Nat → Nat} (h : (List.range zN).all (fun a => decide (zkc a = ci + 1 → zkf a k = some (f a))) = true) : ∀ a, zkc a = ci + 1 → zkf a k = some (f a) := by
  intro a ha
  have hl : a < zN := zk_in (fun q => by unfold zkc at ha; rw [q] at ha; cases ha)
  exact of_decide_eq_true (List.all_eq_true.mp h a (List.mem_range.mpr hl)) ha
