/-! ===== the pure machine, a row an instruction ===== -/
/-- method j comes to its end with this answer and this heap -/
def Run (d j : Nat) (as : List Value) (h : hp) (mc ms : Nat) (v : Option Value) (h' : hp) : Prop := ∀ Q : resP, Q v h' → Ex d j as h mc ms Q
theorem Run.of {d j : Nat} {as : List Value} {h h' : hp} {mc ms : Nat} {v : Option Value} (hc : cats as ≤ mL j) (hw : ∀ Q : resP, Q v h' → Wp (Ex d) j Q 0 (lv_args 0 as) [] h mc ms) : Run (d + 1) j as h mc ms v h' := fun Q hQ => ⟨hc, hw Q hQ⟩
section ROW
variable {C : callP} {j : Nat} {Q : resP} {pc : Nat} {ls : List (Nat × Value)} {st : List Value} {h : hp} {bc bs : Nat}
theorem r_aload_n {k : Fin 4} {a : Nat} (hm : (pc, Instr.aload_n k, 1) ∈ pt j) (hl : ls.lookup (k : Nat) = some (.ref a)) (kk : Wp C j Q (pc + 1) ls (.ref a :: st) h bc bs) : Wp C j Q pc ls st h bc bs :=
  Wp.go (ins := .aload_n k) (len := 1) hm (show lA ls k (fun v => Wp C j Q (pc + 1) ls (v :: st) h bc bs) by unfold lA; rw [hl]; exact kk)
theorem r_aload {k : Nat} {a : Nat} (hm : (pc, Instr.aload k, 2) ∈ pt j) (hl : ls.lookup k = some (.ref a)) (kk : Wp C j Q (pc + 2) ls (.ref a :: st) h bc bs) : Wp C j Q pc ls st h bc bs :=
  Wp.go (ins := .aload k) (len := 2) hm (show lA ls k (fun v => Wp C j Q (pc + 2) ls (v :: st) h bc bs) by unfold lA; rw [hl]; exact kk)
theorem r_aload_nN {k : Fin 4} (hm : (pc, Instr.aload_n k, 1) ∈ pt j) (hl : ls.lookup (k : Nat) = some .null) (kk : Wp C j Q (pc + 1) ls (.null :: st) h bc bs) : Wp C j Q pc ls st h bc bs :=
  Wp.go (ins := .aload_n k) (len := 1) hm (show lA ls k (fun v => Wp C j Q (pc + 1) ls (v :: st) h bc bs) by unfold lA; rw [hl]; exact kk)
theorem r_iload_n {k : Fin 4} {x : Int32} (hm : (pc, Instr.iload_n k, 1) ∈ pt j) (hl : ls.lookup (k : Nat) = some (.int x)) (kk : Wp C j Q (pc + 1) ls (.int x :: st) h bc bs) : Wp C j Q pc ls st h bc bs :=
  Wp.go (ins := .iload_n k) (len := 1) hm (show lI ls k _ by unfold lI; rw [hl]; exact kk)
theorem r_iload {k : Nat} {x : Int32} (hm : (pc, Instr.iload k, 2) ∈ pt j) (hl : ls.lookup k = some (.int x)) (kk : Wp C j Q (pc + 2) ls (.int x :: st) h bc bs) : Wp C j Q pc ls st h bc bs :=
  Wp.go (ins := .iload k) (len := 2) hm (show lI ls k _ by unfold lI; rw [hl]; exact kk)
theorem r_lload_n {k : Fin 4} {x : Int64} (hm : (pc, Instr.lload_n k, 1) ∈ pt j) (hl : ls.lookup (k : Nat) = some (.long x)) (kk : Wp C j Q (pc + 1) ls (.long x :: st) h bc bs) : Wp C j Q pc ls st h bc bs :=
  Wp.go (ins := .lload_n k) (len := 1) hm (show lJ ls k _ by unfold lJ; rw [hl]; exact kk)
theorem r_lload {k : Nat} {x : Int64} (hm : (pc, Instr.lload k, 2) ∈ pt j) (hl : ls.lookup k = some (.long x)) (kk : Wp C j Q (pc + 2) ls (.long x :: st) h bc bs) : Wp C j Q pc ls st h bc bs :=
  Wp.go (ins := .lload k) (len := 2) hm (show lJ ls k _ by unfold lJ; rw [hl]; exact kk)
theorem r_astore_n {k : Fin 4} {a : Nat} {ls' : List (Nat × Value)} (hm : (pc, Instr.astore_n k, 1) ∈ pt j) (hk : (k : Nat) < mL j) (hl : lset1 ls k (.ref a) = ls') (kk : Wp C j Q (pc + 1) ls' st h bc bs) : Wp C j Q pc ls (.ref a :: st) h bc bs :=
  Wp.go (ins := .astore_n k) (len := 1) hm ⟨hk, by subst hl; exact kk⟩
theorem r_astore {k : Nat} {a : Nat} {ls' : List (Nat × Value)} (hm : (pc, Instr.astore k, 2) ∈ pt j) (hk : k < mL j) (hl : lset1 ls k (.ref a) = ls') (kk : Wp C j Q (pc + 2) ls' st h bc bs) : Wp C j Q pc ls (.ref a :: st) h bc bs :=
  Wp.go (ins := .astore k) (len := 2) hm ⟨hk, by subst hl; exact kk⟩
theorem r_astore_nN {k : Fin 4} {ls' : List (Nat × Value)} (hm : (pc, Instr.astore_n k, 1) ∈ pt j) (hk : (k : Nat) < mL j) (hl : lset1 ls k .null = ls') (kk : Wp C j Q (pc + 1) ls' st h bc bs) : Wp C j Q pc ls (.null :: st) h bc bs :=
  Wp.go (ins := .astore_n k) (len := 1) hm ⟨hk, by subst hl; exact kk⟩
theorem r_istore_n {k : Fin 4} {x : Int32} {ls' : List (Nat × Value)} (hm : (pc, Instr.istore_n k, 1) ∈ pt j) (hk : (k : Nat) < mL j) (hl : lset1 ls k (.int x) = ls') (kk : Wp C j Q (pc + 1) ls' st h bc bs) : Wp C j Q pc ls (.int x :: st) h bc bs :=
  Wp.go (ins := .istore_n k) (len := 1) hm ⟨hk, by subst hl; exact kk⟩
theorem r_istore {k : Nat} {x : Int32} {ls' : List (Nat × Value)} (hm : (pc, Instr.istore k, 2) ∈ pt j) (hk : k < mL j) (hl : lset1 ls k (.int x) = ls') (kk : Wp C j Q (pc + 2) ls' st h bc bs) : Wp C j Q pc ls (.int x :: st) h bc bs :=
  Wp.go (ins := .istore k) (len := 2) hm ⟨hk, by subst hl; exact kk⟩
theorem r_lstore_n {k : Fin 4} {x : Int64} {ls' : List (Nat × Value)} (hm : (pc, Instr.lstore_n k, 1) ∈ pt j) (hk : (k : Nat) + 1 < mL j) (hl : lset2 ls k (.long x) = ls') (kk : Wp C j Q (pc + 1) ls' st h bc bs) : Wp C j Q pc ls (.long x :: st) h bc bs :=
  Wp.go (ins := .lstore_n k) (len := 1) hm ⟨hk, by subst hl; exact kk⟩
theorem r_lstore {k : Nat} {x : Int64} {ls' : List (Nat × Value)} (hm : (pc, Instr.lstore k, 2) ∈ pt j) (hk : k + 1 < mL j) (hl : lset2 ls k (.long x) = ls') (kk : Wp C j Q (pc + 2) ls' st h bc bs) : Wp C j Q pc ls (.long x :: st) h bc bs :=
  Wp.go (ins := .lstore k) (len := 2) hm ⟨hk, by subst hl; exact kk⟩
theorem r_iinc {k : Nat} {n : Int} {x y : Int32} {ls' : List (Nat × Value)} (hm : (pc, Instr.iinc k n, 3) ∈ pt j) (hk : k < mL j) (hx : ls.lookup k = some (.int x)) (hy : x + Int32.ofInt n = y) (hl : lset1 ls k (.int y) = ls') (kk : Wp C j Q (pc + 3) ls' st h bc bs) : Wp C j Q pc ls st h bc bs :=
  Wp.go (ins := .iinc k n) (len := 3) hm ⟨hk, show lI ls k _ by unfold lI; rw [hx]; subst hy; subst hl; exact kk⟩
theorem r_iconst {n : Int} {v : Int32} (hm : (pc, Instr.iconst n, 1) ∈ pt j) (hv : Int32.ofInt n = v) (kk : Wp C j Q (pc + 1) ls (.int v :: st) h bc bs) : Wp C j Q pc ls st h bc bs :=
  Wp.go (ins := .iconst n) (len := 1) hm (by subst hv; exact kk)
theorem r_bipush {n : Int} {v : Int32} (hm : (pc, Instr.bipush n, 2) ∈ pt j) (hv : (Int8.ofInt n).toInt32 = v) (kk : Wp C j Q (pc + 2) ls (.int v :: st) h bc bs) : Wp C j Q pc ls st h bc bs :=
  Wp.go (ins := .bipush n) (len := 2) hm (by subst hv; exact kk)
theorem r_sipush {n : Int} {v : Int32} (hm : (pc, Instr.sipush n, 3) ∈ pt j) (hv : (Int16.ofInt n).toInt32 = v) (kk : Wp C j Q (pc + 3) ls (.int v :: st) h bc bs) : Wp C j Q pc ls st h bc bs :=
  Wp.go (ins := .sipush n) (len := 3) hm (by subst hv; exact kk)
theorem r_lconst {n : Fin 2} {v : Int64} (hm : (pc, Instr.lconst n, 1) ∈ pt j) (hv : Int64.ofNat (n : Nat) = v) (kk : Wp C j Q (pc + 1) ls (.long v :: st) h bc bs) : Wp C j Q pc ls st h bc bs :=
  Wp.go (ins := .lconst n) (len := 1) hm (by subst hv; exact kk)
theorem r_null (hm : (pc, Instr.aconst_null, 1) ∈ pt j) (kk : Wp C j Q (pc + 1) ls (.null :: st) h bc bs) : Wp C j Q pc ls st h bc bs := Wp.go (ins := .aconst_null) (len := 1) hm kk
theorem r_ldc2 {i : Nat} {v : Int64} {q : Nat} (hm : (pc, Instr.ldc2_w i, 3) ∈ pt j) (hv : lres (mO j) i = some (v, q)) (kk : Wp C j Q (pc + 3) ls (.long v :: st) h bc bs) : Wp C j Q pc ls st h bc bs := Wp.go (ins := .ldc2_w i) (len := 3) hm ⟨v, q, hv, kk⟩
theorem r_iadd {x y : Int32} (hm : (pc, Instr.iadd, 1) ∈ pt j) (kk : Wp C j Q (pc + 1) ls (.int (x + y) :: st) h bc bs) : Wp C j Q pc ls (.int y :: .int x :: st) h bc bs := Wp.go (ins := .iadd) (len := 1) hm kk
theorem r_isub {x y : Int32} (hm : (pc, Instr.isub, 1) ∈ pt j) (kk : Wp C j Q (pc + 1) ls (.int (x - y) :: st) h bc bs) : Wp C j Q pc ls (.int y :: .int x :: st) h bc bs := Wp.go (ins := .isub) (len := 1) hm kk
theorem r_imul {x y : Int32} (hm : (pc, Instr.imul, 1) ∈ pt j) (kk : Wp C j Q (pc + 1) ls (.int (x * y) :: st) h bc bs) : Wp C j Q pc ls (.int y :: .int x :: st) h bc bs := Wp.go (ins := .imul) (len := 1) hm kk
theorem r_idiv {x y : Int32} (hm : (pc, Instr.idiv, 1) ∈ pt j) (hy : ¬ y = 0) (kk : Wp C j Q (pc + 1) ls (.int (x / y) :: st) h bc bs) : Wp C j Q pc ls (.int y :: .int x :: st) h bc bs := Wp.go (ins := .idiv) (len := 1) hm ⟨hy, kk⟩
theorem r_irem {x y : Int32} (hm : (pc, Instr.irem, 1) ∈ pt j) (hy : ¬ y = 0) (kk : Wp C j Q (pc + 1) ls (.int (x - x / y * y) :: st) h bc bs) : Wp C j Q pc ls (.int y :: .int x :: st) h bc bs := Wp.go (ins := .irem) (len := 1) hm ⟨hy, kk⟩
theorem r_iand {x y : Int32} (hm : (pc, Instr.iand, 1) ∈ pt j) (kk : Wp C j Q (pc + 1) ls (.int (x &&& y) :: st) h bc bs) : Wp C j Q pc ls (.int y :: .int x :: st) h bc bs := Wp.go (ins := .iand) (len := 1) hm kk
theorem r_ixor {x y : Int32} (hm : (pc, Instr.ixor, 1) ∈ pt j) (kk : Wp C j Q (pc + 1) ls (.int (x ^^^ y) :: st) h bc bs) : Wp C j Q pc ls (.int y :: .int x :: st) h bc bs := Wp.go (ins := .ixor) (len := 1) hm kk
theorem r_ishl {x y : Int32} (hm : (pc, Instr.ishl, 1) ∈ pt j) (kk : Wp C j Q (pc + 1) ls (.int (x <<< (y &&& 31)) :: st) h bc bs) : Wp C j Q pc ls (.int y :: .int x :: st) h bc bs := Wp.go (ins := .ishl) (len := 1) hm kk
theorem r_ishr {x y : Int32} (hm : (pc, Instr.ishr, 1) ∈ pt j) (kk : Wp C j Q (pc + 1) ls (.int (x >>> (y &&& 31)) :: st) h bc bs) : Wp C j Q pc ls (.int y :: .int x :: st) h bc bs := Wp.go (ins := .ishr) (len := 1) hm kk
theorem r_ladd {x y : Int64} (hm : (pc, Instr.ladd, 1) ∈ pt j) (kk : Wp C j Q (pc + 1) ls (.long (x + y) :: st) h bc bs) : Wp C j Q pc ls (.long y :: .long x :: st) h bc bs := Wp.go (ins := .ladd) (len := 1) hm kk
theorem r_lsub {x y : Int64} (hm : (pc, Instr.lsub, 1) ∈ pt j) (kk : Wp C j Q (pc + 1) ls (.long (x - y) :: st) h bc bs) : Wp C j Q pc ls (.long y :: .long x :: st) h bc bs := Wp.go (ins := .lsub) (len := 1) hm kk
theorem r_land {x y : Int64} (hm : (pc, Instr.land, 1) ∈ pt j) (kk : Wp C j Q (pc + 1) ls (.long (x &&& y) :: st) h bc bs) : Wp C j Q pc ls (.long y :: .long x :: st) h bc bs := Wp.go (ins := .land) (len := 1) hm kk
theorem r_lor {x y : Int64} (hm : (pc, Instr.lor, 1) ∈ pt j) (kk : Wp C j Q (pc + 1) ls (.long (x ||| y) :: st) h bc bs) : Wp C j Q pc ls (.long y :: .long x :: st) h bc bs := Wp.go (ins := .lor) (len := 1) hm kk
theorem r_lxor {x y : Int64} (hm : (pc, Instr.lxor, 1) ∈ pt j) (kk : Wp C j Q (pc + 1) ls (.long (x ^^^ y) :: st) h bc bs) : Wp C j Q pc ls (.long y :: .long x :: st) h bc bs := Wp.go (ins := .lxor) (len := 1) hm kk
theorem r_lneg {x : Int64} (hm : (pc, Instr.lneg, 1) ∈ pt j) (kk : Wp C j Q (pc + 1) ls (.long (-x) :: st) h bc bs) : Wp C j Q pc ls (.long x :: st) h bc bs := Wp.go (ins := .lneg) (len := 1) hm kk
theorem r_lcmp {x y : Int64} (hm : (pc, Instr.lcmp, 1) ∈ pt j) (kk : Wp C j Q (pc + 1) ls (.int (lg_cmp x y) :: st) h bc bs) : Wp C j Q pc ls (.long y :: .long x :: st) h bc bs := Wp.go (ins := .lcmp) (len := 1) hm kk
theorem r_lshl {x : Int64} {y : Int32} (hm : (pc, Instr.lshl, 1) ∈ pt j) (kk : Wp C j Q (pc + 1) ls (.long (x <<< (y.toInt64 &&& 63)) :: st) h bc bs) : Wp C j Q pc ls (.int y :: .long x :: st) h bc bs := Wp.go (ins := .lshl) (len := 1) hm kk
theorem r_lshr {x : Int64} {y : Int32} (hm : (pc, Instr.lshr, 1) ∈ pt j) (kk : Wp C j Q (pc + 1) ls (.long (x >>> (y.toInt64 &&& 63)) :: st) h bc bs) : Wp C j Q pc ls (.int y :: .long x :: st) h bc bs := Wp.go (ins := .lshr) (len := 1) hm kk
theorem r_lushr {x : Int64} {y : Int32} (hm : (pc, Instr.lushr, 1) ∈ pt j) (kk : Wp C j Q (pc + 1) ls (.long (x.toUInt64 >>> (y.toInt64.toUInt64 &&& Int64.toUInt64 63)).toInt64 :: st) h bc bs) : Wp C j Q pc ls (.int y :: .long x :: st) h bc bs := Wp.go (ins := .lushr) (len := 1) hm kk
theorem r_l2i {x : Int64} (hm : (pc, Instr.l2i, 1) ∈ pt j) (kk : Wp C j Q (pc + 1) ls (.int x.toInt32 :: st) h bc bs) : Wp C j Q pc ls (.long x :: st) h bc bs := Wp.go (ins := .l2i) (len := 1) hm kk
theorem r_i2b {x : Int32} (hm : (pc, Instr.i2b, 1) ∈ pt j) (kk : Wp C j Q (pc + 1) ls (.int x.toInt8.toInt32 :: st) h bc bs) : Wp C j Q pc ls (.int x :: st) h bc bs := Wp.go (ins := .i2b) (len := 1) hm kk
theorem r_dup {v : Value} (hm : (pc, Instr.dup, 1) ∈ pt j) (hv : v.category = 1) (kk : Wp C j Q (pc + 1) ls (v :: v :: st) h bc bs) : Wp C j Q pc ls (v :: st) h bc bs := Wp.go (ins := .dup) (len := 1) hm ⟨hv, kk⟩
theorem r_dup2 {v u : Value} (hm : (pc, Instr.dup2, 1) ∈ pt j) (hv : v.category = 1) (hu : u.category = 1) (kk : Wp C j Q (pc + 1) ls (v :: u :: v :: u :: st) h bc bs) : Wp C j Q pc ls (v :: u :: st) h bc bs := Wp.go (ins := .dup2) (len := 1) hm ⟨hv, hu, kk⟩
theorem r_pop {v : Value} (hm : (pc, Instr.pop, 1) ∈ pt j) (hv : v.category = 1) (kk : Wp C j Q (pc + 1) ls st h bc bs) : Wp C j Q pc ls (v :: st) h bc bs := Wp.go (ins := .pop) (len := 1) hm ⟨hv, kk⟩
theorem j_of {pc t : Nat} {off : Int} (ht : (pc : Int) + off = (t : Int)) : jok pc off ∧ jmp pc off = t := by
  unfold jok jmp
  rw [ht]
  exact ⟨Int.natCast_nonneg t, Int.toNat_natCast t⟩
theorem r_goto (t : Nat) {off : Int} (hm : (pc, Instr.goto off, 3) ∈ pt j) (ht : (pc : Int) + off = (t : Int)) (kk : Wp C j Q t ls st h bc bs) : Wp C j Q pc ls st h bc bs :=
  Wp.go (ins := .goto off) (len := 3) hm ⟨(j_of ht).1, by rw [(j_of ht).2]; exact kk⟩
theorem r_if (t : Nat) {c : Jvm.ClassFile.Cond} {off : Int} {x : Int32} (hm : (pc, Instr.ifCond c off, 3) ∈ pt j) (ht : (pc : Int) + off = (t : Int)) (kt : cIf c x → Wp C j Q t ls st h bc bs) (kf : ¬ cIf c x → Wp C j Q (pc + 3) ls st h bc bs) : Wp C j Q pc ls (.int x :: st) h bc bs :=
  Wp.go (ins := .ifCond c off) (len := 3) hm ⟨(j_of ht).1, fun q => by rw [(j_of ht).2]; exact kt q, kf⟩
theorem r_icmp (t : Nat) {c : Jvm.ClassFile.Cond} {off : Int} {x y : Int32} (hm : (pc, Instr.if_icmp c off, 3) ∈ pt j) (ht : (pc : Int) + off = (t : Int)) (kt : cIcmp c x y → Wp C j Q t ls st h bc bs) (kf : ¬ cIcmp c x y → Wp C j Q (pc + 3) ls st h bc bs) : Wp C j Q pc ls (.int y :: .int x :: st) h bc bs :=
  Wp.go (ins := .if_icmp c off) (len := 3) hm ⟨(j_of ht).1, fun q => by rw [(j_of ht).2]; exact kt q, kf⟩
theorem r_ifnull {off : Int} {a : Nat} (hm : (pc, Instr.ifnull off, 3) ∈ pt j) (hj : jok pc off) (kk : Wp C j Q (pc + 3) ls st h bc bs) : Wp C j Q pc ls (.ref a :: st) h bc bs :=
  Wp.go (ins := .ifnull off) (len := 3) hm ⟨hj, (⟨fun q => absurd q (fun z => by cases z), fun _ => kk⟩ : (Value.ref a = Value.null → Wp C j Q (jmp pc off) ls st h bc bs) ∧ (¬ Value.ref a = Value.null → Wp C j Q (pc + 3) ls st h bc bs))⟩
theorem r_ifnullN (t : Nat) {off : Int} (hm : (pc, Instr.ifnull off, 3) ∈ pt j) (ht : (pc : Int) + off = (t : Int)) (kk : Wp C j Q t ls st h bc bs) : Wp C j Q pc ls (.null :: st) h bc bs :=
  Wp.go (ins := .ifnull off) (len := 3) hm ⟨(j_of ht).1, fun _ => by rw [(j_of ht).2]; exact kk, fun q => absurd rfl q⟩
theorem r_ifnonnull (t : Nat) {off : Int} {a : Nat} (hm : (pc, Instr.ifnonnull off, 3) ∈ pt j) (ht : (pc : Int) + off = (t : Int)) (kk : Wp C j Q t ls st h bc bs) : Wp C j Q pc ls (.ref a :: st) h bc bs :=
  Wp.go (ins := .ifnonnull off) (len := 3) hm ⟨(j_of ht).1, fun _ => by rw [(j_of ht).2]; exact kk, fun q => by cases q⟩
theorem r_ifnonnullN {off : Int} (hm : (pc, Instr.ifnonnull off, 3) ∈ pt j) (hj : jok pc off) (kk : Wp C j Q (pc + 3) ls st h bc bs) : Wp C j Q pc ls (.null :: st) h bc bs :=
  Wp.go (ins := .ifnonnull off) (len := 3) hm ⟨hj, fun q => absurd rfl q, fun _ => kk⟩
theorem r_swOut (t : Nat) {d lo hi : Int} {offs : Array Int} {len : Nat} {x : Int32} (hm : (pc, Instr.tableswitch d lo hi offs, len) ∈ pt j) (hx : x.toInt < lo ∨ hi < x.toInt) (ht : (pc : Int) + d = (t : Int)) (kk : Wp C j Q t ls st h bc bs) : Wp C j Q pc ls (.int x :: st) h bc bs :=
  Wp.go (ins := .tableswitch d lo hi offs) (len := len) hm ⟨fun _ => ⟨(j_of ht).1, by rw [(j_of ht).2]; exact kk⟩, fun a b => absurd hx (by omega)⟩
theorem r_swIn (t : Nat) {d lo hi off : Int} {offs : Array Int} {len : Nat} {x : Int32} (hm : (pc, Instr.tableswitch d lo hi offs, len) ∈ pt j) (h1 : ¬ x.toInt < lo) (h2 : ¬ hi < x.toInt) (ho : offs[(x.toInt - lo).toNat]? = some off) (ht : (pc : Int) + off = (t : Int)) (kk : Wp C j Q t ls st h bc bs) : Wp C j Q pc ls (.int x :: st) h bc bs :=
  Wp.go (ins := .tableswitch d lo hi offs) (len := len) hm ⟨fun q => absurd q (by omega), fun _ _ => ⟨off, ho, (j_of ht).1, by rw [(j_of ht).2]; exact kk⟩⟩
theorem r_iaload {a n : Nat} {i x : Int32} (hm : (pc, Instr.iaload, 1) ∈ pt j) (hk : hK h a = (1, n)) (hi : vp_in i n) (hx : hI h a i.toNatClampNeg = x) (kk : Wp C j Q (pc + 1) ls (.int x :: st) h bc bs) : Wp C j Q pc ls (.int i :: .ref a :: st) h bc bs :=
  Wp.go (ins := .iaload) (len := 1) hm (by subst hx; exact ⟨by rw [hk]; rfl, by rw [hk]; exact hi, kk⟩)
theorem r_iaload7 {a n : Nat} {i x : Int32} (hm : (pc, Instr.iaload, 1) ∈ pt j) (hk : hK h a = (7, n)) (hi : vp_in i n) (hx : hI h a i.toNatClampNeg = x) (kk : Wp C j Q (pc + 1) ls (.int x :: st) h bc bs) : Wp C j Q pc ls (.int i :: .ref a :: st) h bc bs :=
  Wp.go (ins := .iaload) (len := 1) hm (by subst hx; exact ⟨by rw [hk]; rfl, by rw [hk]; exact hi, kk⟩)
theorem r_laload {a n : Nat} {i : Int32} {x : Int64} (hm : (pc, Instr.laload, 1) ∈ pt j) (hk : hK h a = (2, n)) (hi : vp_in i n) (hx : hJ h a i.toNatClampNeg = x) (kk : Wp C j Q (pc + 1) ls (.long x :: st) h bc bs) : Wp C j Q pc ls (.int i :: .ref a :: st) h bc bs :=
  Wp.go (ins := .laload) (len := 1) hm (by subst hx; exact ⟨by rw [hk]; rfl, by rw [hk]; exact hi, kk⟩)
theorem r_laload8 {a n : Nat} {i : Int32} {x : Int64} (hm : (pc, Instr.laload, 1) ∈ pt j) (hk : hK h a = (8, n)) (hi : vp_in i n) (hx : hJ h a i.toNatClampNeg = x) (kk : Wp C j Q (pc + 1) ls (.long x :: st) h bc bs) : Wp C j Q pc ls (.int i :: .ref a :: st) h bc bs :=
  Wp.go (ins := .laload) (len := 1) hm (by subst hx; exact ⟨by rw [hk]; rfl, by rw [hk]; exact hi, kk⟩)
theorem r_baload {a n : Nat} {i x : Int32} (hm : (pc, Instr.baload, 1) ∈ pt j) (hk : hK h a = (3, n)) (hi : vp_in i n) (hx : hI h a i.toNatClampNeg = x) (kk : Wp C j Q (pc + 1) ls (.int x :: st) h bc bs) : Wp C j Q pc ls (.int i :: .ref a :: st) h bc bs :=
  Wp.go (ins := .baload) (len := 1) hm (by subst hx; exact ⟨Or.inl (by rw [hk]), by rw [hk]; exact hi, kk⟩)
theorem r_zaload {a n : Nat} {i x : Int32} (hm : (pc, Instr.baload, 1) ∈ pt j) (hk : hK h a = (4, n)) (hi : vp_in i n) (hx : hI h a i.toNatClampNeg = x) (kk : Wp C j Q (pc + 1) ls (.int x :: st) h bc bs) : Wp C j Q pc ls (.int i :: .ref a :: st) h bc bs :=
  Wp.go (ins := .baload) (len := 1) hm (by subst hx; exact ⟨Or.inr (by rw [hk]), by rw [hk]; exact hi, kk⟩)
theorem r_aaload5 {a n b : Nat} {i : Int32} (hm : (pc, Instr.aaload, 1) ∈ pt j) (hk : hK h a = (5, n)) (hi : vp_in i n) (hx : hR h a i.toNatClampNeg = some b) (kk : Wp C j Q (pc + 1) ls (.ref b :: st) h bc bs) : Wp C j Q pc ls (.int i :: .ref a :: st) h bc bs :=
  Wp.go (ins := .aaload) (len := 1) hm ⟨Or.inl (by rw [hk]), by rw [hk]; exact hi, by rw [hx]; exact kk⟩
theorem r_aaload6 {a n b : Nat} {i : Int32} (hm : (pc, Instr.aaload, 1) ∈ pt j) (hk : hK h a = (6, n)) (hi : vp_in i n) (hx : hR h a i.toNatClampNeg = some b) (kk : Wp C j Q (pc + 1) ls (.ref b :: st) h bc bs) : Wp C j Q pc ls (.int i :: .ref a :: st) h bc bs :=
  Wp.go (ins := .aaload) (len := 1) hm ⟨Or.inr (by rw [hk]), by rw [hk]; exact hi, by rw [hx]; exact kk⟩
theorem r_iastore {a n : Nat} {i x : Int32} (hm : (pc, Instr.iastore, 1) ∈ pt j) (hk : hK h a = (1, n)) (hi : vp_in i n) (kk : Wp C j Q (pc + 1) ls st (sI h a i.toNatClampNeg x) bc bs) : Wp C j Q pc ls (.int x :: .int i :: .ref a :: st) h bc bs :=
  Wp.go (ins := .iastore) (len := 1) hm ⟨by rw [hk], by rw [hk]; exact hi, kk⟩
theorem r_bastore {a n : Nat} {i x : Int32} (hm : (pc, Instr.bastore, 1) ∈ pt j) (hk : hK h a = (3, n)) (hi : vp_in i n) (kk : Wp C j Q (pc + 1) ls st (sI h a i.toNatClampNeg (vp_nar .byte x)) bc bs) : Wp C j Q pc ls (.int x :: .int i :: .ref a :: st) h bc bs :=
  Wp.go (ins := .bastore) (len := 1) hm (Or.inl ⟨by rw [hk], by rw [hk]; exact hi, kk⟩)
theorem r_zastore {a n : Nat} {i x : Int32} (hm : (pc, Instr.bastore, 1) ∈ pt j) (hk : hK h a = (4, n)) (hi : vp_in i n) (kk : Wp C j Q (pc + 1) ls st (sI h a i.toNatClampNeg (vp_nar .boolean x)) bc bs) : Wp C j Q pc ls (.int x :: .int i :: .ref a :: st) h bc bs :=
  Wp.go (ins := .bastore) (len := 1) hm (Or.inr ⟨by rw [hk], by rw [hk]; exact hi, kk⟩)
theorem r_lastore {a n : Nat} {i : Int32} {x : Int64} (hm : (pc, Instr.lastore, 1) ∈ pt j) (hk : hK h a = (2, n)) (hi : vp_in i n) (kk : Wp C j Q (pc + 1) ls st (sJ h a i.toNatClampNeg x) bc bs) : Wp C j Q pc ls (.long x :: .int i :: .ref a :: st) h bc bs :=
  Wp.go (ins := .lastore) (len := 1) hm ⟨by rw [hk], by rw [hk]; exact hi, kk⟩
theorem r_alen {a t n : Nat} (hm : (pc, Instr.arraylength, 1) ∈ pt j) (hk : hK h a = (t, n)) (h1 : 1 ≤ t) (h8 : t ≤ 8) (kk : Wp C j Q (pc + 1) ls (.int (Int32.ofNat n) :: st) h bc bs) : Wp C j Q pc ls (.ref a :: st) h bc bs :=
  Wp.go (ins := .arraylength) (len := 1) hm ⟨by rw [hk]; exact h1, by rw [hk]; exact h8, by rw [hk]; exact kk⟩
theorem r_newa {t : ArrayType} {x : Int32} {n : Nat} (hm : (pc, Instr.newarray t, 2) ∈ pt j) (h1 : 1 ≤ atag t) (h4 : atag t ≤ 4) (hx : ¬ x < 0) (hn : x.toNatClampNeg = n) (h6 : n ≤ 60000000) (hc : 1 ≤ bc) (hs : n ≤ bs) (kk : Wp C j Q (pc + 2) ls (.ref (hN h) :: st) (hnew h (atag t) n) (bc - 1) (bs - n)) : Wp C j Q pc ls (.int x :: st) h bc bs :=
  Wp.go (ins := .newarray t) (len := 2) hm (by subst hn; exact ⟨h1, h4, hx, h6, hc, hs, kk⟩)
theorem r_grid {i : Nat} {x y : Int32} {t n k q : Nat} (hm : (pc, Instr.multianewarray i 2, 4) ∈ pt j) (hg : gres (mO j) i = (t, q)) (ht : t = 5 ∨ t = 6) (hx : ¬ x < 0) (hy : ¬ y < 0) (hn : x.toNatClampNeg = n) (hk : y.toNatClampNeg = k) (h1 : n ≤ 100000) (h2 : k ≤ 100000) (hc : 1 + n ≤ bc) (hs : n + n * k ≤ bs)
    (kk : Wp C j Q (pc + 4) ls (.ref (hN h) :: st) (hgrid h t (t - 4) n k) (bc - (1 + n)) (bs - (n + n * k))) : Wp C j Q pc ls (.int y :: .int x :: st) h bc bs :=
  Wp.go (ins := .multianewarray i 2) (len := 4) hm ⟨rfl, by subst hn; subst hk; show (_ ∨ _) ∧ _; rw [hg]; exact ⟨ht, hx, hy, h1, h2, hc, hs, kk⟩⟩
theorem r_getI {i a ci k q : Nat} {x : Int32} (hm : (pc, Instr.getfield i, 3) ∈ pt j) (hf : fres (mO j) i = (ci, k, q)) (hci : ci < 10) (hk : hK h a = (0, ci)) (hty : ∀ u v r, pval (fT ci k) u v r = .int u) (hx : hI h a k = x) (kk : Wp C j Q (pc + 3) ls (.int x :: st) h bc bs) : Wp C j Q pc ls (.ref a :: st) h bc bs :=
  Wp.go (ins := .getfield i) (len := 3) hm (by subst hx; show _ ∧ _; rw [hf]; exact ⟨hk, hci, by rw [hty]; exact kk⟩)
theorem r_getR {i a b ci k q : Nat} (hm : (pc, Instr.getfield i, 3) ∈ pt j) (hf : fres (mO j) i = (ci, k, q)) (hci : ci < 10) (hk : hK h a = (0, ci)) (hty : ∀ u v r, pval (fT ci k) u v r = va_rf r) (hx : hR h a k = some b) (kk : Wp C j Q (pc + 3) ls (.ref b :: st) h bc bs) : Wp C j Q pc ls (.ref a :: st) h bc bs :=
  Wp.go (ins := .getfield i) (len := 3) hm (by show _ ∧ _; rw [hf]; exact ⟨hk, hci, by rw [hty, hx]; exact kk⟩)
theorem r_putI {i a ci k q : Nat} {x : Int32} (hm : (pc, Instr.putfield i, 3) ∈ pt j) (hf : fres (mO j) i = (ci, k, q)) (hci : ci < 10) (hk : hK h a = (0, ci)) (hfin : (clT ci k).2.2.2 = false) (hty : fT ci k = .int) (kk : Wp C j Q (pc + 3) ls st (sI h a k x) bc bs) : Wp C j Q pc ls (.int x :: .ref a :: st) h bc bs :=
  Wp.go (ins := .putfield i) (len := 3) hm (by show _ ∧ _; rw [hf]; exact ⟨hk, hci, Or.inl hfin, by rw [hty]; exact kk⟩)
theorem r_putZ {i a ci k q : Nat} {x : Int32} (hm : (pc, Instr.putfield i, 3) ∈ pt j) (hf : fres (mO j) i = (ci, k, q)) (hci : ci < 10) (hk : hK h a = (0, ci)) (hfin : (clT ci k).2.2.2 = false) (hty : fT ci k = .boolean) (hx : x = 0 ∨ x = 1) (kk : Wp C j Q (pc + 3) ls st (sI h a k x) bc bs) : Wp C j Q pc ls (.int x :: .ref a :: st) h bc bs :=
  Wp.go (ins := .putfield i) (len := 3) hm (by show _ ∧ _; rw [hf]; exact ⟨hk, hci, Or.inl hfin, by rw [hty]; exact ⟨hx, kk⟩⟩)
theorem r_putR {i a b ci k q : Nat} (hm : (pc, Instr.putfield i, 3) ∈ pt j) (hf : fres (mO j) i = (ci, k, q)) (hci : ci < 10) (hk : hK h a = (0, ci)) (hfin : (clT ci k).2.2.2 = false ∨ ((clT ci k).2.2.2 = true ∧ (mY j).name = "<init>" ∧ mO j = ci)) (hty : (∃ C, fT ci k = .object C) ∨ ∃ t, fT ci k = .array t) (kk : Wp C j Q (pc + 3) ls st (sR h a k (some b)) bc bs) : Wp C j Q pc ls (.ref b :: .ref a :: st) h bc bs :=
  Wp.go (ins := .putfield i) (len := 3) hm (by
    show _ ∧ _
    rw [hf]
    refine ⟨hk, hci, hfin, ?_⟩
    rcases hty with ⟨D, e⟩ | ⟨t, e⟩ <;> rw [e] <;> exact kk)
theorem r_gets (hm : (pc, Instr.getstatic 103, 3) ∈ pt j) (ho : mO j = 3) (kk : Wp C j Q (pc + 3) ls (.ref 1 :: st) h bc bs) : Wp C j Q pc ls st h bc bs := Wp.go (ins := .getstatic 103) (len := 3) hm ⟨ho, rfl, kk⟩
theorem r_new {i ci q : Nat} (hm : (pc, Instr.new i, 3) ∈ pt j) (hn : nres (mO j) i = (ci, q)) (hci : ci < 10) (hc : 1 ≤ bc) (hs : clN ci ≤ bs) (kk : Wp C j Q (pc + 3) ls (.ref (hN h) :: st) (hnew h 0 ci) (bc - 1) (bs - clN ci)) : Wp C j Q pc ls st h bc bs :=
  Wp.go (ins := .new i) (len := 3) hm (by show _ ∧ _; rw [hn]; exact ⟨hci, hc, hs, kk⟩)
theorem r_vret (hm : (pc, Instr.return_, 1) ∈ pt j) (hr : mRt j = none) (hq : Q none h) : Wp C j Q pc ls [] h bc bs := Wp.go (ins := .return_) (len := 1) hm (show retK (mRt j) .return_ [] (fun v => Q v h) by rw [hr]; exact hq)
theorem r_iret {x : Int32} (hm : (pc, Instr.ireturn, 1) ∈ pt j) (hr : mRt j = some .int) (hq : Q (some (.int x)) h) : Wp C j Q pc ls [.int x] h bc bs := Wp.go (ins := .ireturn) (len := 1) hm (show retK (mRt j) .ireturn [.int x] (fun v => Q v h) by rw [hr]; exact hq)
theorem r_zret {x : Int32} (hm : (pc, Instr.ireturn, 1) ∈ pt j) (hr : mRt j = some .boolean) (hx : x = 0 ∨ x = 1) (hq : Q (some (.int x)) h) : Wp C j Q pc ls [.int x] h bc bs := Wp.go (ins := .ireturn) (len := 1) hm (show retK (mRt j) .ireturn [.int x] (fun v => Q v h) by rw [hr]; exact ⟨hx, hq⟩)
theorem r_lret {x : Int64} (hm : (pc, Instr.lreturn, 1) ∈ pt j) (hr : mRt j = some .long) (hq : Q (some (.long x)) h) : Wp C j Q pc ls [.long x] h bc bs := Wp.go (ins := .lreturn) (len := 1) hm (show retK (mRt j) .lreturn [.long x] (fun v => Q v h) by rw [hr]; exact hq)
theorem r_aret {a : Nat} {n : String} (hm : (pc, Instr.areturn, 1) ∈ pt j) (hr : mRt j = some (.object n)) (hq : Q (some (.ref a)) h) : Wp C j Q pc ls [.ref a] h bc bs := Wp.go (ins := .areturn) (len := 1) hm (show retK (mRt j) .areturn [.ref a] (fun v => Q v h) by rw [hr]; exact hq)
theorem r_nret {n : String} (hm : (pc, Instr.areturn, 1) ∈ pt j) (hr : mRt j = some (.object n)) (hq : Q (some .null) h) : Wp C j Q pc ls [.null] h bc bs := Wp.go (ins := .areturn) (len := 1) hm (show retK (mRt j) .areturn [.null] (fun v => Q v h) by rw [hr]; exact hq)
end ROW
section RCALL
variable {d : Nat} {j : Nat} {Q : resP} {pc : Nat} {ls : List (Nat × Value)} {st : List Value} {h h' : hp} {bc bs mc ms : Nat}
/-- a virtual call: n arguments and the receiver, cut off the stack by 'hst' -/
theorem r_cV {i ca n q a : Nat} {as rest : List Value} {v : Option Value} (hm : (pc, Instr.invokevirtual i, 3) ∈ pt j) (hc : cres (mO j) i = (1, ca, n, q)) (hd : st.drop n = .ref a :: rest) (ht : (st.take n).reverse = as) (hk : hK h a = (0, mO ca)) (h8 : cats rest ≤ 8) (h1 : mc ≤ bc) (h2 : ms ≤ bs) (hR : Run d ca (.ref a :: as) h mc ms v h')
    (kk : Wp (Ex d) j Q (pc + 3) ls (v.toList ++ rest) h' (bc - mc) (bs - ms)) : Wp (Ex d) j Q pc ls st h bc bs :=
  Wp.go (ins := .invokevirtual i) (len := 3) hm (by
    show _ ∧ _
    rw [hc]
    refine ⟨rfl, ?_⟩
    dsimp only
    rw [hd, ht]
    exact ⟨hk, h8, mc, ms, fun v' h'' => v' = v ∧ h'' = h', h1, h2, hR _ ⟨rfl, rfl⟩, fun v' h'' e => by obtain ⟨rfl, rfl⟩ := e; exact kk⟩)
theorem r_cS {i ca n q : Nat} {as rest : List Value} {v : Option Value} (hm : (pc, Instr.invokestatic i, 3) ∈ pt j) (hc : cres (mO j) i = (2, ca, n, q)) (hl : n ≤ st.length) (hd : st.drop n = rest) (ht : (st.take n).reverse = as) (h8 : cats rest ≤ 8) (h1 : mc ≤ bc) (h2 : ms ≤ bs) (hR : Run d ca as h mc ms v h')
    (kk : Wp (Ex d) j Q (pc + 3) ls (v.toList ++ rest) h' (bc - mc) (bs - ms)) : Wp (Ex d) j Q pc ls st h bc bs :=
  Wp.go (ins := .invokestatic i) (len := 3) hm (by
    show _ ∨ _
    rw [hc]
    refine Or.inl ⟨rfl, hl, ?_⟩
    dsimp only
    rw [hd, ht]
    exact ⟨h8, mc, ms, fun v' h'' => v' = v ∧ h'' = h', h1, h2, hR _ ⟨rfl, rfl⟩, fun v' h'' e => by obtain ⟨rfl, rfl⟩ := e; exact kk⟩)
theorem r_cI {i kd ca n q a : Nat} {as rest : List Value} {v : Option Value} (hm : (pc, Instr.invokespecial i, 3) ∈ pt j) (hc : cres (mO j) i = (kd, ca, n, q)) (hkd : kd = 3 ∨ kd = 5) (hd : st.drop n = .ref a :: rest) (ht : (st.take n).reverse = as) (h8 : cats rest ≤ 8) (h1 : mc ≤ bc) (h2 : ms ≤ bs) (hR : Run d ca (.ref a :: as) h mc ms v h')
    (kk : Wp (Ex d) j Q (pc + 3) ls (v.toList ++ rest) h' (bc - mc) (bs - ms)) : Wp (Ex d) j Q pc ls st h bc bs :=
  Wp.go (ins := .invokespecial i) (len := 3) hm (by
    show _ ∨ _
    rw [hc]
    refine Or.inr ⟨hkd, ?_⟩
    dsimp only
    rw [hd, ht]
    exact ⟨h8, mc, ms, fun v' h'' => v' = v ∧ h'' = h', h1, h2, hR _ ⟨rfl, rfl⟩, fun v' h'' e => by obtain ⟨rfl, rfl⟩ := e; exact kk⟩)
theorem r_obj {C : callP} {i a q c n : Nat} (hm : (pc, Instr.invokespecial i, 3) ∈ pt j) (hc : cres (mO j) i = (4, c, n, q)) (h8 : cats st ≤ 8) (kk : Wp C j Q (pc + 3) ls st h bc bs) : Wp C j Q pc ls (.ref a :: st) h bc bs :=
  Wp.go (ins := .invokespecial i) (len := 3) hm (by
    show _ ∨ _
    rw [hc]
    exact Or.inl ⟨rfl, h8, kk⟩)
theorem r_max {C : callP} {i q c n : Nat} {x y : Int32} (hm : (pc, Instr.invokestatic i, 3) ∈ pt j) (hc : cres (mO j) i = (6, c, n, q)) (h8 : cats st ≤ 8) (kk : Wp C j Q (pc + 3) ls (.int (if x < y then y else x) :: st) h bc bs) : Wp C j Q pc ls (.int y :: .int x :: st) h bc bs :=
  Wp.go (ins := .invokestatic i) (len := 3) hm (by
    show _ ∨ _
    rw [hc]
    exact Or.inr (Or.inl ⟨rfl, h8, kk⟩))
theorem r_min {C : callP} {i q c n : Nat} {x y : Int32} (hm : (pc, Instr.invokestatic i, 3) ∈ pt j) (hc : cres (mO j) i = (7, c, n, q)) (h8 : cats st ≤ 8) (kk : Wp C j Q (pc + 3) ls (.int (if y < x then y else x) :: st) h bc bs) : Wp C j Q pc ls (.int y :: .int x :: st) h bc bs :=
  Wp.go (ins := .invokestatic i) (len := 3) hm (by
    show _ ∨ _
    rw [hc]
    exact Or.inr (Or.inr ⟨rfl, h8, kk⟩))
end RCALL
