/-! ===== a pure machine over the same bytecode: a heap of numbered cells, a step as a predicate of what comes next, least fixed points ===== -/
def u1 {α : Type} (f : Nat → α) (k : Nat) (v : α) : Nat → α := fun j => if j = k then v else f j
def u2 {α : Type} (f : Nat → Nat → α) (k j : Nat) (v : α) : Nat → Nat → α := u1 f k (u1 (f k) j v)
/-- ints, longs and references by cell and place; a cell's kind (0 object, 1 int[], 2 long[], 3 byte[], 4 boolean[], 5 int[][], 6 long[][], 7 the script, 8 the patterns, 9 none) with its class or length; how many cells -/
abbrev hp : Type := (Nat → Nat → Int32) × (Nat → Nat → Int64) × (Nat → Nat → Option Nat) × (Nat → Nat × Nat) × Nat
abbrev hI (h : hp) : Nat → Nat → Int32 := h.1
abbrev hJ (h : hp) : Nat → Nat → Int64 := h.2.1
abbrev hR (h : hp) : Nat → Nat → Option Nat := h.2.2.1
abbrev hK (h : hp) : Nat → Nat × Nat := h.2.2.2.1
abbrev hN (h : hp) : Nat := h.2.2.2.2
def sI (h : hp) (k j : Nat) (v : Int32) : hp := (u2 h.1 k j v, h.2)
def sJ (h : hp) (k j : Nat) (v : Int64) : hp := (h.1, u2 h.2.1 k j v, h.2.2)
def sR (h : hp) (k j : Nat) (v : Option Nat) : hp := (h.1, h.2.1, u2 h.2.2.1 k j v, h.2.2.2)
/-- one more cell, all of it zero -/
def hnew (h : hp) (t n : Nat) : hp := (u1 (hI h) (hN h) (fun _ => 0), u1 (hJ h) (hN h) (fun _ => 0), u1 (hR h) (hN h) (fun _ => none), u1 (hK h) (hN h) (t, n), hN h + 1)
/-- new T[n][m]: the outer row, then n rows of m -/
def hgrid (h : hp) (t ti n m : Nat) : hp :=
  (fun a => if hN h ≤ a ∧ a ≤ hN h + n then (fun _ => 0) else hI h a, fun a => if hN h ≤ a ∧ a ≤ hN h + n then (fun _ => 0) else hJ h a,
   fun a => if a = hN h then (fun i => if i < n then some (hN h + 1 + i) else none) else if hN h < a ∧ a ≤ hN h + n then (fun _ => none) else hR h a,
   fun a => if a = hN h then (t, n) else if hN h < a ∧ a ≤ hN h + n then (ti, m) else hK h a, hN h + 1 + n)
def pval (ty : FieldType) (i : Int32) (j : Int64) (r : Option Nat) : Value := match ty with
  | .long => .long j
  | .object _ => va_rf r
  | .array _ => va_rf r
  | _ => .int i
abbrev cfgP : Type := Nat → List (Nat × Value) → List Value → hp → Nat → Nat → Prop
abbrev resP : Type := Option Value → hp → Prop
abbrev callP : Type := Nat → List Value → hp → Nat → Nat → resP → Prop
def lset1 (ls : List (Nat × Value)) (i : Nat) (v : Value) : List (Nat × Value) := (i, v) :: ls.filter (fun q => !(q.1 == i) && !(q.1 + 1 == i && q.2.category == 2))
def lset2 (ls : List (Nat × Value)) (i : Nat) (v : Value) : List (Nat × Value) := (i, v) :: ls.filter (fun q => !(q.1 == i) && (!(q.1 == i + 1) && !(q.1 + 1 == i && q.2.category == 2)))
def oI (st : List Value) (k : Int32 → List Value → Prop) : Prop := match st with
  | .int x :: r => k x r
  | _ => False
def oII (st : List Value) (k : Int32 → Int32 → List Value → Prop) : Prop := match st with
  | .int y :: .int x :: r => k x y r
  | _ => False
def oJ (st : List Value) (k : Int64 → List Value → Prop) : Prop := match st with
  | .long x :: r => k x r
  | _ => False
def oJJ (st : List Value) (k : Int64 → Int64 → List Value → Prop) : Prop := match st with
  | .long y :: .long x :: r => k x y r
  | _ => False
def oJI (st : List Value) (k : Int64 → Int32 → List Value → Prop) : Prop := match st with
  | .int y :: .long x :: r => k x y r
  | _ => False
def oA (st : List Value) (k : Nat → List Value → Prop) : Prop := match st with
  | .ref a :: r => k a r
  | _ => False
def oAI (st : List Value) (k : Nat → Int32 → List Value → Prop) : Prop := match st with
  | .int i :: .ref a :: r => k a i r
  | _ => False
def oAII (st : List Value) (k : Nat → Int32 → Int32 → List Value → Prop) : Prop := match st with
  | .int x :: .int i :: .ref a :: r => k a i x r
  | _ => False
def oAIJ (st : List Value) (k : Nat → Int32 → Int64 → List Value → Prop) : Prop := match st with
  | .long x :: .int i :: .ref a :: r => k a i x r
  | _ => False
def lI (ls : List (Nat × Value)) (i : Nat) (k : Int32 → Prop) : Prop := match ls.lookup i with
  | some (.int x) => k x
  | _ => False
def lJ (ls : List (Nat × Value)) (i : Nat) (k : Int64 → Prop) : Prop := match ls.lookup i with
  | some (.long x) => k x
  | _ => False
def lA (ls : List (Nat × Value)) (i : Nat) (k : Value → Prop) : Prop := match ls.lookup i with
  | some (.ref x) => k (.ref x)
  | some .null => k .null
  | _ => False
/-- a reference or null off the stack -/
def oV (st : List Value) (k : Value → List Value → Prop) : Prop := match st with
  | .ref a :: r => k (.ref a) r
  | .null :: r => k .null r
  | _ => False
def jmp (pc : Nat) (off : Int) : Nat := ((pc : Int) + off).toNat
def jok (pc : Nat) (off : Int) : Prop := 0 ≤ (pc : Int) + off
def isI (t : Nat) : Bool := t == 1 || t == 7
def isJ (t : Nat) : Bool := t == 2 || t == 8
def cats (st : List Value) : Nat := (st.map fun v => v.category).sum
def cIcmp (c : Jvm.ClassFile.Cond) (x y : Int32) : Prop := match c with
  | .eq => x = y
  | .ne => ¬ x = y
  | .lt => x < y
  | .ge => y ≤ x
  | .gt => y < x
  | .le => x ≤ y
def cIf (c : Jvm.ClassFile.Cond) (x : Int32) : Prop := match c with
  | .eq => x = 0
  | .ne => ¬ x = 0
  | .lt => x < 0
  | .ge => 0 ≤ x
  | .gt => 0 < x
  | .le => x ≤ 0
/-- a call's end: the callee's, then what comes next -/
def callK (C : callP) (X : cfgP) (i : Nat) (as rest : List Value) (pc : Nat) (ls : List (Nat × Value)) (h : hp) (bc bs : Nat) : Prop :=
  cats rest ≤ 8 ∧ ∃ (mc ms : Nat) (Qc : resP), mc ≤ bc ∧ ms ≤ bs ∧ C i as h mc ms Qc ∧ ∀ (v : Option Value) (h' : hp), Qc v h' → X (pc + 3) ls (v.toList ++ rest) h' (bc - mc) (bs - ms)
def putK (ty : FieldType) (v : Value) (h : hp) (a k : Nat) (K : hp → Prop) : Prop := match ty, v with
  | .int, .int x => K (sI h a k x)
  | .boolean, .int x => (x = 0 ∨ x = 1) ∧ K (sI h a k x)
  | .long, .long x => K (sJ h a k x)
  | .object _, .ref q => K (sR h a k (some q))
  | .object _, .null => K (sR h a k none)
  | .array _, .ref q => K (sR h a k (some q))
  | .array _, .null => K (sR h a k none)
  | _, _ => False
def retK (rt : Option FieldType) (ins : Instr) (st : List Value) (K : Option Value → Prop) : Prop := match ins, rt, st with
  | .return_, none, [] => K none
  | .ireturn, some .int, [.int x] => K (some (.int x))
  | .ireturn, some .boolean, [.int x] => (x = 0 ∨ x = 1) ∧ K (some (.int x))
  | .lreturn, some .long, [.long x] => K (some (.long x))
  | .areturn, some (.object _), [.ref a] => K (some (.ref a))
  | .areturn, some (.object _), [.null] => K (some .null)
  | _, _, _ => False
def atag (t : ArrayType) : Nat := match t with
  | .int => 1
  | .long => 2
  | .byte => 3
  | .boolean => 4
  | _ => 9
def fres (o i : Nat) : Nat × Nat × Nat := if i < 1000 then (ftab.lookup (o * 1000 + i)).getD (99, 0, 0) else (99, 0, 0)
def cres (o i : Nat) : Nat × Nat × Nat × Nat := if i < 1000 then (ctab.lookup (o * 1000 + i)).getD (0, 0, 0, 0) else (0, 0, 0, 0)
def nres (o i : Nat) : Nat × Nat := if i < 1000 then (ntab.lookup (o * 1000 + i)).getD (99, 0) else (99, 0)
def lres (o i : Nat) : Option (Int64 × Nat) := if i < 1000 then ltab.lookup (o * 1000 + i) else none
def gres (o i : Nat) : Nat × Nat := if i < 1000 then (gtab.lookup (o * 1000 + i)).getD (0, 0) else (0, 0)
def stepI (C : callP) (j : Nat) (Q : resP) (X : cfgP) (ins : Instr) (len : Nat) (pc : Nat) (ls : List (Nat × Value)) (st : List Value) (h : hp) (bc bs : Nat) : Prop :=
  match ins with
  | .aload_n k => lA ls k fun v => X (pc + 1) ls (v :: st) h bc bs
  | .aload k => lA ls k fun v => X (pc + 2) ls (v :: st) h bc bs
  | .iload_n k => lI ls k fun x => X (pc + 1) ls (.int x :: st) h bc bs
  | .iload k => lI ls k fun x => X (pc + 2) ls (.int x :: st) h bc bs
  | .lload_n k => lJ ls k fun x => X (pc + 1) ls (.long x :: st) h bc bs
  | .lload k => lJ ls k fun x => X (pc + 2) ls (.long x :: st) h bc bs
  | .astore_n k => (k : Nat) < mL j ∧ oV st fun v r => X (pc + 1) (lset1 ls k v) r h bc bs
  | .astore k => k < mL j ∧ oV st fun v r => X (pc + 2) (lset1 ls k v) r h bc bs
  | .istore_n k => (k : Nat) < mL j ∧ oI st fun x r => X (pc + 1) (lset1 ls k (.int x)) r h bc bs
  | .istore k => k < mL j ∧ oI st fun x r => X (pc + 2) (lset1 ls k (.int x)) r h bc bs
  | .lstore_n k => (k : Nat) + 1 < mL j ∧ oJ st fun x r => X (pc + 1) (lset2 ls k (.long x)) r h bc bs
  | .lstore k => k + 1 < mL j ∧ oJ st fun x r => X (pc + 2) (lset2 ls k (.long x)) r h bc bs
  | .iinc k n => k < mL j ∧ lI ls k fun x => X (pc + 3) (lset1 ls k (.int (x + Int32.ofInt n))) st h bc bs
  | .iconst n => X (pc + 1) ls (.int (Int32.ofInt n) :: st) h bc bs
  | .bipush n => X (pc + 2) ls (.int (Int8.ofInt n).toInt32 :: st) h bc bs
  | .sipush n => X (pc + 3) ls (.int (Int16.ofInt n).toInt32 :: st) h bc bs
  | .lconst n => X (pc + 1) ls (.long (Int64.ofNat n) :: st) h bc bs
  | .aconst_null => X (pc + 1) ls (.null :: st) h bc bs
  | .ldc2_w i => ∃ v q, lres (mO j) i = some (v, q) ∧ X (pc + 3) ls (.long v :: st) h bc bs
  | .iadd => oII st fun x y r => X (pc + 1) ls (.int (x + y) :: r) h bc bs
  | .isub => oII st fun x y r => X (pc + 1) ls (.int (x - y) :: r) h bc bs
  | .imul => oII st fun x y r => X (pc + 1) ls (.int (x * y) :: r) h bc bs
  | .idiv => oII st fun x y r => ¬ y = 0 ∧ X (pc + 1) ls (.int (x / y) :: r) h bc bs
  | .irem => oII st fun x y r => ¬ y = 0 ∧ X (pc + 1) ls (.int (x - x / y * y) :: r) h bc bs
  | .iand => oII st fun x y r => X (pc + 1) ls (.int (x &&& y) :: r) h bc bs
  | .ixor => oII st fun x y r => X (pc + 1) ls (.int (x ^^^ y) :: r) h bc bs
  | .ishl => oII st fun x y r => X (pc + 1) ls (.int (x <<< (y &&& 31)) :: r) h bc bs
  | .ishr => oII st fun x y r => X (pc + 1) ls (.int (x >>> (y &&& 31)) :: r) h bc bs
  | .ladd => oJJ st fun x y r => X (pc + 1) ls (.long (x + y) :: r) h bc bs
  | .lsub => oJJ st fun x y r => X (pc + 1) ls (.long (x - y) :: r) h bc bs
  | .land => oJJ st fun x y r => X (pc + 1) ls (.long (x &&& y) :: r) h bc bs
  | .lor => oJJ st fun x y r => X (pc + 1) ls (.long (x ||| y) :: r) h bc bs
  | .lxor => oJJ st fun x y r => X (pc + 1) ls (.long (x ^^^ y) :: r) h bc bs
  | .lneg => oJ st fun x r => X (pc + 1) ls (.long (-x) :: r) h bc bs
  | .lcmp => oJJ st fun x y r => X (pc + 1) ls (.int (lg_cmp x y) :: r) h bc bs
  | .lshl => oJI st fun x y r => X (pc + 1) ls (.long (x <<< (y.toInt64 &&& 63)) :: r) h bc bs
  | .lshr => oJI st fun x y r => X (pc + 1) ls (.long (x >>> (y.toInt64 &&& 63)) :: r) h bc bs
  | .lushr => oJI st fun x y r => X (pc + 1) ls (.long (x.toUInt64 >>> (y.toInt64.toUInt64 &&& Int64.toUInt64 63)).toInt64 :: r) h bc bs
  | .l2i => oJ st fun x r => X (pc + 1) ls (.int x.toInt32 :: r) h bc bs
  | .i2b => oI st fun x r => X (pc + 1) ls (.int x.toInt8.toInt32 :: r) h bc bs
  | .dup => match st with
    | v :: r => v.category = 1 ∧ X (pc + 1) ls (v :: v :: r) h bc bs
    | _ => False
  | .dup2 => match st with
    | v :: w :: r => v.category = 1 ∧ w.category = 1 ∧ X (pc + 1) ls (v :: w :: v :: w :: r) h bc bs
    | _ => False
  | .pop => match st with
    | v :: r => v.category = 1 ∧ X (pc + 1) ls r h bc bs
    | _ => False
  | .goto off => jok pc off ∧ X (jmp pc off) ls st h bc bs
  | .ifCond c off => jok pc off ∧ oI st fun x r => (cIf c x → X (jmp pc off) ls r h bc bs) ∧ (¬ cIf c x → X (pc + 3) ls r h bc bs)
  | .if_icmp c off => jok pc off ∧ oII st fun x y r => (cIcmp c x y → X (jmp pc off) ls r h bc bs) ∧ (¬ cIcmp c x y → X (pc + 3) ls r h bc bs)
  | .ifnull off => jok pc off ∧ oV st fun v r => (v = .null → X (jmp pc off) ls r h bc bs) ∧ (¬ v = .null → X (pc + 3) ls r h bc bs)
  | .ifnonnull off => jok pc off ∧ oV st fun v r => (¬ v = .null → X (jmp pc off) ls r h bc bs) ∧ (v = .null → X (pc + 3) ls r h bc bs)
  | .tableswitch d lo hi offs => oI st fun x r => (x.toInt < lo ∨ hi < x.toInt → jok pc d ∧ X (jmp pc d) ls r h bc bs) ∧
      (¬ x.toInt < lo → ¬ hi < x.toInt → ∃ off, offs[(x.toInt - lo).toNat]? = some off ∧ jok pc off ∧ X (jmp pc off) ls r h bc bs)
  | .iaload => oAI st fun a i r => isI (hK h a).1 = true ∧ vp_in i (hK h a).2 ∧ X (pc + 1) ls (.int (hI h a i.toNatClampNeg) :: r) h bc bs
  | .laload => oAI st fun a i r => isJ (hK h a).1 = true ∧ vp_in i (hK h a).2 ∧ X (pc + 1) ls (.long (hJ h a i.toNatClampNeg) :: r) h bc bs
  | .baload => oAI st fun a i r => ((hK h a).1 = 3 ∨ (hK h a).1 = 4) ∧ vp_in i (hK h a).2 ∧ X (pc + 1) ls (.int (hI h a i.toNatClampNeg) :: r) h bc bs
  | .aaload => oAI st fun a i r => ((hK h a).1 = 5 ∨ (hK h a).1 = 6) ∧ vp_in i (hK h a).2 ∧ X (pc + 1) ls (va_rf (hR h a i.toNatClampNeg) :: r) h bc bs
  | .iastore => oAII st fun a i x r => (hK h a).1 = 1 ∧ vp_in i (hK h a).2 ∧ X (pc + 1) ls r (sI h a i.toNatClampNeg x) bc bs
  | .bastore => oAII st fun a i x r => ((hK h a).1 = 3 ∧ vp_in i (hK h a).2 ∧ X (pc + 1) ls r (sI h a i.toNatClampNeg (vp_nar .byte x)) bc bs) ∨ ((hK h a).1 = 4 ∧ vp_in i (hK h a).2 ∧ X (pc + 1) ls r (sI h a i.toNatClampNeg (vp_nar .boolean x)) bc bs)
  | .lastore => oAIJ st fun a i x r => (hK h a).1 = 2 ∧ vp_in i (hK h a).2 ∧ X (pc + 1) ls r (sJ h a i.toNatClampNeg x) bc bs
  | .arraylength => oA st fun a r => 1 ≤ (hK h a).1 ∧ (hK h a).1 ≤ 8 ∧ X (pc + 1) ls (.int (Int32.ofNat (hK h a).2) :: r) h bc bs
  | .newarray t => oI st fun x r => 1 ≤ atag t ∧ atag t ≤ 4 ∧ ¬ x < 0 ∧ x.toNatClampNeg ≤ 60000000 ∧ 1 ≤ bc ∧ x.toNatClampNeg ≤ bs ∧ X (pc + 2) ls (.ref (hN h) :: r) (hnew h (atag t) x.toNatClampNeg) (bc - 1) (bs - x.toNatClampNeg)
  | .multianewarray i d => d = 2 ∧ oII st fun x y r => ((gres (mO j) i).1 = 5 ∨ (gres (mO j) i).1 = 6) ∧ ¬ x < 0 ∧ ¬ y < 0 ∧ x.toNatClampNeg ≤ 100000 ∧ y.toNatClampNeg ≤ 100000 ∧ 1 + x.toNatClampNeg ≤ bc ∧ x.toNatClampNeg + x.toNatClampNeg * y.toNatClampNeg ≤ bs ∧
      X (pc + 4) ls (.ref (hN h) :: r) (hgrid h (gres (mO j) i).1 ((gres (mO j) i).1 - 4) x.toNatClampNeg y.toNatClampNeg) (bc - (1 + x.toNatClampNeg)) (bs - (x.toNatClampNeg + x.toNatClampNeg * y.toNatClampNeg))
  | .getfield i => oA st fun a r => hK h a = (0, (fres (mO j) i).1) ∧ (fres (mO j) i).1 < 10 ∧ X (pc + 3) ls (pval (fT (fres (mO j) i).1 (fres (mO j) i).2.1) (hI h a (fres (mO j) i).2.1) (hJ h a (fres (mO j) i).2.1) (hR h a (fres (mO j) i).2.1) :: r) h bc bs
  | .putfield i => match st with
    | v :: .ref a :: r => hK h a = (0, (fres (mO j) i).1) ∧ (fres (mO j) i).1 < 10 ∧ ((clT (fres (mO j) i).1 (fres (mO j) i).2.1).2.2.2 = false ∨ ((clT (fres (mO j) i).1 (fres (mO j) i).2.1).2.2.2 = true ∧ (mY j).name = "<init>" ∧ mO j = (fres (mO j) i).1)) ∧
        putK (fT (fres (mO j) i).1 (fres (mO j) i).2.1) v h a (fres (mO j) i).2.1 fun h' => X (pc + 3) ls r h' bc bs
    | _ => False
  | .getstatic i => mO j = 3 ∧ i = 103 ∧ X (pc + 3) ls (.ref 1 :: st) h bc bs
  | .new i => (nres (mO j) i).1 < 10 ∧ 1 ≤ bc ∧ clN (nres (mO j) i).1 ≤ bs ∧ X (pc + 3) ls (.ref (hN h) :: st) (hnew h 0 (nres (mO j) i).1) (bc - 1) (bs - clN (nres (mO j) i).1)
  | .invokevirtual i => (cres (mO j) i).1 = 1 ∧ match st.drop (cres (mO j) i).2.2.1 with
    | .ref a :: r => hK h a = (0, mO (cres (mO j) i).2.1) ∧ callK C X (cres (mO j) i).2.1 (.ref a :: (st.take (cres (mO j) i).2.2.1).reverse) r pc ls h bc bs
    | _ => False
  | .invokestatic i => ((cres (mO j) i).1 = 2 ∧ (cres (mO j) i).2.2.1 ≤ st.length ∧ callK C X (cres (mO j) i).2.1 (st.take (cres (mO j) i).2.2.1).reverse (st.drop (cres (mO j) i).2.2.1) pc ls h bc bs) ∨
      ((cres (mO j) i).1 = 6 ∧ oII st fun x y r => cats r ≤ 8 ∧ X (pc + 3) ls (.int (if x < y then y else x) :: r) h bc bs) ∨ ((cres (mO j) i).1 = 7 ∧ oII st fun x y r => cats r ≤ 8 ∧ X (pc + 3) ls (.int (if y < x then y else x) :: r) h bc bs)
  | .invokespecial i => ((cres (mO j) i).1 = 4 ∧ oA st fun _ r => cats r ≤ 8 ∧ X (pc + 3) ls r h bc bs) ∨ (((cres (mO j) i).1 = 3 ∨ (cres (mO j) i).1 = 5) ∧ match st.drop (cres (mO j) i).2.2.1 with
    | .ref a :: r => callK C X (cres (mO j) i).2.1 (.ref a :: (st.take (cres (mO j) i).2.2.1).reverse) r pc ls h bc bs
    | _ => False)
  | .return_ => retK (mRt j) .return_ st fun v => Q v h
  | .ireturn => retK (mRt j) .ireturn st fun v => Q v h
  | .lreturn => retK (mRt j) .lreturn st fun v => Q v h
  | .areturn => retK (mRt j) .areturn st fun v => Q v h
  | _ => False
/-- an instruction's length; of a switch as the listing has it -/
def ilen (ins : Instr) (len : Nat) : Nat := match ins with
  | .tableswitch _ _ _ _ => len
  | .aload _ | .iload _ | .lload _ | .astore _ | .istore _ | .lstore _ | .bipush _ | .newarray _ => 2
  | .iinc _ _ | .sipush _ | .ldc2_w _ | .goto _ | .ifCond _ _ | .if_icmp _ _ | .ifnull _ | .ifnonnull _ | .getfield _ | .putfield _ | .getstatic _ | .new _ | .invokevirtual _ | .invokestatic _ | .invokespecial _ => 3
  | .multianewarray _ _ => 4
  | _ => 1
def step (C : callP) (j : Nat) (Q : resP) (X : cfgP) (pc : Nat) (ls : List (Nat × Value)) (st : List Value) (h : hp) (bc bs : Nat) : Prop :=
  ∃ (ins : Instr) (len : Nat), (pc, ins, ilen ins len) ∈ pt j ∧ stepI C j Q X ins len pc ls st h bc bs
/-- method j, from here, comes to its end with Q: the least such predicate -/
def Wp (C : callP) (j : Nat) (Q : resP) : cfgP := fun pc ls st h bc bs => ∀ X : cfgP, (∀ Y : cfgP, (∀ pc ls st h bc bs, Y pc ls st h bc bs → X pc ls st h bc bs) → ∀ pc ls st h bc bs, step C j Q Y pc ls st h bc bs → X pc ls st h bc bs) → X pc ls st h bc bs
theorem Wp.go {C : callP} {j : Nat} {Q : resP} {pc : Nat} {ls : List (Nat × Value)} {st : List Value} {h : hp} {bc bs : Nat} {ins : Instr} {len : Nat} (hm : (pc, ins, ilen ins len) ∈ pt j) (hs : stepI C j Q (Wp C j Q) ins len pc ls st h bc bs) : Wp C j Q pc ls st h bc bs :=
  fun X hX => hX (Wp C j Q) (fun _ _ _ _ _ _ hw => hw X hX) pc ls st h bc bs ⟨ins, len, hm, hs⟩
/-- method j, with these arguments and this heap, at most d calls deep and with so many new cells and slots, ends with Q -/
def Ex : Nat → callP
  | 0 => fun _ _ _ _ _ _ => False
  | d + 1 => fun j as h mc ms Q => cats as ≤ mL j ∧ Wp (Ex d) j Q 0 (lv_args 0 as) [] h mc ms
