/-! ===== a step of the pure machine is a step of the machine ===== -/
def Cx (p : Program) (s : State) (m : MethodId) (args : Array Value) (meth : Method) (c : Code) (j : Nat) (w : wd) : Prop :=
  p.tables.exec = Jvm.exec ∧ c.code = mC j ∧ c.maxLocals = mL j ∧ s.vm.findClass (oN (mO j)) = some m.cls ∧ (∀ x ∈ gT, x.before args s = true) ∧ SK w s ∧ pOk j ∧ ((mY j).name = "<init>" → meth.name = "<init>")
def XM (p : Program) (l : Launch) (e : Env) (R : Room) (s : State) (m : MethodId) (args : Array Value) (below : List Frame) (meth : Method) (c : Code) (Q : State → Prop) (w : wd) (j : Nat) : cfgP := fun pc ls st h bc bs =>
  ∀ (H : Heap) (locs : List Loc) (cells slots : Nat) (lsA : Array Slot), HR w h H → va_S (wAf w) s.heap H locs → lv_has lsA (mL j) (ls.map (cw w)) → cells + bc ≤ R.cells → slots + bs ≤ R.slots → W p l e R s m args below meth c H locs cells slots Q (F0 m pc lsA (st.map (cv w)))
section SND
variable {p : Program} {l : Launch} {e : Env} {R : Room} {s : State} {m : MethodId} {args : Array Value} {below : List Frame} {meth : Method} {c : Code} {Q : State → Prop} {w : wd} {j : Nat}
theorem elt1 (w : wd) (i : Int32) (z : Int64) (r : Option Nat) : elt w 1 i z r = .int i := rfl
theorem elt2 (w : wd) (i : Int32) (z : Int64) (r : Option Nat) : elt w 2 i z r = .long z := rfl
theorem elt3 (w : wd) (i : Int32) (z : Int64) (r : Option Nat) : elt w 3 i z r = .int i := rfl
theorem elt4 (w : wd) (i : Int32) (z : Int64) (r : Option Nat) : elt w 4 i z r = .int i := rfl
theorem elt5 (w : wd) (i : Int32) (z : Int64) (r : Option Nat) : elt w 5 i z r = cv w (va_rf r) := rfl
theorem elt6 (w : wd) (i : Int32) (z : Int64) (r : Option Nat) : elt w 6 i z r = cv w (va_rf r) := rfl
/-- an array's cell, its kind and length known -/
theorem HR.arrT {w : wd} {h : hp} {H : Heap} {k t n : Nat} (hr : HR w h H) (hk : hK h k = (t, n)) (h1 : 1 ≤ t) (h6 : t ≤ 6) : H[adr w k]? = some (arrV (wA w t) n (fun j => elt w t (hI h k j) (hJ h k j) (hR h k j))) ∧ 2 ≤ k := by
  have e : (hK h k).1 = t := by rw [hk]
  have e2 : (hK h k).2 = n := by rw [hk]
  have a := hr.arr (k := k) (by omega) (by omega) (by omega) (by omega)
  rw [e, e2] at a
  exact ⟨a, (hr.at (k := k) (by omega) (by omega) (by omega)).1⟩
theorem in_size {i : Int32} {n : Nat} {cA : ClassId} {f : Nat → Value} (hin : vp_in i n) : ¬ (i < 0 ∨ (arrV cA n f).slots.size ≤ i.toNatClampNeg) := by rw [arrV_size]; exact hin
theorem in_lt {i : Int32} {n : Nat} (hin : vp_in i n) : i.toNatClampNeg < n := Nat.not_le.mp fun q => hin (Or.inr q)
theorem HC_arr {w : wd} {h : hp} {H : Heap} {k t n : Nat} (hk : hK h k = (t, n)) (h1 : 1 ≤ t) (hc : H[adr w k]? = some (arrV (wA w t) n (fun j => elt w t (hI h k j) (hJ h k j) (hR h k j)))) : HC w h H k := by
  unfold HC
  rw [hk, if_neg (by show ¬ t = 0; omega)]
  exact hc
theorem SK.ty {w : wd} {U : State} (h : SK w U) (t0 : Nat) {q : ClassId × FieldType} (hq : (wTy w)[t0]? = some q) (n : Nat) (z : Nat → Value) : U.isArrayOf (arrV q.1 n z) q.2 := (h.1.2 t0 q hq).1 n z
theorem va_S.at {A : Nat → Prop} {H0 H H1 : Heap} {locs : List Loc} {a k : Nat} (h : va_S A H0 H locs) (z : H1.size = H.size) (oq : ∀ q : Nat, q ≠ a → H1[q]? = H[q]?) (ha : A a) : va_S A H0 H1 (locs ++ [⟨a, k⟩]) := va_S.put h z oq ha
theorem wAf_adr {w : wd} {k : Nat} (h : 2 ≤ k) : wAf w (adr w k) := by
  show wB w ≤ adr w k
  rw [adr_ge h]
  omega
set_option maxHeartbeats 4000000 in
theorem sn_plain (cx : Cx p s m args meth c j w) {Y : cfgP} (hY : ∀ pc ls st h bc bs, Y pc ls st h bc bs → XM p l e R s m args below meth c Q w j pc ls st h bc bs) {C : callP} {Qp : resP} {ins : Instr} {len pc : Nat} {ls : List (Nat × Value)} {st : List Value} {h : hp} {bc bs : Nat}
    (hpl : match ins with | .putfield _ | .newarray _ | .multianewarray _ _ | .new _ | .invokevirtual _ | .invokestatic _ | .invokespecial _ | .return_ | .ireturn | .lreturn | .areturn | .iastore | .bastore | .lastore => False | _ => True)
    (hm : (pc, ins, ilen ins len) ∈ pt j) (hs : stepI C j Qp Y ins len pc ls st h bc bs) : XM p l e R s m args below meth c Q w j pc ls st h bc bs := by
  obtain ⟨hx, hb, hml, hown, hts, hsk, hok, hin⟩ := cx
  have hd := hok _ hm
  intro H locs cells slots lsA hr hS hl hbc hbs
  have go : ∀ {pc' : Nat} {st' : List Value}, Y pc' ls st' h bc bs → W p l e R s m args below meth c H locs cells slots Q (F0 m pc' lsA (st'.map (cv w))) := fun hs => hY _ _ _ _ _ _ hs H locs cells slots lsA hr hS hl hbc hbs
  have goL : ∀ {pc' : Nat} {ls' : List (Nat × Value)} {st' : List Value} {lsB : Array Slot}, Y pc' ls' st' h bc bs → lv_has lsB (mL j) (ls'.map (cw w)) → W p l e R s m args below meth c H locs cells slots Q (F0 m pc' lsB (st'.map (cv w))) := fun hs hlB => hY _ _ _ _ _ _ hs H locs cells slots _ hr hS hlB hbc hbs
  cases ins with
  | aload_n k =>
    have hs : lA ls k (fun v => Y (pc + 1) ls (v :: st) h bc bs) := hs
    rcases lA_inv hs with ⟨x, e, hs⟩ | ⟨e, hs⟩
    · exact lv_aload_n hx hb hd rfl (has_at hl e) (go hs)
    · exact lv_aload_nN hx hb hd rfl (has_at hl e) (go hs)
  | aload k =>
    have hs : lA ls k (fun v => Y (pc + 2) ls (v :: st) h bc bs) := hs
    rcases lA_inv hs with ⟨x, e, hs⟩ | ⟨e, hs⟩
    · exact lv_aload hx hb hd (has_at hl e) (go hs)
    · exact lv_aloadN hx hb hd (has_at hl e) (go hs)
  | iload_n k =>
    obtain ⟨x, e, hs⟩ := lI_inv hs
    exact lv_iload_n hx hb hd rfl (has_at hl e) (go hs)
  | iload k =>
    obtain ⟨x, e, hs⟩ := lI_inv hs
    exact lv_iload hx hb hd (has_at hl e) (go hs)
  | lload_n k =>
    obtain ⟨x, e, hs⟩ := lJ_inv hs
    exact lv_lload_n hx hb hd rfl (has_at hl e) (go hs)
  | lload k =>
    obtain ⟨x, e, hs⟩ := lJ_inv hs
    exact lv_lload hx hb hd (has_at hl e) (go hs)
  | astore_n k =>
    obtain ⟨hk, hs⟩ := hs
    rcases oV_inv hs with ⟨x, r, rfl, hs⟩ | ⟨r, rfl, hs⟩
    · exact lv_astore_n hx hb hd rfl hl hk (lset1_map w ls k (.ref x)) (fun lsB hlB => goL hs hlB)
    · exact lv_astore_nN hx hb hd rfl hl hk (lset1_map w ls k .null) (fun lsB hlB => goL hs hlB)
  | astore k =>
    obtain ⟨hk, hs⟩ := hs
    rcases oV_inv hs with ⟨x, r, rfl, hs⟩ | ⟨r, rfl, hs⟩
    · exact lv_astore hx hb hd hl hk (lset1_map w ls k (.ref x)) (fun lsB hlB => goL hs hlB)
    · exact lv_astoreN hx hb hd hl hk (lset1_map w ls k .null) (fun lsB hlB => goL hs hlB)
  | istore_n k =>
    obtain ⟨hk, hs⟩ := hs
    obtain ⟨x, r, rfl, hs⟩ := oI_inv hs
    exact lv_istore_n hx hb hd rfl hl hk (lset1_map w ls k (.int x)) (fun lsB hlB => goL hs hlB)
  | istore k =>
    obtain ⟨hk, hs⟩ := hs
    obtain ⟨x, r, rfl, hs⟩ := oI_inv hs
    exact lv_istore hx hb hd hl hk (lset1_map w ls k (.int x)) (fun lsB hlB => goL hs hlB)
  | lstore_n k =>
    obtain ⟨hk, hs⟩ := hs
    obtain ⟨x, r, rfl, hs⟩ := oJ_inv hs
    exact lv_lstore_n hx hb hd rfl hl hk (lset2_map w ls k (.long x)) (fun lsB hlB => goL hs hlB)
  | lstore k =>
    obtain ⟨hk, hs⟩ := hs
    obtain ⟨x, r, rfl, hs⟩ := oJ_inv hs
    exact lv_lstore hx hb hd hl hk (lset2_map w ls k (.long x)) (fun lsB hlB => goL hs hlB)
  | iinc k n =>
    obtain ⟨hk, hs⟩ := hs
    obtain ⟨x, e, hs⟩ := lI_inv hs
    obtain ⟨q, hq⟩ := List.getElem?_of_mem (List.mem_map.mpr ⟨(k, Value.int x), mem_lookup e, rfl⟩ : cw w (k, .int x) ∈ ls.map (cw w))
    exact lv_iinc hx hb hd hl (k := q) hq rfl hk (lset1_map w ls k (.int (x + Int32.ofInt n))) (fun lsB hlB => goL hs hlB)
  | iconst n => exact lv_iconst hx hb hd rfl (go hs)
  | bipush n => exact lv_bipush hx hb hd rfl (go hs)
  | sipush n => exact lv_sipush hx hb hd rfl (go hs)
  | lconst n => exact lv_lconst hx hb hd rfl (go hs)
  | aconst_null => exact lv_null hx hb hd (go hs)
  | ldc2_w i =>
    obtain ⟨v, q, e, hs⟩ := hs
    obtain ⟨hi, hq⟩ := lres_in e
    have hw := ltab_ok _ hq
    dsimp only at hw
    rw [(key_dm hi).1, (key_dm hi).2] at hw
    exact lv_ldc2 hx hb hown (hts _ (inG hw rfl)) hd (go hs)
  | iadd => obtain ⟨x, y, r, rfl, hs⟩ := oII_inv hs; exact lv_iadd hx hb hd (go hs)
  | isub => obtain ⟨x, y, r, rfl, hs⟩ := oII_inv hs; exact lv_isub hx hb hd (go hs)
  | imul => obtain ⟨x, y, r, rfl, hs⟩ := oII_inv hs; exact lv_imul hx hb hd (go hs)
  | idiv => obtain ⟨x, y, r, rfl, hy, hs⟩ := oII_inv hs; exact lv_idiv hx hb hd hy (go hs)
  | irem => obtain ⟨x, y, r, rfl, hy, hs⟩ := oII_inv hs; exact lv_irem hx hb hd hy (go hs)
  | iand => obtain ⟨x, y, r, rfl, hs⟩ := oII_inv hs; exact lv_iand hx hb hd (go hs)
  | ixor => obtain ⟨x, y, r, rfl, hs⟩ := oII_inv hs; exact lv_ixor hx hb hd (go hs)
  | ishl => obtain ⟨x, y, r, rfl, hs⟩ := oII_inv hs; exact lv_ishl hx hb hd (go hs)
  | ishr => obtain ⟨x, y, r, rfl, hs⟩ := oII_inv hs; exact lv_ishr hx hb hd (go hs)
  | ladd => obtain ⟨x, y, r, rfl, hs⟩ := oJJ_inv hs; exact lv_ladd hx hb hd (go hs)
  | lsub => obtain ⟨x, y, r, rfl, hs⟩ := oJJ_inv hs; exact lv_lsub hx hb hd (go hs)
  | land => obtain ⟨x, y, r, rfl, hs⟩ := oJJ_inv hs; exact lv_land hx hb hd (go hs)
  | lor => obtain ⟨x, y, r, rfl, hs⟩ := oJJ_inv hs; exact lv_lor hx hb hd (go hs)
  | lxor => obtain ⟨x, y, r, rfl, hs⟩ := oJJ_inv hs; exact lv_lxor hx hb hd (go hs)
  | lneg => obtain ⟨x, r, rfl, hs⟩ := oJ_inv hs; exact lv_lneg hx hb hd (go hs)
  | lcmp => obtain ⟨x, y, r, rfl, hs⟩ := oJJ_inv hs; exact W.lcmp hx hb hd (go hs)
  | lshl => obtain ⟨x, y, r, rfl, hs⟩ := oJI_inv hs; exact lv_lshl hx hb hd rfl (go hs)
  | lshr => obtain ⟨x, y, r, rfl, hs⟩ := oJI_inv hs; exact lv_lshr hx hb hd rfl (go hs)
  | lushr => obtain ⟨x, y, r, rfl, hs⟩ := oJI_inv hs; exact lv_lushr hx hb hd rfl (go hs)
  | l2i => obtain ⟨x, r, rfl, hs⟩ := oJ_inv hs; exact lv_l2i hx hb hd rfl (go hs)
  | i2b => obtain ⟨x, r, rfl, hs⟩ := oI_inv hs; exact lv_i2b hx hb hd rfl (go hs)
  | dup =>
    rcases st with _ | ⟨v, r⟩
    · exact hs.elim
    · exact lv_dup hx hb hd (by rw [cv_cat]; exact hs.1) (go hs.2)
  | dup2 =>
    rcases st with _ | ⟨v, _ | ⟨v2, r⟩⟩
    · exact hs.elim
    · exact hs.elim
    · exact lv_dup2_11 hx hb hd (by rw [cv_cat]; exact hs.1) (by rw [cv_cat]; exact hs.2.1) (go hs.2.2)
  | pop =>
    rcases st with _ | ⟨v, r⟩
    · exact hs.elim
    · exact lv_pop hx hb hd (by rw [cv_cat]; exact hs.1) (go hs.2)
  | goto off => exact lv_goto hx hb hd (jmp_ok hs.1) (go hs.2)
  | ifCond cc off =>
    obtain ⟨hj, hs⟩ := hs
    obtain ⟨x, r, rfl, h1, h2⟩ := oI_inv hs
    cases cc with
    | eq => exact lv_if_eq hx hb hd (jmp_ok hj) (fun q => go (h1 q)) (fun q => go (h2 q))
    | ne => exact lv_if_ne hx hb hd (jmp_ok hj) (fun q => go (h1 q)) (fun q => go (h2 (fun z => z q)))
    | lt => exact lv_if_lt hx hb hd (jmp_ok hj) (fun q => go (h1 q)) (fun q => go (h2 q))
    | ge => exact lv_if_ge hx hb hd (jmp_ok hj) (fun q => go (h1 q)) (fun q => go (h2 q))
    | gt => exact lv_if_gt hx hb hd (jmp_ok hj) (fun q => go (h1 q)) (fun q => go (h2 q))
    | le => exact lv_if_le hx hb hd (jmp_ok hj) (fun q => go (h1 q)) (fun q => go (h2 q))
  | if_icmp cc off =>
    obtain ⟨hj, hs⟩ := hs
    obtain ⟨x, y, r, rfl, h1, h2⟩ := oII_inv hs
    cases cc with
    | eq => exact lv_icmp_eq hx hb hd (jmp_ok hj) (fun q => go (h1 q)) (fun q => go (h2 q))
    | ne => exact lv_icmp_ne hx hb hd (jmp_ok hj) (fun q => go (h1 q)) (fun q => go (h2 (fun z => z q)))
    | lt => exact lv_icmp_lt hx hb hd (jmp_ok hj) (fun q => go (h1 q)) (fun q => go (h2 q))
    | ge => exact lv_icmp_ge hx hb hd (jmp_ok hj) (fun q => go (h1 q)) (fun q => go (h2 q))
    | gt => exact lv_icmp_gt hx hb hd (jmp_ok hj) (fun q => go (h1 q)) (fun q => go (h2 q))
    | le => exact lv_icmp_le hx hb hd (jmp_ok hj) (fun q => go (h1 q)) (fun q => go (h2 q))
  | ifnull off =>
    obtain ⟨hj, hs⟩ := hs
    rcases oV_inv hs with ⟨x, r, rfl, h1, h2⟩ | ⟨r, rfl, h1, h2⟩
    · exact lv_ifnull hx hb hd (go (h2 (fun q => by cases q)))
    · exact lv_ifnullN hx hb hd (jmp_ok hj) (go (h1 rfl))
  | ifnonnull off =>
    obtain ⟨hj, hs⟩ := hs
    rcases oV_inv hs with ⟨x, r, rfl, h1, h2⟩ | ⟨r, rfl, h1, h2⟩
    · exact lv_ifnonnull hx hb hd (jmp_ok hj) (go (h1 (fun q => by cases q)))
    · exact lv_ifnonnullN hx hb hd (go (h2 rfl))
  | tableswitch d lo hi offs =>
    obtain ⟨x, r, rfl, h1, h2⟩ := oI_inv hs
    by_cases q1 : x.toInt < lo
    · obtain ⟨a1, a2⟩ := h1 (Or.inl q1)
      exact lv_tableOut hx hb hd (Or.inl q1) (jmp_ok a1) (go a2)
    · by_cases q2 : hi < x.toInt
      · obtain ⟨a1, a2⟩ := h1 (Or.inr q2)
        exact lv_tableOut hx hb hd (Or.inr q2) (jmp_ok a1) (go a2)
      · obtain ⟨off, a0, a1, a2⟩ := h2 q1 q2
        exact lv_tableIn hx hb hd q1 q2 a0 (jmp_ok a1) (go a2)
  | iaload =>
    obtain ⟨a, i, r, rfl, ht, hn, hs⟩ := oAI_inv hs
    rcases hk : hK h a with ⟨t, n⟩
    rw [hk] at ht hn
    by_cases e1 : t = 1
    · subst e1
      have hc := (hr.arrT hk (by omega) (by omega)).1
      exact W.iald (v := .int (hI h a i.toNatClampNeg)) hx hb hc (hsk.ty 0 rfl n _) (fun q => by cases q) (in_size hn) (by rw [arrV_read _ _ (in_lt hn)]; rfl) rfl rfl hd (go hs)
    · have e7 : t = 7 := by
        have : (t == 1 || t == 7) = true := ht
        simp at this
        omega
      subst e7
      have e0 : a = 0 := hr.1.2.2.2.2.2.1 a (by rw [hk])
      subst e0
      have en : n = wL w := by have := hr.1.2.1; rw [hk] at this; exact (Prod.mk.inj this).2
      subst en
      have eI : hI h 0 = wX w := hr.1.2.2.1
      rw [eI] at hs
      have hbl : wS w < s.heap.size := by
        obtain ⟨scr, hs0, -⟩ := hsk.2.1
        exact (Array.getElem?_eq_some_iff.mp hs0).1
      exact va_sld hx hb hsk.2.1 hbl (by show ¬ wB w ≤ wS w; have := hsk.2.2.2.2.1; omega) hS hn hd (go hs)
  | laload =>
    obtain ⟨a, i, r, rfl, ht, hn, hs⟩ := oAI_inv hs
    rcases hk : hK h a with ⟨t, n⟩
    rw [hk] at ht hn
    by_cases e1 : t = 2
    · subst e1
      have hc := (hr.arrT hk (by omega) (by omega)).1
      exact W.lald (v := .long (hJ h a i.toNatClampNeg)) hx hb hc (hsk.ty 1 rfl n _) (fun q => by cases q) (in_size hn) (by rw [arrV_read _ _ (in_lt hn)]; rfl) rfl rfl hd (go hs)
    · have e8 : t = 8 := by
        have : (t == 2 || t == 8) = true := ht
        simp at this
        omega
      subst e8
      have e0 : a = 1 := hr.1.2.2.2.2.2.2.1 a (by rw [hk])
      subst e0
      have en : n = 6 := by have := hr.1.2.2.2.1; rw [hk] at this; exact (Prod.mk.inj this).2
      subst en
      have eJ : hJ h 1 = wP w := hr.1.2.2.2.2.1
      rw [eJ] at hs
      exact va_tl hx hb hsk.2.2.2.1 hS hn rfl hd (go hs)
  | baload =>
    obtain ⟨a, i, r, rfl, ht, hn, hs⟩ := oAI_inv hs
    rcases hk : hK h a with ⟨t, n⟩
    rw [hk] at ht hn
    rcases ht with e1 | e1
    · have e1 : t = 3 := e1
      subst e1
      have hc := (hr.arrT hk (by omega) (by omega)).1
      exact W.bald (v := .int (hI h a i.toNatClampNeg)) hx hb hc (hsk.ty 2 rfl n _) (fun q => by cases q) (in_size hn) (by rw [arrV_read _ _ (in_lt hn)]; rfl) rfl rfl hd (go hs)
    · have e1 : t = 4 := e1
      subst e1
      have hc := (hr.arrT hk (by omega) (by omega)).1
      exact W.zald (v := .int (hI h a i.toNatClampNeg)) hx hb hc (hsk.ty 3 rfl n _) (fun q => by cases q) (in_size hn) (by rw [arrV_read _ _ (in_lt hn)]; rfl) rfl rfl hd (go hs)
  | aaload =>
    obtain ⟨a, i, r, rfl, ht, hn, hs⟩ := oAI_inv hs
    rcases hk : hK h a with ⟨t, n⟩
    rw [hk] at ht hn
    rcases ht with e1 | e1
    · have e1 : t = 5 := e1
      subst e1
      have hc := (hr.arrT hk (by omega) (by omega)).1
      exact W.aald (v := cv w (va_rf (hR h a i.toNatClampNeg))) hx hb hc (hsk.ty 4 rfl n _) rfl (fun q => by cases q) (in_size hn) (by rw [arrV_read _ _ (in_lt hn)]; rfl) rfl rfl hd (go hs)
    · have e1 : t = 6 := e1
      subst e1
      have hc := (hr.arrT hk (by omega) (by omega)).1
      exact W.aald (v := cv w (va_rf (hR h a i.toNatClampNeg))) hx hb hc (hsk.ty 5 rfl n _) rfl (fun q => by cases q) (in_size hn) (by rw [arrV_read _ _ (in_lt hn)]; rfl) rfl rfl hd (go hs)
  | arraylength =>
    obtain ⟨a, r, rfl, h1, h8, hs⟩ := oA_inv hs
    rcases hk : hK h a with ⟨t, n⟩
    rw [hk] at h1 h8 hs
    have h1 : 1 ≤ t := h1
    have h8 : t ≤ 8 := h8
    by_cases e7 : t = 7
    · subst e7
      have e0 : a = 0 := hr.1.2.2.2.2.2.1 a (by rw [hk])
      subst e0
      have en : n = wL w := by have := hr.1.2.1; rw [hk] at this; exact (Prod.mk.inj this).2
      subst en
      have hbl : wS w < s.heap.size := by
        obtain ⟨scr, hs0, -⟩ := hsk.2.1
        exact (Array.getElem?_eq_some_iff.mp hs0).1
      exact va_slen hx hb hsk.2.1 hbl (by show ¬ wB w ≤ wS w; have := hsk.2.2.2.2.1; omega) hS hd (go hs)
    · by_cases e8 : t = 8
      · subst e8
        have e0 : a = 1 := hr.1.2.2.2.2.2.2.1 a (by rw [hk])
        subst e0
        have en : n = 6 := by have := hr.1.2.2.2.1; rw [hk] at this; exact (Prod.mk.inj this).2
        subst en
        exact va_tlen hx hb hsk.2.2.2.1 hS rfl hd (go hs)
      · have hc := (hr.arrT hk (by omega) (by omega)).1
        have hty : ∃ ty, s.isArrayOf (arrV (wA w t) n (fun j => elt w t (hI h a j) (hJ h a j) (hR h a j))) ty := by
          rcases (show t = 1 ∨ t = 2 ∨ t = 3 ∨ t = 4 ∨ t = 5 ∨ t = 6 by omega) with e | e | e | e | e | e <;> subst e
          · exact ⟨_, hsk.ty 0 rfl n _⟩
          · exact ⟨_, hsk.ty 1 rfl n _⟩
          · exact ⟨_, hsk.ty 2 rfl n _⟩
          · exact ⟨_, hsk.ty 3 rfl n _⟩
          · exact ⟨_, hsk.ty 4 rfl n _⟩
          · exact ⟨_, hsk.ty 5 rfl n _⟩
        obtain ⟨ty, hty⟩ := hty
        exact W.alen (n := Int32.ofNat n) hx hb hc hty (by rw [arrV_size]) rfl rfl hd (go hs)
  | getfield i =>
    obtain ⟨a, r, rfl, hk, hci, hs⟩ := oA_inv hs
    obtain ⟨hi, hq⟩ := fres_in hci
    obtain ⟨-, hkN, hw⟩ := ftab_ok _ hq
    dsimp only at hkN hw
    rw [(key_dm hi).1, (key_dm hi).2] at hw
    generalize hf : fres (mO j) i = f at *
    obtain ⟨ci, k, q⟩ := f
    obtain ⟨cell, q1, q2, q3, q4⟩ := hr.obj hk
    obtain ⟨hSl, hfc, kC, hkC, hkind⟩ := hsk.1.1 ci _ (cl_at ci hci)
    obtain ⟨cf, kf, fi, f, hfi, hsl⟩ := hSl k hkN
    exact W.getf hx hb hown (hts _ (inG hw rfl)) hfi (u_facts hfc hkC (u_lays hts (fun x hx => List.mem_filter.mpr ⟨cl_lays ci hci x hx, by
      obtain ⟨z, -, rfl⟩ := List.mem_map.mp hx
      unfold u_lay
      split <;> rfl⟩) hkN) hfi).1 q1 (by rw [q3]; exact fun h => by cases h) (by rw [hsl, q4 k hkN]) rfl rfl hd (go hs)
  | getstatic i =>
    obtain ⟨ho, rfl, hs⟩ := hs
    rw [ho] at hown
    exact va_getsN hx hb hsk.2.2.1 hS hown (va_Nw.use rfl hsk.2.2.2.2.2.2.1) (fun _ h => h) hd (go hs)
  | _ => first | exact hs.elim | exact hpl.elim
end SND
