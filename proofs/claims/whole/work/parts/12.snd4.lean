/-! ===== calls, ends, and the whole ===== -/
def QM (w : wd) (Qp : resP) : State → Outcome → State → Prop := fun st oc t => (∃ (r : Option Value) (h' : hp), oc = .returned (r.map (cv w)) ∧ Qp r h' ∧ HR w h' t.heap) ∧ va_F (wAf w) st t
def MetP (l : Launch) (w : wd) (d i : Nat) (as : List Value) (h : hp) (mc ms : Nat) (Qp : resP) : Prop :=
  Met l (mY i) (Cond.code (mY i) (mC i) (mL i) (mRt i) :: gT) { frames := d, cells := mc, slots := ms, locals := 40 * d } (va_Pc (as.map (cv w)) (fun U => HR w h U.heap ∧ SK w U)) (fun _ => QM w Qp) mc ms (wAf w)
section SN4
variable {p : Program} {l : Launch} {e : Env} {R : Room} {s : State} {m : MethodId} {args : Array Value} {below : List Frame} {meth : Method} {c : Code} {Q : State → Prop} {w : wd} {j : Nat}
theorem init_none : ∀ e ∈ mRest, e.1.name = "<init>" → e.2.2.2.1 = none := by decide +kernel
theorem oN_cl : ∀ ci, ci < 10 → oN ci = clR ci := by
  intro ci h
  rcases (show ci = 0 ∨ ci = 1 ∨ ci = 2 ∨ ci = 3 ∨ ci = 4 ∨ ci = 5 ∨ ci = 6 ∨ ci = 7 ∨ ci = 8 ∨ ci = 9 by omega) with e | e | e | e | e | e | e | e | e | e <;> subst e <;> rfl
theorem toList_map (w : wd) (v : Option Value) : v.toList.map (cv w) = (v.map (cv w)).toList := by cases v <;> rfl
theorem call_end {Y : cfgP} (hY : ∀ pc ls st h bc bs, Y pc ls st h bc bs → XM p l e R s m args below meth c Q w j pc ls st h bc bs) {H : Heap} {locs : List Loc} {cells slots mc ms pc bc bs : Nat} {lsA : Array Slot} {st0 rest : List Value} {Qc : resP} {ls : List (Nat × Value)}
    (hrun : va_Run p l e R s m args below meth c H locs cells slots mc ms (F0 m pc lsA st0) (rest.map (cv w)) (QM w Qc) (wAf w)) (hk : ∀ (v : Option Value) (h' : hp), Qc v h' → Y (pc + 3) ls (v.toList ++ rest) h' (bc - mc) (bs - ms))
    (hS : va_S (wAf w) s.heap H locs) (hl : lv_has lsA (mL j) (ls.map (cw w))) (hbc : cells + bc ≤ R.cells) (hbs : slots + bs ≤ R.slots) (h1 : mc ≤ bc) (h2 : ms ≤ bs) : W p l e R s m args below meth c H locs cells slots Q (F0 m pc lsA st0) := by
  intro T hT X
  obtain ⟨v, st₀, t, T', L, h0, X', hL, e1, e2, ⟨⟨r, h', hv, hq, hHR⟩, hz, hkk⟩, st⟩ := hrun T hT X
  have hv : v = r.map (cv w) := by injection hv
  subst hv
  rw [h0] at hz hkk
  have hW := hY _ _ _ _ _ _ (hk r h' hq) T'.heap (locs ++ L) (cells + mc) (slots + ms) lsA (by rw [e1]; exact hHR)
    ⟨Nat.le_trans hS.1 (by rw [e1]; exact hz), fun q g1 g2 => by rw [e1, hkk q (Nat.lt_of_lt_of_le g1 hS.1) g2]; exact hS.2.1 q g1 g2, fun q hq => by
      rcases List.mem_append.mp hq with h | h
      · exact hS.2.2 q h
      · exact hL q h⟩ hl (by omega) (by omega)
  rw [List.map_append, toList_map] at hW
  obtain ⟨t2, a1, b1⟩ := hW T' rfl X'
  exact ⟨t2, st t2 a1, b1⟩
theorem pre_blind {w : wd} {h : hp} {av : List Value} : FrameBlind (va_Pc av (fun U => HR w h U.heap ∧ SK w U)) := by
  intro a U g mk hp0
  obtain ⟨h1, h2, h3⟩ := hp0
  exact ⟨h1, h2, SK.moved (u := U) (U := U.calling g mk a) (State.WarmedH.refl U) (fun _ _ _ => rfl) (Nat.le_refl _) h3⟩
theorem pre_U {w : wd} {h : hp} {H : Heap} {locs : List Loc} (hsk : SK w s) (hr : HR w h H) (hS : va_S (wAf w) s.heap H locs) : ∀ U : State, U.heap = H → s.WarmedH U.vm → HR w h U.heap ∧ SK w U := fun U hU hW =>
  ⟨by rw [hU]; exact hr, SK.moved hW (fun q h1 h2 => by rw [hU]; exact hS.2.1 q h1 h2) (by rw [hU]; exact hS.1) hsk⟩
theorem split_stack {st r : List Value} {n a : Nat} (w : wd) (hd : st.drop n = .ref a :: r) : ((st.take n).reverse.map (cv w)).length = n ∧ st.map (cv w) = ((st.take n).reverse.map (cv w)).reverse ++ .ref (adr w a) :: r.map (cv w) := by
  have hlt : n < st.length := by
    rcases Nat.lt_or_ge n st.length with q | q
    · exact q
    · rw [List.drop_eq_nil_of_le q] at hd
      cases hd
  refine ⟨by rw [List.length_map, List.length_reverse, List.length_take]; omega, ?_⟩
  rw [← List.map_reverse, List.reverse_reverse]
  conv => lhs; rw [← List.take_append_drop n st, hd]
  rw [List.map_append]
  rfl
theorem split_stack0 {st : List Value} {n : Nat} (w : wd) (hd : n ≤ st.length) : ((st.take n).reverse.map (cv w)).length = n ∧ st.map (cv w) = ((st.take n).reverse.map (cv w)).reverse ++ (st.drop n).map (cv w) := by
  refine ⟨by rw [List.length_map, List.length_reverse, List.length_take]; omega, ?_⟩
  rw [← List.map_reverse, List.reverse_reverse, ← List.map_append, List.take_append_drop]
theorem callee_in {i : Nat} (h0 : 0 < i) (h : i < 163) : GoodIn gT (Cond.code (mY i) (mC i) (mL i) (mRt i) :: gT) := gT_good (fun x hx => by
  rcases List.mem_cons.mp hx with rfl | hx
  · exact mRest_code _ (mE_in h0 h)
  · exact hx)
set_option maxHeartbeats 4000000 in
theorem sn_call (cx : Cx p s m args meth c j w) {Y : cfgP} (hY : ∀ pc ls st h bc bs, Y pc ls st h bc bs → XM p l e R s m args below meth c Q w j pc ls st h bc bs) {C : callP} {Qp : resP} {ins : Instr} {len pc : Nat} {ls : List (Nat × Value)} {st : List Value} {h : hp} {bc bs : Nat} {d : Nat}
    (hRf : d + 1 ≤ R.frames) (hRl : 40 * d + 40 ≤ R.locals) (hC : ∀ (i : Nat) (as : List Value) (h : hp) (mc ms : Nat) (Qc : resP), 0 < i → i < 163 → C i as h mc ms Qc → MetP l w d i as h mc ms Qc)
    (hpl : match ins with | .invokevirtual _ | .invokestatic _ | .invokespecial _ => True | _ => False)
    (hm : (pc, ins, ilen ins len) ∈ pt j) (hs : stepI C j Qp Y ins len pc ls st h bc bs) : XM p l e R s m args below meth c Q w j pc ls st h bc bs := by
  obtain ⟨hx, hb, hml, hown, hts, hsk, hok, hin⟩ := cx
  have hd := hok _ hm
  intro H locs cells slots lsA hr hS hl hbc hbs
  have hfix : CallFix p m c (mC j) (mL j) s args gT (oN (mO j)) := ⟨hx, hb, hml, hown, hts⟩
  cases ins with
  | invokevirtual i =>
    obtain ⟨hk1, hs⟩ := hs
    obtain ⟨hi, hq⟩ := cres_in (o := mO j) (i := i) (by rw [hk1]; decide)
    have hok := ctab_ok _ hq
    dsimp only at hok
    rw [(key_dm hi).1, (key_dm hi).2] at hok
    generalize hf : cres (mO j) i = f at *
    obtain ⟨kd, ca, n, q⟩ := f
    dsimp only at hk1 hs hok
    subst hk1
    obtain ⟨-, -, -, -, -, o1, o2, -, o3, -, -⟩ := hok
    obtain ⟨c0, c1, o1⟩ := o1 (by decide) (by decide)
    have o2 := o2 (Or.inl rfl)
    obtain ⟨o3, o4⟩ := o3 rfl
    obtain ⟨m1, m2, m3, m4, m5, m6⟩ := mRest_ok _ (mE_in c0 c1)
    split at hs
    · next a r hdrop =>
      obtain ⟨hka, h8, mc, ms, Qc, g1, g2, hCc, hk⟩ := hs
      obtain ⟨t1, t2⟩ := split_stack w hdrop
      have hci : mO ca < 10 := by have := hr.1.2.2.2.2.2.2.2.2 a (by rw [hka]); rw [hka] at this; exact this
      obtain ⟨cell, q1, q2, q3, -⟩ := hr.obj hka
      have hfc := (hsk.1.1 (mO ca) _ (cl_at _ hci)).2.1
      refine call_end hY (st0 := st.map (cv w)) (rest := r) ?_ hk hS hl hbc hbs g1 g2
      exact va_runV (C := (mY ca).cls) (b := adr w a) (As := (st.take n).reverse.map (cv w)) (rest := r.map (cv w)) hfix (hC ca _ h mc ms Qc c0 c1 hCc)
        ⟨callB_of n hts (callee_in c0 c1) rfl rfl rfl (hts _ (inG m2 rfl)) (hts _ (inG o2 rfl)) ⟨m4, m5, o1⟩ ⟨hRf, by show 8 + (mL ca + 11) + 40 * d ≤ _; have : mL ca ≤ 21 := m6; omega⟩, hts _ (inG o3 rfl), hts _ (inG o4 rfl)⟩
        ⟨pre_blind, ⟨cell, q1, by rw [q3]; rfl, by rw [q2, ← m3]; show s.vm.findClass (oN (mO ca)) = _; rw [oN_cl _ hci]; exact hfc⟩, fun U hU hW => ⟨rfl, pre_U hsk hr hS U hU hW⟩⟩
        rfl t1 hl.1 t2 (lv_room (by rw [cats_cv]; exact h8)) hd ⟨by omega, by omega⟩
    · exact hs.elim
  | invokestatic i =>
    rcases hs with ⟨hk1, hlen, h8, mc, ms, Qc, g1, g2, hCc, hk⟩ | ⟨hk1, hs⟩ | ⟨hk1, hs⟩
    · obtain ⟨hi, hq⟩ := cres_in (o := mO j) (i := i) (by rw [hk1]; decide)
      have hok := ctab_ok _ hq
      dsimp only at hok
      rw [(key_dm hi).1, (key_dm hi).2] at hok
      generalize hf : cres (mO j) i = f at *
      obtain ⟨kd, ca, n, q⟩ := f
      dsimp only at hk1 hlen h8 hCc hk hok
      subst hk1
      obtain ⟨-, -, -, -, -, o1, o2, -, -, o3, -⟩ := hok
      obtain ⟨c0, c1, o1⟩ := o1 (by decide) (by decide)
      have o2 := o2 (Or.inr (Or.inl rfl))
      have o3 := o3 rfl
      obtain ⟨m1, m2, m3, m4, m5, m6⟩ := mRest_ok _ (mE_in c0 c1)
      obtain ⟨t1, t2⟩ := split_stack0 w hlen
      refine call_end hY (st0 := st.map (cv w)) (rest := st.drop n) ?_ hk hS hl hbc hbs g1 g2
      exact va_runS (As := (st.take n).reverse.map (cv w)) (rest := (st.drop n).map (cv w)) hfix (hC ca _ h mc ms Qc c0 c1 hCc)
        ⟨callB_of n hts (callee_in c0 c1) rfl rfl rfl (hts _ (inG m2 rfl)) (hts _ (inG o2 rfl)) ⟨m4, m5, o1⟩ ⟨hRf, by show 8 + (mL ca + 11) + 40 * d ≤ _; have : mL ca ≤ 21 := m6; omega⟩, hts _ (inG o3 rfl)⟩
        ⟨pre_blind, fun U hU hW => ⟨rfl, pre_U hsk hr hS U hU hW⟩⟩
        rfl t1 hl.1 t2 (lv_room (by rw [cats_cv]; exact h8)) hd ⟨by omega, by omega⟩
    · obtain ⟨x, y, r, rfl, h8, hs⟩ := oII_inv hs
      obtain ⟨hi, hq⟩ := cres_in (o := mO j) (i := i) (by rw [hk1]; decide)
      have hok := ctab_ok _ hq
      dsimp only at hok
      rw [(key_dm hi).1, (key_dm hi).2] at hok
      have o2 := hok.2.2.1 hk1
      obtain ⟨x1, x2, x3⟩ := math_words
      exact va_mmax hx hb (by rw [hml]; exact hl.1.symm) hown (hts _ (inG o2 rfl)) (hts _ (inG x1 rfl)) (hts _ (inG x3 rfl)) (hts _ (inG math_max rfl)) (by omega) (by rw [cats_cv]; omega) (by omega) (by omega) hd (hY _ _ _ _ _ _ hs H locs cells slots lsA hr hS hl hbc hbs)
    · obtain ⟨x, y, r, rfl, h8, hs⟩ := oII_inv hs
      obtain ⟨hi, hq⟩ := cres_in (o := mO j) (i := i) (by rw [hk1]; decide)
      have hok := ctab_ok _ hq
      dsimp only at hok
      rw [(key_dm hi).1, (key_dm hi).2] at hok
      have o2 := hok.2.2.2.1 hk1
      obtain ⟨x1, x2, x3⟩ := math_words
      exact va_mmin hx hb (by rw [hml]; exact hl.1.symm) hown (hts _ (inG o2 rfl)) (hts _ (inG x2 rfl)) (hts _ (inG x3 rfl)) (hts _ (inG math_min rfl)) (by omega) (by rw [cats_cv]; omega) (by omega) (by omega) hd (hY _ _ _ _ _ _ hs H locs cells slots lsA hr hS hl hbc hbs)
  | invokespecial i =>
    rcases hs with ⟨hk1, hs⟩ | ⟨hk1, hs⟩
    · obtain ⟨a, r, rfl, h8, hs⟩ := oA_inv hs
      obtain ⟨hi, hq⟩ := cres_in (o := mO j) (i := i) (by rw [hk1]; decide)
      have hok := ctab_ok _ hq
      dsimp only at hok
      rw [(key_dm hi).1, (key_dm hi).2] at hok
      have o2 := hok.2.2.2.2.1 hk1
      obtain ⟨x1, x2⟩ := obj_words
      refine W.objInit hx hb hown (hts _ (inG o2 rfl)) (hts _ (inG x1 rfl)) (hts _ (inG x2 rfl)) rfl (by rw [hml]; exact hl.1) rfl hd (by omega) ?_ (hY _ _ _ _ _ _ hs H locs cells slots lsA hr hS hl hbc hbs)
      have := lv_room (m := m) (pc := pc) (ls := lsA) (rest := (Value.ref a :: r).map (cv w)) (st := r.map (cv w)) (by rw [cats_cv]; exact h8)
      omega
    · obtain ⟨hi, hq⟩ := cres_in (o := mO j) (i := i) (by rcases hk1 with e | e <;> rw [e] <;> decide)
      have hok := ctab_ok _ hq
      dsimp only at hok
      rw [(key_dm hi).1, (key_dm hi).2] at hok
      generalize hf : cres (mO j) i = f at *
      obtain ⟨kd, ca, n, q⟩ := f
      dsimp only at hk1 hs hok
      obtain ⟨-, -, -, -, -, o1, o2, o5, -, -, o3⟩ := hok
      obtain ⟨c0, c1, n1⟩ := o1 (by omega) (by omega)
      obtain ⟨n3, n4⟩ := o3 hk1
      obtain ⟨m1, m2, m3, m4, m5, m6⟩ := mRest_ok _ (mE_in c0 c1)
      split at hs
      · next a r hdrop =>
        obtain ⟨h8, mc, ms, Qc, g1, g2, hCc, hk⟩ := hs
        obtain ⟨t1, t2⟩ := split_stack w hdrop
        have hRR : d + 1 ≤ R.frames ∧ 8 + (mL ca + 11) + 40 * d ≤ R.locals := ⟨hRf, by have : mL ca ≤ 21 := m6; omega⟩
        have hret : mRt ca = none := init_none _ (mE_in c0 c1) n4
        have hM := hC ca _ h mc ms Qc c0 c1 hCc
        refine call_end hY (st0 := st.map (cv w)) (rest := r) ?_ hk hS hl hbc hbs g1 g2
        rcases hk1 with rfl | rfl
        · have o2 := o2 (Or.inr (Or.inr rfl))
          have cb := callB_of (Ts := gT) (R := R) (s := s) (args := args) (own := oN (mO j)) (index := i) (y := mY ca) (bytes := mC ca) (maxL := mL ca) (ret := mRt ca) (ws := Cond.code (mY ca) (mC ca) (mL ca) (mRt ca) :: gT) (ws' := gT) (rm := { frames := d, cells := mc, slots := ms, locals := 40 * d }) (mc := mc) (ms := ms) n hts (callee_in c0 c1) rfl rfl rfl (hts _ (inG m2 rfl)) (hts _ (inG o2 rfl)) ⟨m4, m5, n1⟩ hRR
          rw [hret] at cb
          exact va_runI (b := adr w a) (As := (st.take n).reverse.map (cv w)) (rest := r.map (cv w)) hfix hM ⟨by rw [hret]; exact cb, n4, hts _ (inG n3 rfl)⟩
            ⟨pre_blind, fun U hU hW => ⟨rfl, pre_U hsk hr hS U hU hW⟩⟩
            rfl t1 hl.1 t2 (lv_room (by rw [cats_cv]; exact h8)) hd ⟨by omega, by omega⟩
        · have o5 := hsk.2.2.2.2.2.2.2.1 _ hq rfl
          dsimp only at o5
          rw [(key_dm hi).1, (key_dm hi).2] at o5
          have cb := va_cnB (Ts := gT) (R := R) (s := s) (args := args) (own := oN (mO j)) (host := RX8) (index := i) (y := mY ca) (bytes := mC ca) (maxL := mL ca) (ret := mRt ca) (ws := Cond.code (mY ca) (mC ca) (mL ca) (mRt ca) :: gT) (ws' := gT) (rm := { frames := d, cells := mc, slots := ms, locals := 40 * d }) (mc := mc) (ms := ms) n hts (callee_in c0 c1) rfl rfl rfl o5 (hts _ (inG m2 rfl)) ⟨m4, m5, n1⟩ hRR
          rw [hret] at cb
          exact va_runIN (b := adr w a) (As := (st.take n).reverse.map (cv w)) (rest := r.map (cv w)) hfix hM ⟨by rw [hret]; exact cb, n4, hts _ (inG n3 rfl)⟩
            ⟨pre_blind, fun U hU hW => ⟨rfl, pre_U hsk hr hS U hU hW⟩⟩
            rfl t1 hl.1 t2 (lv_room (by rw [cats_cv]; exact h8)) hd ⟨by omega, by omega⟩
      · exact hs.elim
  | _ => exact hpl.elim
theorem lg_len : ∀ vs : List Value, (lg_sl vs).length = cats vs
  | [] => rfl
  | v :: r => by
    have ih := lg_len r
    have e : lg_sl (v :: r) = (if v.category = 2 then [Slot.val v, .second] else [.val v]) ++ lg_sl r := by simp [lg_sl]
    have e2 : cats (v :: r) = v.category + cats r := by simp [cats]
    rw [e, e2, List.length_append, ih]
    rcases lv_cat v with q | q
    · rw [if_neg (by omega), q]
      rfl
    · rw [if_pos q, q]
      rfl
theorem retK_inv {rt : Option FieldType} {ins : Instr} {st : List Value} {K : Option Value → Prop} (h : retK rt ins st K) :
    (ins = .return_ ∧ rt = none ∧ st = [] ∧ K none) ∨ (∃ x, ins = .ireturn ∧ rt = some .int ∧ st = [.int x] ∧ K (some (.int x))) ∨ (∃ x : Int32, ins = .ireturn ∧ rt = some .boolean ∧ st = [.int x] ∧ (x = 0 ∨ x = 1) ∧ K (some (.int x))) ∨
    (∃ x, ins = .lreturn ∧ rt = some .long ∧ st = [.long x] ∧ K (some (.long x))) ∨ (∃ n a, ins = .areturn ∧ rt = some (.object n) ∧ st = [.ref a] ∧ K (some (.ref a))) ∨ (∃ n, ins = .areturn ∧ rt = some (.object n) ∧ st = [.null] ∧ K (some .null)) := by
  unfold retK at h
  split at h
  · exact Or.inl ⟨rfl, rfl, rfl, h⟩
  · exact Or.inr (Or.inl ⟨_, rfl, rfl, rfl, h⟩)
  · exact Or.inr (Or.inr (Or.inl ⟨_, rfl, rfl, rfl, h⟩))
  · exact Or.inr (Or.inr (Or.inr (Or.inl ⟨_, rfl, rfl, rfl, h⟩)))
  · exact Or.inr (Or.inr (Or.inr (Or.inr (Or.inl ⟨_, _, rfl, rfl, rfl, h⟩))))
  · exact Or.inr (Or.inr (Or.inr (Or.inr (Or.inr ⟨_, rfl, rfl, rfl, h⟩))))
  · exact h.elim
/-- the pure machine's answer is the machine's -/
theorem wp_sound (cx : Cx p s m args meth c j w) {C : callP} {Qp : resP} {d : Nat}
    (hRf : d + 1 ≤ R.frames) (hRl : 40 * d + 40 ≤ R.locals) (hC : ∀ (i : Nat) (as : List Value) (h : hp) (mc ms : Nat) (Qc : resP), 0 < i → i < 163 → C i as h mc ms Qc → MetP l w d i as h mc ms Qc)
    (hret : ∀ (ins : Instr) (pc : Nat) (st : List Value) (h : hp) (H : Heap) (locs : List Loc) (cells slots : Nat) (lsA : Array Slot), decode (mC j) pc = .ok (ins, 1) → retK (mRt j) ins st (fun v => Qp v h) → HR w h H → va_S (wAf w) s.heap H locs → cells ≤ R.cells → slots ≤ R.slots → W p l e R s m args below meth c H locs cells slots Q (F0 m pc lsA (st.map (cv w))))
    {pc : Nat} {ls : List (Nat × Value)} {st : List Value} {h : hp} {bc bs : Nat} (hw : Wp C j Qp pc ls st h bc bs) : XM p l e R s m args below meth c Q w j pc ls st h bc bs := by
  refine hw (XM p l e R s m args below meth c Q w j) (fun Y hY pc ls st h bc bs hstep => ?_)
  obtain ⟨ins, len, hm, hs⟩ := hstep
  have hd := cx.2.2.2.2.2.2.1 _ hm
  cases ins with
  | putfield i => exact sn_put cx hY hm hs
  | newarray t => exact sn_newa cx hY hm hs
  | multianewarray i dm => exact sn_grid cx hY hm hs
  | new i => exact sn_new cx hY hm hs
  | invokevirtual i => exact sn_call cx hY hRf hRl hC trivial hm hs
  | invokestatic i => exact sn_call cx hY hRf hRl hC trivial hm hs
  | invokespecial i => exact sn_call cx hY hRf hRl hC trivial hm hs
  | iastore => exact sn_store cx hY trivial hm hs
  | bastore => exact sn_store cx hY trivial hm hs
  | lastore => exact sn_store cx hY trivial hm hs
  | return_ => exact fun H locs cells slots lsA hr hS hl hbc hbs => hret _ pc st h H locs cells slots lsA hd hs hr hS (by omega) (by omega)
  | ireturn => exact fun H locs cells slots lsA hr hS hl hbc hbs => hret _ pc st h H locs cells slots lsA hd hs hr hS (by omega) (by omega)
  | lreturn => exact fun H locs cells slots lsA hr hS hl hbc hbs => hret _ pc st h H locs cells slots lsA hd hs hr hS (by omega) (by omega)
  | areturn => exact fun H locs cells slots lsA hr hS hl hbc hbs => hret _ pc st h H locs cells slots lsA hd hs hr hS (by omega) (by omega)
  | _ => exact sn_plain cx hY trivial hm hs
end SN4
set_option maxHeartbeats 4000000 in
/-- every method: what the pure machine says of it is its contract -/
theorem ex_sound (l : Launch) (w : wd) : ∀ (d i : Nat) (as : List Value) (h : hp) (mc ms : Nat) (Qp : resP), 0 < i → i < 163 → Ex d i as h mc ms Qp → MetP l w d i as h mc ms Qp := by
  intro d
  induction d with
  | zero => exact fun _ _ _ _ _ _ _ _ hx => hx.elim
  | succ d ih =>
    intro i as h mc ms Qp h0 h1 hE
    obtain ⟨hcat, hwp⟩ := hE
    obtain ⟨m1, m2, m3, m4, m5, m6⟩ := mRest_ok _ (mE_in h0 h1)
    refine Met.ofW (cc := mC i) (maxL := mL i) (ret := mRt i) m1 rfl ?_
    intro p e s m args below meth c s₁ B hml hv
    obtain ⟨rfl, hHR, hSK⟩ := hv
    have hts := atoms_spec (ws := Cond.code (mY i) (mC i) (mL i) (mRt i) :: gT) B.pre
    have hown : s.vm.findClass (mY i).cls = some m.cls := findClass_of_methodNamed B.named
    have hlocks := B.notSynchronized
    have hr : meth.sig.returnType = mRt i := B.returns
    have hx := B.exec
    have hb : c.code = mC i := B.bytes
    have hin : meth.name = (mY i).name := (name_of_methodNamed B.named B.method).1
    have cx : Cx p s m (as.map (cv w)).toArray meth c i w := ⟨hx, hb, hml, by rw [← hown]; exact congrArg s.vm.findClass m3, fun x hx => hts x (List.mem_cons_of_mem _ hx), hSK, pok_all i h1, fun q => hin.trans q⟩
    have hl := lv_entry (as.map (cv w)) (n := mL i) (by rw [lg_len]; have := cats_cv w as; unfold cats; rw [this]; exact hcat)
    rw [args_map] at hl
    rw [lg_entry_eq]
    refine wp_sound cx (R := (headSpec (Cond.code (mY i) (mC i) (mL i) (mRt i) :: gT) { frames := d + 1, cells := mc, slots := ms, locals := 40 * (d + 1) }).room) (d := d) (Nat.le_refl _) (by show 40 * d + 40 ≤ 40 * (d + 1); omega) ih ?_ hwp s.heap [] 0 0 _ hHR va_S.rf hl (by show 0 + mc ≤ mc; omega) (by show 0 + ms ≤ ms; omega)
    intro ins pc st h2 H locs cells slots lsA hd hrk hr2 hS hc1 hc2
    refine W.widen (k := mc) (n := ms) hc1 hc2 ?_
    rcases retK_inv hrk with ⟨rfl, e2, rfl, hq⟩ | ⟨x, rfl, e2, rfl, hq⟩ | ⟨x, rfl, e2, rfl, hb01, hq⟩ | ⟨x, rfl, e2, rfl, hq⟩ | ⟨n, a, rfl, e2, rfl, hq⟩ | ⟨n, rfl, e2, rfl, hq⟩
    · exact W.vret hx hb (hr.trans e2) (fun t ht hW => ⟨⟨_, h2, rfl, hq, by rw [ht]; exact hr2⟩, hS.F ht⟩) hS.2.2 hd
    · exact W.iret hx hb (hr.trans e2) (fun t ht hW => ⟨⟨_, h2, rfl, hq, by rw [ht]; exact hr2⟩, hS.F ht⟩) hS.2.2 hd
    · exact W.zret hx hb (hr.trans e2) (by rcases hb01 with rfl | rfl <;> decide) (fun t ht hW => ⟨⟨_, h2, rfl, hq, by rw [ht]; exact hr2⟩, hS.F ht⟩) hS.2.2 hd
    · exact W.lret hx hb (hr.trans e2) (fun t ht hW => ⟨⟨_, h2, rfl, hq, by rw [ht]; exact hr2⟩, hS.F ht⟩) hS.2.2 hd
    · exact W.aret hx hb (hr.trans e2) (Or.inl ⟨_, rfl⟩) (Or.inr ⟨_, rfl⟩) (fun t ht hW => ⟨⟨some (.ref a), h2, rfl, hq, by rw [ht]; exact hr2⟩, hS.F ht⟩) hS.2.2 hd
    · exact W.aret hx hb (hr.trans e2) (Or.inl ⟨_, rfl⟩) (Or.inl rfl) (fun t ht hW => ⟨⟨some .null, h2, rfl, hq, by rw [ht]; exact hr2⟩, hS.F ht⟩) hS.2.2 hd
