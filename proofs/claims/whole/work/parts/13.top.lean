/-! THE CLAIM OUT OF ONE WALK OF THE LAW'S BODY. Your part is whole_start (and what it stands on); all else here is the same for every law, but numbers. -/
def R_law : String := "SweepBenchLaw"
def lw_P (b : Addr) (xs : List Int32) (args : Array Value) (s : State) : Prop := args = #[.ref b] ∧ s.IntsAt b xs ∧ xs.length ≤ 3072 ∧ (Jvm.Cond.and given_1 narrow_1).before args s = true
def lw_Q (_ : Array Value) (s : State) (o : Outcome) (t : State) : Prop := o = .returned (some (.int 1)) ∧ Framed s o t [] room_1.cells room_1.slots
def lw_Z (below : List Frame) (a : Array Value) (s : State) : State → Prop := fun t => ∃ o, t.status = .running ∧ Ended t below o ∧ lw_Q a s o t
/-- the law's own end, with 1 on the stack, nothing written that was there before, its room as the claim has it -/
theorem lw_ret {p : Program} {l : Launch} {e : Env} {s : State} {m : MethodId} {below : List Frame} {meth : Method} {c : Code} {b : Nat} (hx : p.tables.exec = Jvm.exec) (hb : c.code = code) (hr : meth.sig.returnType = ret) (hlocks : meth.locks = false) {pc : Nat} {H : Heap} {ls : Array Slot} (hdg : decode code pc = .ok (.ireturn, 1)) : W p l e room_1 s m #[Value.ref b] below meth c H [] room_1.cells room_1.slots (lw_Z below #[Value.ref b] s) (F0 m pc ls [.int 1]) := by
  intro T hT X
  obtain ⟨fs, hret, hrun, hended, hW, hframe⟩ := X.leave (v := some (.int 1)) (hlocks := hlocks) (fun h => by rw [hr] at h; cases h)
  have hmeth' : T.vm.method? m = some meth := X.method'
  refine ⟨T.setFrames fs, ?_, .returned (some (.int 1)), hrun, hended, rfl, ⟨_, rfl⟩, hW, hframe⟩
  jvm_step X.here [X.here.top, hx, hb, hdg, hmeth', hr, ret, narrow_b1]
  (try refine ⟨rfl, ?_⟩); (try refine ⟨rfl, ?_⟩)
  first | (intro acts; rw [hret _ acts rfl rfl rfl]) | rw [hret _ _ rfl rfl rfl]
  exact Steps.refl _
/-- what holds at the law's entry: the machine, the code, the tables' words (any of lw_tbl by 'hts w (by decide +kernel)'), the script of L ints xs at the cell b, what the Statement gives of the start (any of its parts by flat_of_before) -/
def lw_At (p : Program) (s : State) (m : MethodId) (meth : Method) (c : Code) (b L : Nat) (xs : Nat → Int32) : Prop :=
  p.tables.exec = Jvm.exec ∧ c.code = code ∧ meth.sig.returnType = ret ∧ c.maxLocals = 4 ∧ s.vm.findClass R_law = some m.cls ∧ (∀ w ∈ lw_tbl, w.before #[Value.ref b] s = true) ∧ va_X b L xs s s.heap ∧ b < s.heap.size ∧ meth.locks = false ∧ (Jvm.Cond.and given_1 narrow_1).before #[Value.ref b] s = true
/-- the patterns that the static holds -/
def pats : Nat → Int64 := fun i => match i with
  | 0 => -6148914691236517206
  | 1 => -3689348814741910324
  | 2 => -1085102592571150096
  | 3 => -71777214294589696
  | 4 => -281470681808896
  | _ => -4294967296
/-- the pure heap at the start: the script, the patterns, nothing else -/
def h0 (L : Nat) (xs : Nat → Int32) : hp := (fun k => if k = 0 then xs else fun _ => 0, fun k => if k = 1 then pats else fun _ => 0, fun _ _ => none, fun k => if k = 0 then (7, L) else if k = 1 then (8, 6) else (9, 0), 2)
/-- what is left to show, of the pure machine alone -/
def lawPure : Prop := ∀ (L : Nat) (xs : Nat → Int32), L ≤ 3072 → Wp (Ex 8) 0 (fun v _ => v = some (.int 1)) 0 [(0, .ref 0)] [] (h0 L xs) room_1.cells room_1.slots
set_option maxHeartbeats 4000000 in
set_option maxRecDepth 100000 in
theorem start_of (hpure : lawPure) {p : Program} {e : Env} {s : State} {m : MethodId} {below : List Frame} {meth : Method} {c : Code} (l : Launch) {b L : Nat} {xs : Nat → Int32} (hL : L ≤ 3072) (C0 : lw_At p s m meth c b L xs) : W p l e room_1 s m #[Value.ref b] below meth c s.heap [] 0 0 (lw_Z below #[Value.ref b] s) (entryFrame m ([Value.ref b] : List Value).toArray 4) := by
  obtain ⟨hx, hb, hr, hml, hown, hts, hX, hbl, hlocks, hgv⟩ := id C0
  have hs := flat_of_before _ hgv
  have hA : ∀ a : Nat, a < s.heap.size → ¬ (fun q : Nat => s.heap.size ≤ q) a := fun a h => Nat.not_le.mpr h
  -- the static array
  have harr : (Cond.arrayOf (.static "SweepBench" "INPUT_PATTERNS" "[J") .long).before #[Value.ref b] s = true := hs _ (by decide +kernel)
  have hlen : (Term.length (.static "SweepBench" "INPUT_PATTERNS" "[J")).eval #[Value.ref b] s none [] s = some (.int (Int32.ofNat 6)) := va_eqt (hs _ (by decide +kernel))
  have hel : ∀ j : Nat, j < 6 → (Term.elem (.static "SweepBench" "INPUT_PATTERNS" "[J") (.int (Int32.ofNat j))).eval #[Value.ref b] s none [] s = some ((fun i => Value.long (pats i)) j) := by
    intro j hj
    rcases (show j = 0 ∨ j = 1 ∨ j = 2 ∨ j = 3 ∨ j = 4 ∨ j = 5 by omega) with rfl | rfl | rfl | rfl | rfl | rfl
    · exact va_eqtl (hs _ (by decide +kernel))
    · exact va_eqtl (hs _ (by decide +kernel))
    · exact va_eqtl (hs _ (by decide +kernel))
    · exact va_eqtl (hs _ (by decide +kernel))
    · exact va_eqtl (hs _ (by decide +kernel))
    · exact va_eqtl (hs _ (by decide +kernel))
  obtain ⟨t, ht, hT⟩ := va_Tof (A := fun q : Nat => s.heap.size ≤ q) (by decide) harr hlen hel hA
  have hZ := va_Zof (A := fun q : Nat => s.heap.size ≤ q) (hts (.laysStatic "SweepBench" "INPUT_PATTERNS" "[J") (by decide +kernel)) (hts (.initialized "SweepBench") (by decide +kernel)) ht hA
  -- the classes
  have hkn : ∀ ci, ∃ (cC : ClassId) (iS : Nat → Nat), ci < 10 → u_Kn s (clR ci) (clT ci) (clN ci) cC iS := by
    intro ci
    by_cases h : ci < 10
    · obtain ⟨p1, -⟩ := cpos_ok ci h
      obtain ⟨cC, iS, hk⟩ := u_known (C := clR ci) (T := clT ci) (N := clN ci) (n := clN ci) hts (cl_lays ci h) (hts _ (List.mem_of_getElem? p1))
      exact ⟨cC, iS, fun _ => hk⟩
    · exact ⟨0, fun _ => 0, fun q => absurd q h⟩
  -- the array classes
  obtain ⟨w1, w2, w3, w4, w5, w6⟩ := arr_words
  have hac : ∀ ty : FieldType, (Cond.arrayClass ty).before #[Value.ref b] s = true → (∀ C, ty ≠ .object C) → ∃ cA, ArrOfT s cA ty ∧ va_RA s cA ty := by
    intro ty h hno
    obtain ⟨cA, k, comp, f1, f2, f3⟩ := Cond.arrayClass_spec h
    refine ⟨cA, fun n z => ⟨fun k h => (by cases h), k, f2, comp, f3⟩, ?_⟩
    cases ty with
    | object C => exact absurd rfl (hno C)
    | _ => exact f1
  have hao : ∀ ty : FieldType, (Cond.arrayOver (.array ty)).before #[Value.ref b] s = true → ∃ cA, ArrOfT s cA (.array ty) ∧ va_RA s cA (.array ty) := by
    intro ty h
    obtain ⟨comp, cA, k, f1, -, f2, f3, f4⟩ := Jvm.Stand.arrayOver_specB h
    exact ⟨cA, fun n z => ⟨fun k h => (by cases h), k, f2, comp, f3⟩, f4⟩
  obtain ⟨a1, b1⟩ := hac .int (hts _ (List.mem_of_getElem? w1)) (fun C h => by cases h)
  obtain ⟨a2, b2⟩ := hac .long (hts _ (List.mem_of_getElem? w2)) (fun C h => by cases h)
  obtain ⟨a3, b3⟩ := hac .byte (hts _ (List.mem_of_getElem? w3)) (fun C h => by cases h)
  obtain ⟨a4, b4⟩ := hac .boolean (hts _ (List.mem_of_getElem? w4)) (fun C h => by cases h)
  obtain ⟨a5, b5⟩ := hao .int (hts _ (List.mem_of_getElem? w5))
  obtain ⟨a6, b6⟩ := hao .long (hts _ (List.mem_of_getElem? w6))
  obtain ⟨w, hw⟩ : ∃ w : wd, w = ((s.heap.size, b, t, L), xs, pats, (fun ci => Classical.choose (hkn ci), fun ci => Classical.choose (Classical.choose_spec (hkn ci))), fun k => if k = 1 then a1 else if k = 2 then a2 else if k = 3 then a3 else if k = 4 then a4 else if k = 5 then a5 else a6) := ⟨_, rfl⟩
  have eB : wB w = s.heap.size := by rw [hw]
  have eS : wS w = b := by rw [hw]
  have eT : wT w = t := by rw [hw]
  have eL : wL w = L := by rw [hw]
  have eX : wX w = xs := by rw [hw]
  have eP : wP w = pats := by rw [hw]
  have eA : wAf w = fun q : Nat => s.heap.size ≤ q := by funext q; show (wB w ≤ q) = _; rw [eB]
  have hsk : SK w s := by
    refine ⟨⟨fun ci q hq => ?_, fun k q hq => ?_⟩, by rw [eS, eL, eX]; exact hX, by rw [eT, eA]; exact hZ, by rw [eT, eP, eA]; exact hT, by rw [eS, eB]; exact hbl, by rw [eB]; exact Nat.le_refl _, va_Nw.of rfl (hts _ (List.mem_of_getElem? stat_word)), fun e he h5 => va_Nw.of rfl (hts _ (List.mem_of_getElem? ((ctab_ok e he).2.2.2.2.2.2.2.1 h5))), hts _ (List.mem_of_getElem? w5), hts _ (List.mem_of_getElem? w6)⟩
    · have h10 : ci < 10 := (List.getElem?_eq_some_iff.mp hq).1
      rw [cl_at ci h10] at hq
      cases hq
      rw [hw]
      exact Classical.choose_spec (Classical.choose_spec (hkn ci)) h10
    · rw [hw] at hq
      match k, hq with
      | 0, hq => cases hq; exact b1
      | 1, hq => cases hq; exact b2
      | 2, hq => cases hq; exact b3
      | 3, hq => cases hq; exact b4
      | 4, hq => cases hq; exact b5
      | 5, hq => cases hq; exact b6
      | k + 6, hq => cases hq
  have hHR : HR w (h0 L xs) s.heap := by
    refine ⟨⟨Nat.le_refl 2, by rw [eL]; rfl, by rw [eX]; rfl, rfl, by rw [eP]; rfl, fun k hk => ?_, fun k hk => ?_, fun k hk => ?_, fun k hk => ?_⟩, by rw [eB]; rfl, fun k h2 hk => absurd hk (by show ¬ k < 2; omega)⟩
    · by_cases q0 : k = 0
      · exact q0
      · by_cases q1 : k = 1
        · subst q1; exact absurd (show (8 : Nat) = 7 from hk) (by decide)
        · have e : hK (h0 L xs) k = (9, 0) := by show (if k = 0 then (7, L) else if k = 1 then (8, 6) else (9, 0)) = _; rw [if_neg q0, if_neg q1]
          rw [e] at hk; exact absurd hk (by decide)
    · by_cases q0 : k = 0
      · subst q0; exact absurd (show (7 : Nat) = 8 from hk) (by decide)
      · by_cases q1 : k = 1
        · exact q1
        · have e : hK (h0 L xs) k = (9, 0) := by show (if k = 0 then (7, L) else if k = 1 then (8, 6) else (9, 0)) = _; rw [if_neg q0, if_neg q1]
          rw [e] at hk; exact absurd hk (by decide)
    · have hk : 2 ≤ k := hk
      show (if k = 0 then (7, L) else if k = 1 then (8, 6) else ((9, 0) : Nat × Nat)).1 = 9
      rw [if_neg (by omega), if_neg (by omega)]
    · by_cases q0 : k = 0
      · subst q0; exact absurd (show (7 : Nat) = 0 from hk) (by decide)
      · by_cases q1 : k = 1
        · subst q1; exact absurd (show (8 : Nat) = 0 from hk) (by decide)
        · have e : hK (h0 L xs) k = (9, 0) := by show (if k = 0 then (7, L) else if k = 1 then (8, 6) else (9, 0)) = _; rw [if_neg q0, if_neg q1]
          rw [e] at hk; exact absurd hk (by decide)
  have cx : Cx p s m #[Value.ref b] meth c 0 w := ⟨hx, hb, hml, hown, fun x hx => hts x (List.mem_filter.mp hx).1, hsk, pok0, fun q => absurd q (by decide)⟩
  have hl := lv_entry ([.ref b]) (n := 4) (Nat.le_of_ble_eq_true rfl)
  rw [lg_entry_eq]
  generalize (lg_sl ([.ref b]) ++ List.replicate (4 - (lg_sl ([.ref b])).length) Slot.unset).toArray = ls at hl ⊢
  have hl : lv_has ls 4 (([(0, .ref 0)] : List (Nat × Value)).map (cw w)) := by
    have e : ([(0, .ref 0)] : List (Nat × Value)).map (cw w) = [(0, Value.ref b)] := by
      show [(0, Value.ref (wS w))] = _
      rw [eS]
    rw [e]
    exact hl
  refine wp_sound cx (R := room_1) (d := 8) (by decide) (by decide) (ex_sound l w 8) ?_ (hpure L xs hL) s.heap [] 0 0 ls hHR va_S.rf hl (by decide) (by decide)
  intro ins pc st h2 H locs cells slots lsA hd hrk hr2 hS hc1 hc2
  rcases retK_inv hrk with ⟨rfl, e2, rfl, hq⟩ | ⟨x, rfl, e2, rfl, hq⟩ | ⟨x, rfl, e2, rfl, hb01, hq⟩ | ⟨x, rfl, e2, rfl, hq⟩ | ⟨n, a, rfl, e2, rfl, hq⟩ | ⟨n, rfl, e2, rfl, hq⟩
  · cases hq
  · cases e2
  · cases hq
    refine va_forget (fun q hq => by have := hS.2.2 q hq; rw [eA] at this; exact this) ?_
    exact W.widen hc1 hc2 (lw_ret hx hb hr hlocks hd)
  · cases e2
  · cases e2
  · cases e2
