/-! ===== new cells ===== -/
section SN3
variable {p : Program} {l : Launch} {e : Env} {R : Room} {s : State} {m : MethodId} {args : Array Value} {below : List Frame} {meth : Method} {c : Code} {Q : State → Prop} {w : wd} {j : Nat}
theorem cl_nf : ∀ ci, ci < 10 → ∀ k, k < clN ci → fT ci k ≠ .float ∧ fT ci k ≠ .double := by decide +kernel
theorem elt0 (w : wd) (t : Nat) : elt w t 0 0 none = if t = 2 then .long 0 else if t = 5 ∨ t = 6 then .null else .int 0 := rfl
theorem HR.sz {w : wd} {h : hp} {H : Heap} (hr : HR w h H) : H.size = adr w (hN h) := by
  rw [adr_ge hr.1.1]
  exact hr.2.1
theorem va_S.push {A : Nat → Prop} {H0 H H1 : Heap} {locs : List Loc} (h : va_S A H0 H locs) (z : H.size ≤ H1.size) (oq : ∀ q : Nat, q < H.size → H1[q]? = H[q]?) : va_S A H0 H1 locs := ⟨Nat.le_trans h.1 z, fun q h1 h2 => (oq q (Nat.lt_of_lt_of_le h1 h.1)).trans (h.2.1 q h1 h2), h.2.2⟩
set_option maxHeartbeats 4000000 in
theorem sn_newa (cx : Cx p s m args meth c j w) {Y : cfgP} (hY : ∀ pc ls st h bc bs, Y pc ls st h bc bs → XM p l e R s m args below meth c Q w j pc ls st h bc bs) {C : callP} {Qp : resP} {t : ArrayType} {len pc : Nat} {ls : List (Nat × Value)} {st : List Value} {h : hp} {bc bs : Nat}
    (hm : (pc, Instr.newarray t, 2) ∈ pt j) (hs : stepI C j Qp Y (.newarray t) len pc ls st h bc bs) : XM p l e R s m args below meth c Q w j pc ls st h bc bs := by
  obtain ⟨hx, hb, hml, hown, hts, hsk, hok, hin⟩ := cx
  have hd := hok _ hm
  intro H locs cells slots lsA hr hS hl hbc hbs
  obtain ⟨x, r, rfl, ht1, ht4, hn, h60, hc1, hsl, hs⟩ := oI_inv hs
  have word : (Cond.arrayClass (newarray.typeOf t)).before args s = true ∧ componentBytes (newarray.typeOf t) ≤ 8 ∧ (∀ cA, s.vm.findClass ("[" ++ (newarray.typeOf t).toString) = some cA → cA = wA w (atag t)) ∧ defaultValue (newarray.typeOf t) = elt w (atag t) 0 0 none := by
    obtain ⟨w1, w2, w3, w4, -, -⟩ := arr_words
    cases t with
    | int => exact ⟨hts _ (inG w1 rfl), by decide, fun cA h => Option.some.inj (h.symm.trans (hsk.1.2 0 _ rfl).2), rfl⟩
    | long => exact ⟨hts _ (inG w2 rfl), by decide, fun cA h => Option.some.inj (h.symm.trans (hsk.1.2 1 _ rfl).2), rfl⟩
    | byte => exact ⟨hts _ (inG w3 rfl), by decide, fun cA h => Option.some.inj (h.symm.trans (hsk.1.2 2 _ rfl).2), rfl⟩
    | boolean => exact ⟨hts _ (inG w4 rfl), by decide, fun cA h => Option.some.inj (h.symm.trans (hsk.1.2 3 _ rfl).2), rfl⟩
    | _ => exact absurd ht4 (by decide)
  obtain ⟨w1, w2, w3, w4⟩ := word
  refine va_newaK hx hb w1 rfl hd rfl hn rfl (Nat.le_trans (Nat.mul_le_mul h60 w2) (by decide)) (by omega) (by omega) rfl fun H1 cA e1 z1 o1 _ hNm => ?_
  have ecA := w3 cA hNm
  subst ecA
  rw [w4] at e1
  have k0 : hK (hnew h (atag t) x.toNatClampNeg) (hN h) = (atag t, x.toNatClampNeg) := u1_s
  have hr1 : HR w (hnew h (atag t) x.toNatClampNeg) H1 := hr.push (by omega) (fun q => by omega) z1 o1 (HC_arr k0 ht1 (by
    rw [← hr.sz, e1]
    refine congrArg (fun f => some (arrV (wA w (atag t)) x.toNatClampNeg f)) (funext fun q => ?_)
    show _ = elt w (atag t) (u1 (hI h) (hN h) (fun _ => 0) (hN h) q) (u1 (hJ h) (hN h) (fun _ => 0) (hN h) q) (u1 (hR h) (hN h) (fun _ => none) (hN h) q)
    rw [u1_s, u1_s, u1_s]))
  have hW := hY _ _ _ _ _ _ hs H1 locs (cells + 1) (slots + x.toNatClampNeg) lsA hr1 (hS.push (by omega) o1) hl (by omega) (by omega)
  have ea : cv w (.ref (hN h)) = .ref H.size := by rw [hr.sz]; rfl
  rw [List.map_cons, ea] at hW
  exact hW
set_option maxHeartbeats 4000000 in
theorem sn_new (cx : Cx p s m args meth c j w) {Y : cfgP} (hY : ∀ pc ls st h bc bs, Y pc ls st h bc bs → XM p l e R s m args below meth c Q w j pc ls st h bc bs) {C : callP} {Qp : resP} {i : Nat} {len pc : Nat} {ls : List (Nat × Value)} {st : List Value} {h : hp} {bc bs : Nat}
    (hm : (pc, Instr.new i, 3) ∈ pt j) (hs : stepI C j Qp Y (.new i) len pc ls st h bc bs) : XM p l e R s m args below meth c Q w j pc ls st h bc bs := by
  obtain ⟨hx, hb, hml, hown, hts, hsk, hok, hin⟩ := cx
  have hd := hok _ hm
  intro H locs cells slots lsA hr hS hl hbc hbs
  obtain ⟨hci, hc1, hsl, hs⟩ := hs
  obtain ⟨hi, hq⟩ := nres_in hci
  obtain ⟨-, hw⟩ := ntab_ok _ hq
  dsimp only at hw
  rw [(key_dm hi).1, (key_dm hi).2] at hw
  generalize hf : nres (mO j) i = f at *
  obtain ⟨ci, q⟩ := f
  dsimp only at hci hsl hs hw
  obtain ⟨p1, p2⟩ := cpos_ok ci hci
  have hKn := hsk.1.1 ci _ (cl_at ci hci)
  refine W.newcK hx hb hown (hts _ (inG hw rfl)) (hts _ (inG p1 rfl)) (hts _ (inG p2 rfl)) rfl hd (by omega) (by omega) hKn.2.1 rfl fun H1 kC hkC e1 z1 o1 => ?_
  have k0 : hK (hnew h 0 ci) (hN h) = (0, ci) := u1_s
  have hr1 : HR w (hnew h 0 ci) H1 := hr.push (by omega) (fun _ => hci) z1 o1 (by
    unfold HC
    rw [k0]
    show t_OB (adr w (hN h)) ((wD w).1 ci) (clN ci) ((wD w).2 ci) H1 _
    rw [← hr.sz]
    refine (u_born (fT ci) hts (lays_in hci) hKn hkC e1 (cl_types ci hci)).to (fun q hqN => ?_)
    show defaultValue (fT ci q) = cv w (pval (fT ci q) (u1 (hI h) (hN h) (fun _ => 0) (hN h) q) (u1 (hJ h) (hN h) (fun _ => 0) (hN h) q) (u1 (hR h) (hN h) (fun _ => none) (hN h) q))
    rw [u1_s, u1_s, u1_s]
    have hty := cl_nf ci hci q hqN
    cases hq : fT ci q with
    | float => exact absurd hq hty.1
    | double => exact absurd hq hty.2
    | _ => rfl)
  have hW := hY _ _ _ _ _ _ hs H1 locs (cells + 1) (slots + clN ci) lsA hr1 (hS.push (by omega) o1) hl (by omega) (by omega)
  have ea : cv w (.ref (hN h)) = .ref H.size := by rw [hr.sz]; rfl
  rw [List.map_cons, ea] at hW
  exact hW
theorem grid_K (h : hp) (t ti n k : Nat) : hK (hgrid h t ti n k) (hN h) = (t, n) ∧ (∀ i, i < n → hK (hgrid h t ti n k) (hN h + 1 + i) = (ti, k)) ∧ (∀ a, a < hN h → hK (hgrid h t ti n k) a = hK h a) ∧ ∀ a, hN h + n < a → hK (hgrid h t ti n k) a = hK h a := by
  refine ⟨if_pos rfl, fun i hi => ?_, fun a ha => ?_, fun a ha => ?_⟩
  · show (if hN h + 1 + i = hN h then (t, n) else if hN h < hN h + 1 + i ∧ hN h + 1 + i ≤ hN h + n then (ti, k) else hK h (hN h + 1 + i)) = _
    rw [if_neg (by omega), if_pos (by omega)]
  · show (if a = hN h then (t, n) else if hN h < a ∧ a ≤ hN h + n then (ti, k) else hK h a) = _
    rw [if_neg (by omega), if_neg (by omega)]
  · show (if a = hN h then (t, n) else if hN h < a ∧ a ≤ hN h + n then (ti, k) else hK h a) = _
    rw [if_neg (by omega), if_neg (by omega)]
theorem grid_o (h : hp) (t ti n k a : Nat) (ha : a < hN h) : hI (hgrid h t ti n k) a = hI h a ∧ hJ (hgrid h t ti n k) a = hJ h a ∧ hR (hgrid h t ti n k) a = hR h a := by
  refine ⟨if_neg (by omega), if_neg (by omega), ?_⟩
  show (if a = hN h then _ else if hN h < a ∧ a ≤ hN h + n then _ else hR h a) = _
  rw [if_neg (by omega), if_neg (by omega)]
theorem outer_cell (cA : ClassId) (N h0 : Nat) : ∀ i : Nat, Jvm.Free.Multi.outerC cA N h0 i = arrV cA N (fun q => va_rf (if q < i then some (h0 + 1 + q) else none))
  | 0 => by
    show ({ cls := cA, slots := Array.replicate N .null, vm := .none } : Cell) = _
    rw [arrV_new]
    refine congrArg (arrV cA N) (funext fun q => ?_)
    rw [if_neg (Nat.not_lt_zero q)]
    rfl
  | i + 1 => by
    show (Jvm.Free.Multi.outerC cA N h0 i).setSlot i (.ref (h0 + 1 + i)) = _
    rw [outer_cell cA N h0 i, arrV_store]
    refine congrArg (arrV cA N) (funext fun q => ?_)
    unfold updV
    by_cases e : q = i
    · rw [if_pos e, if_pos (by omega), e]
      rfl
    · rw [if_neg e]
      show va_rf (if q < i then some (h0 + 1 + q) else none) = _
      by_cases h : q < i
      · rw [if_pos h, if_pos (by omega)]
      · rw [if_neg h, if_neg (by omega)]
set_option maxHeartbeats 4000000 in
theorem sn_grid (cx : Cx p s m args meth c j w) {Y : cfgP} (hY : ∀ pc ls st h bc bs, Y pc ls st h bc bs → XM p l e R s m args below meth c Q w j pc ls st h bc bs) {C : callP} {Qp : resP} {i dm : Nat} {len pc : Nat} {ls : List (Nat × Value)} {st : List Value} {h : hp} {bc bs : Nat}
    (hm : (pc, Instr.multianewarray i dm, 4) ∈ pt j) (hs : stepI C j Qp Y (.multianewarray i dm) len pc ls st h bc bs) : XM p l e R s m args below meth c Q w j pc ls st h bc bs := by
  obtain ⟨hx, hb, hml, hown, hts, hsk, hok, hin⟩ := cx
  have hd := hok _ hm
  intro H locs cells slots lsA hr hS hl hbc hbs
  obtain ⟨hd2, hs⟩ := hs
  subst hd2
  obtain ⟨x, y, r, rfl, hg, hx0, hy0, hx1, hy1, hc1, hsl, hs⟩ := oII_inv hs
  obtain ⟨hi, hq⟩ := gres_in (o := mO j) (i := i) (by rcases hg with e | e <;> rw [e] <;> decide)
  obtain ⟨g5, g6⟩ := gtab_ok _ hq
  dsimp only at g5 g6
  rw [(key_dm hi).1, (key_dm hi).2] at g5 g6
  generalize hf : gres (mO j) i = f at *
  obtain ⟨t, q0⟩ := f
  dsimp only at hg hs g5 g6
  have word : ∃ ty : FieldType, (Cond.classLink (oN (mO j)) i ("[" ++ (FieldType.array ty).toString)).before args s = true ∧ (Cond.arrayOver (.array ty)).before args s = true ∧ (Cond.arrayClass ty).before args s = true ∧ componentBytes ty ≤ 8 ∧ fits ty (defaultValue ty) = true ∧ (defaultValue ty).isDefault = true ∧
      (∀ cA, s.vm.findClass ("[" ++ (FieldType.array ty).toString) = some cA → cA = wA w t) ∧ (∀ cA, s.vm.findClass (FieldType.array ty).toString = some cA → cA = wA w (t - 4)) ∧ defaultValue ty = elt w (t - 4) 0 0 none := by
    obtain ⟨w1, w2, w3, w4, -, -⟩ := arr_words
    rcases hg with rfl | rfl
    · exact ⟨.int, hts _ (inG (g5 rfl) rfl), hsk.2.2.2.2.2.2.2.2.1, hts _ (inG w1 rfl), by decide, rfl, rfl, fun cA h => Option.some.inj (h.symm.trans (hsk.1.2 4 _ rfl).2), fun cA h => Option.some.inj (h.symm.trans (hsk.1.2 0 _ rfl).2), rfl⟩
    · exact ⟨.long, hts _ (inG (g6 rfl) rfl), hsk.2.2.2.2.2.2.2.2.2, hts _ (inG w2 rfl), by decide, rfl, rfl, fun cA h => Option.some.inj (h.symm.trans (hsk.1.2 5 _ rfl).2), fun cA h => Option.some.inj (h.symm.trans (hsk.1.2 1 _ rfl).2), rfl⟩
  obtain ⟨ty, a1, a2, a3, a4, a5, a6, a7, a8, a9⟩ := word
  intro T hT Xs
  obtain ⟨vm₁, cA, comp, -, fA, fC, -, -, X', step⟩ := Xs.multianewarray2F hx hown a1 a2 a3 (g := F0 m pc lsA (.int y :: .int x :: r.map (cv w))) rfl (by rw [hb]; exact hd) rfl hx0 hy0 (by omega) (Nat.le_trans (Nat.mul_le_mul hy1 a4) (by decide)) (by omega) a5 a6 (by omega) (by omega)
  have e1 := a7 cA fA
  subst e1
  have e2 := a8 comp fC
  subst e2
  generalize hF : Jvm.Free.Multi.fill (T.setVm vm₁) (wA w t) (wA w (t - 4)) x.toNatClampNeg y.toNatClampNeg (defaultValue ty) x.toNatClampNeg = F at X' step
  have hTh : (T.setVm vm₁).heap = H := hT
  obtain ⟨f1, f2, -, -⟩ := Jvm.Free.Multi.fill_facts (T.setVm vm₁) (wA w t) (wA w (t - 4)) x.toNatClampNeg y.toNatClampNeg (defaultValue ty) x.toNatClampNeg
  rw [hF, hTh] at f1 f2
  have hold : ∀ q : Nat, q < H.size → F.heap[q]? = H[q]? := fun q hq => by
    have := Jvm.Free.Multi.fill_old (T.setVm vm₁) (wA w t) (wA w (t - 4)) x.toNatClampNeg y.toNatClampNeg (defaultValue ty) (a := q) (by rw [hTh]; exact hq) x.toNatClampNeg
    rw [hF, hTh] at this
    exact this
  have hrow : ∀ q : Nat, q < x.toNatClampNeg → F.heap[H.size + 1 + q]? = some (arrV (wA w (t - 4)) y.toNatClampNeg (fun _ => defaultValue ty)) := fun q hq => by
    have := Jvm.Free.Multi.fill_inner (T.setVm vm₁) (wA w t) (wA w (t - 4)) x.toNatClampNeg y.toNatClampNeg (defaultValue ty) x.toNatClampNeg q hq
    rw [hF, hTh] at this
    rw [this, ← arrV_new]
    rfl
  rw [outer_cell] at f2
  obtain ⟨k1, k2, k3, k4⟩ := grid_K h t (t - 4) x.toNatClampNeg y.toNatClampNeg
  have hsz := hr.sz
  have hsz2 : H.size = wB w + (hN h - 2) := hr.2.1
  have hr1 : HR w (hgrid h t (t - 4) x.toNatClampNeg y.toNatClampNeg) F.heap := by
    obtain ⟨⟨s1, s2, s3, s4, s5, s6, s7, s8, s9⟩, hz, hcs⟩ := hr
    have eN : hN (hgrid h t (t - 4) x.toNatClampNeg y.toNatClampNeg) = hN h + 1 + x.toNatClampNeg := rfl
    have tri : ∀ a, a < hN h ∨ a = hN h ∨ (∃ q, q < x.toNatClampNeg ∧ a = hN h + 1 + q) ∨ hN h + x.toNatClampNeg < a := fun a => by
      by_cases b1 : a < hN h
      · exact Or.inl b1
      · by_cases b2 : a = hN h
        · exact Or.inr (Or.inl b2)
        · by_cases b3 : a ≤ hN h + x.toNatClampNeg
          · exact Or.inr (Or.inr (Or.inl ⟨a - (hN h + 1), by omega, by omega⟩))
          · exact Or.inr (Or.inr (Or.inr (by omega)))
    have tag : ∀ a, hK (hgrid h t (t - 4) x.toNatClampNeg y.toNatClampNeg) a = hK h a ∨ (1 ≤ (hK (hgrid h t (t - 4) x.toNatClampNeg y.toNatClampNeg) a).1 ∧ (hK (hgrid h t (t - 4) x.toNatClampNeg y.toNatClampNeg) a).1 ≤ 6) := fun a => by
      rcases tri a with b | b | ⟨q, hq, b⟩ | b
      · exact Or.inl (k3 a b)
      · rw [b, k1]
        exact Or.inr ⟨by show 1 ≤ t; omega, by show t ≤ 6; omega⟩
      · rw [b, k2 q hq]
        exact Or.inr ⟨by show 1 ≤ t - 4; omega, by show t - 4 ≤ 6; omega⟩
      · exact Or.inl (k4 a b)
    refine ⟨⟨by rw [eN]; omega, by rw [k3 0 (by omega)]; exact s2, by rw [(grid_o h t (t - 4) _ _ 0 (by omega)).1]; exact s3, by rw [k3 1 (by omega)]; exact s4, by rw [(grid_o h t (t - 4) _ _ 1 (by omega)).2.1]; exact s5, fun a ea => ?_, fun a ea => ?_, fun a ea => ?_, fun a ea => ?_⟩, by rw [f1, eN]; omega, fun a h2 hn => ?_⟩
    · rcases tag a with b | b
      · rw [b] at ea; exact s6 a ea
      · omega
    · rcases tag a with b | b
      · rw [b] at ea; exact s7 a ea
      · omega
    · rw [eN] at ea
      rw [k4 a (by omega)]
      exact s8 a (by omega)
    · rcases tag a with b | b
      · rw [b] at ea ⊢; exact s9 a ea
      · omega
    · rcases tri a with b | b | ⟨q, hq, b⟩ | b
      · obtain ⟨i1, i2, i3⟩ := grid_o h t (t - 4) x.toNatClampNeg y.toNatClampNeg a b
        exact (hcs a h2 b).to (k3 a b) i1 i2 i3 (hold _ (by rw [adr_ge h2, hz]; omega))
      · subst b
        refine HC_arr k1 (by omega) ?_
        rw [← hsz, f2]
        refine congrArg (fun f => some (arrV (wA w t) x.toNatClampNeg f)) (funext fun q => ?_)
        have e5 : ∀ rr, elt w t (hI (hgrid h t (t - 4) x.toNatClampNeg y.toNatClampNeg) (hN h) q) (hJ (hgrid h t (t - 4) x.toNatClampNeg y.toNatClampNeg) (hN h) q) rr = cv w (va_rf rr) := fun rr => by rcases hg with e | e <;> rw [e] <;> rfl
        rw [e5]
        show _ = cv w (va_rf ((if hN h = hN h then (fun i => if i < x.toNatClampNeg then some (hN h + 1 + i) else none) else if hN h < hN h ∧ hN h ≤ hN h + x.toNatClampNeg then (fun _ => none) else hR h (hN h)) q))
        rw [if_pos rfl]
        by_cases hq : q < x.toNatClampNeg
        · rw [if_pos hq, if_pos hq]
          show Value.ref (H.size + 1 + q) = Value.ref (adr w (hN h + 1 + q))
          have e9 : H.size + 1 + q = wB w + (hN h + 1 + q - 2) := by omega
          rw [adr_ge (by omega), e9]
        · rw [if_neg hq, if_neg hq]
          rfl
      · subst b
        refine HC_arr (k2 q hq) (by omega) ?_
        have ea : adr w (hN h + 1 + q) = H.size + 1 + q := by rw [adr_ge (by omega), hz]; omega
        rw [ea, hrow q hq]
        refine congrArg (fun f => some (arrV (wA w (t - 4)) y.toNatClampNeg f)) (funext fun z => ?_)
        rw [a9]
        have b1 : hI (hgrid h t (t - 4) x.toNatClampNeg y.toNatClampNeg) (hN h + 1 + q) = fun _ => 0 := if_pos (by omega)
        have b2 : hJ (hgrid h t (t - 4) x.toNatClampNeg y.toNatClampNeg) (hN h + 1 + q) = fun _ => 0 := if_pos (by omega)
        have b3 : hR (hgrid h t (t - 4) x.toNatClampNeg y.toNatClampNeg) (hN h + 1 + q) = fun _ => none := by
          show (if hN h + 1 + q = hN h then (fun i => if i < x.toNatClampNeg then some (hN h + 1 + i) else none) else if hN h < hN h + 1 + q ∧ hN h + 1 + q ≤ hN h + x.toNatClampNeg then (fun _ => none) else hR h (hN h + 1 + q)) = _
          rw [if_neg (by omega), if_pos (by omega)]
        rw [b1, b2, b3]
      · rw [eN] at hn
        omega
  have hW := hY _ _ _ _ _ _ hs F.heap locs (cells + 1 + x.toNatClampNeg) (slots + x.toNatClampNeg + x.toNatClampNeg * y.toNatClampNeg) lsA hr1 (hS.push (by omega) hold) hl (by omega) (by omega)
  have ea : cv w (.ref (hN h)) = .ref H.size := by rw [hsz]; rfl
  rw [List.map_cons, ea] at hW
  obtain ⟨tt, b1, b2⟩ := hW F rfl X'
  refine ⟨tt, step tt ?_, b2⟩
  have e : T.heap.size = H.size := by rw [hT]
  rw [e]
  exact b1
end SN3
