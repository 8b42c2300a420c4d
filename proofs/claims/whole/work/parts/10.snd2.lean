/-! ===== stores, new cells ===== -/
section SN2
variable {p : Program} {l : Launch} {e : Env} {R : Room} {s : State} {m : MethodId} {args : Array Value} {below : List Frame} {meth : Method} {c : Code} {Q : State → Prop} {w : wd} {j : Nat}
theorem sI_o (h : hp) (a k : Nat) (x : Int32) : ∀ q, q ≠ a → hI (sI h a k x) q = hI h q ∧ hJ (sI h a k x) q = hJ h q ∧ hR (sI h a k x) q = hR h q := fun q hq => ⟨u2_n hq, rfl, rfl⟩
theorem sJ_o (h : hp) (a k : Nat) (x : Int64) : ∀ q, q ≠ a → hI (sJ h a k x) q = hI h q ∧ hJ (sJ h a k x) q = hJ h q ∧ hR (sJ h a k x) q = hR h q := fun q hq => ⟨rfl, u2_n hq, rfl⟩
theorem sR_o (h : hp) (a k : Nat) (x : Option Nat) : ∀ q, q ≠ a → hI (sR h a k x) q = hI h q ∧ hJ (sR h a k x) q = hJ h q ∧ hR (sR h a k x) q = hR h q := fun q hq => ⟨rfl, rfl, u2_n hq⟩
theorem store_cell {w : wd} {t n k : Nat} {f g : Nat → Value} {x : Value} (hf : ∀ q, g q = if q = k then x else f q) : (arrV (wA w t) n f).setSlot k x = arrV (wA w t) n g := by
  rw [arrV_store]
  congr 1
  funext q
  rw [hf q]
  rfl
set_option maxHeartbeats 4000000 in
theorem sn_store (cx : Cx p s m args meth c j w) {Y : cfgP} (hY : ∀ pc ls st h bc bs, Y pc ls st h bc bs → XM p l e R s m args below meth c Q w j pc ls st h bc bs) {C : callP} {Qp : resP} {ins : Instr} {len pc : Nat} {ls : List (Nat × Value)} {st : List Value} {h : hp} {bc bs : Nat}
    (hpl : match ins with | .iastore | .bastore | .lastore => True | _ => False)
    (hm : (pc, ins, ilen ins len) ∈ pt j) (hs : stepI C j Qp Y ins len pc ls st h bc bs) : XM p l e R s m args below meth c Q w j pc ls st h bc bs := by
  obtain ⟨hx, hb, hml, hown, hts, hsk, hok, hin⟩ := cx
  have hd := hok _ hm
  intro H locs cells slots lsA hr hS hl hbc hbs
  cases ins with
  | iastore =>
    obtain ⟨a, i, x, r, rfl, ht, hn, hs⟩ := oAII_inv hs
    rcases hk : hK h a with ⟨t, n⟩
    rw [hk] at ht hn
    have e1 : t = 1 := ht
    subst e1
    obtain ⟨hc, h2⟩ := hr.arrT hk (by omega) (by omega)
    refine W.iast hx hb hc (hsk.ty 0 rfl n _) (fun q => by cases q) (in_size hn) rfl rfl hd fun H1 e1 z oq => ?_
    refine hY _ _ _ _ _ _ hs H1 _ cells slots lsA (hr.put h2 rfl rfl (sI_o h a _ x) z oq (HC_arr hk (by omega) ?_)) (hS.at z oq (wAf_adr h2)) hl hbc hbs
    rw [e1, store_cell (fun q => ?_)]
    show elt w 1 (u2 h.1 a i.toNatClampNeg x a q) _ _ = _
    rw [u2_s, elt1, elt1]
    unfold u1
    split <;> rfl
  | bastore =>
    obtain ⟨a, i, x, r, rfl, hs1⟩ := oAII_inv hs
    rcases hk : hK h a with ⟨t, n⟩
    rw [hk] at hs1
    rcases hs1 with ⟨ht, hn, hs⟩ | ⟨ht, hn, hs⟩
    · have e1 : t = 3 := ht
      subst e1
      obtain ⟨hc, h2⟩ := hr.arrT hk (by omega) (by omega)
      refine W.bast hx hb hc (hsk.ty 2 rfl n _) (fun q => by cases q) (in_size hn) rfl rfl hd fun H1 e1 z oq => ?_
      refine hY _ _ _ _ _ _ hs H1 _ cells slots lsA (hr.put h2 rfl rfl (sI_o h a _ _) z oq (HC_arr hk (by omega) ?_)) (hS.at z oq (wAf_adr h2)) hl hbc hbs
      rw [e1, store_cell (fun q => ?_)]
      show elt w 3 (u2 h.1 a i.toNatClampNeg (vp_nar .byte x) a q) _ _ = _
      rw [u2_s, elt3, elt3]
      unfold u1
      split <;> rfl
    · have e1 : t = 4 := ht
      subst e1
      obtain ⟨hc, h2⟩ := hr.arrT hk (by omega) (by omega)
      refine W.zast hx hb hc (hsk.ty 3 rfl n _) (fun q => by cases q) (in_size hn) rfl rfl hd fun H1 e1 z oq => ?_
      refine hY _ _ _ _ _ _ hs H1 _ cells slots lsA (hr.put h2 rfl rfl (sI_o h a _ _) z oq (HC_arr hk (by omega) ?_)) (hS.at z oq (wAf_adr h2)) hl hbc hbs
      rw [e1, store_cell (fun q => ?_)]
      show elt w 4 (u2 h.1 a i.toNatClampNeg (vp_nar .boolean x) a q) _ _ = _
      rw [u2_s, elt4, elt4]
      unfold u1
      split <;> rfl
  | lastore =>
    obtain ⟨a, i, x, r, rfl, ht, hn, hs⟩ := oAIJ_inv hs
    rcases hk : hK h a with ⟨t, n⟩
    rw [hk] at ht hn
    have e1 : t = 2 := ht
    subst e1
    obtain ⟨hc, h2⟩ := hr.arrT hk (by omega) (by omega)
    refine W.last hx hb hc (hsk.ty 1 rfl n _) (fun q => by cases q) (in_size hn) rfl rfl hd fun H1 e1 z oq => ?_
    refine hY _ _ _ _ _ _ hs H1 _ cells slots lsA (hr.put h2 rfl rfl (sJ_o h a _ x) z oq (HC_arr hk (by omega) ?_)) (hS.at z oq (wAf_adr h2)) hl hbc hbs
    rw [e1, store_cell (fun q => ?_)]
    show elt w 2 _ (u2 h.2.1 a i.toNatClampNeg x a q) _ = _
    rw [u2_s, elt2, elt2]
    unfold u1
    split <;> rfl
  | _ => exact hpl.elim
theorem putK_inv {ty : FieldType} {v : Value} {h : hp} {a k : Nat} {K : hp → Prop} (hp0 : putK ty v h a k K) : ∃ h', K h' ∧ hK h' = hK h ∧ hN h' = hN h ∧ (∀ q, q ≠ a → hI h' q = hI h q ∧ hJ h' q = hJ h q ∧ hR h' q = hR h q) ∧ (∀ w : wd, narrow ty (cv w v) = cv w v ∧ fits ty (cv w v) = true) ∧
    (∀ (f : Nat → FieldType) (q : Nat), f k = ty → pval (f q) (hI h' a q) (hJ h' a q) (hR h' a q) = if q = k then v else pval (f q) (hI h a q) (hJ h a q) (hR h a q)) := by
  have key : ∀ {α : Type} {g : Nat → Nat → α} {x : α} (q : Nat), u2 g a k x a q = if q = k then x else g a q := fun q => by rw [u2_s]; rfl
  unfold putK at hp0
  split at hp0
  · refine ⟨_, hp0, rfl, rfl, sI_o h a k _, fun w => ⟨rfl, rfl⟩, fun f q hf => ?_⟩
    show pval (f q) (u2 h.1 a k _ a q) _ _ = _
    rw [key q]
    by_cases e : q = k
    · subst e
      rw [hf, if_pos rfl, if_pos rfl]
      rfl
    · rw [if_neg e, if_neg e]
      rfl
  · obtain ⟨hx, hp0⟩ := hp0
    refine ⟨_, hp0, rfl, rfl, sI_o h a k _, fun w => ?_, fun f q hf => ?_⟩
    · rcases hx with rfl | rfl
      · show narrow .boolean (Value.int 0) = Value.int 0 ∧ fits .boolean (Value.int 0) = true
        decide
      · show narrow .boolean (Value.int 1) = Value.int 1 ∧ fits .boolean (Value.int 1) = true
        decide
    · show pval (f q) (u2 h.1 a k _ a q) _ _ = _
      rw [key q]
      by_cases e : q = k
      · subst e
        rw [hf, if_pos rfl, if_pos rfl]
        rfl
      · rw [if_neg e, if_neg e]
        rfl
  · refine ⟨_, hp0, rfl, rfl, sJ_o h a k _, fun w => ⟨rfl, rfl⟩, fun f q hf => ?_⟩
    show pval (f q) _ (u2 h.2.1 a k _ a q) _ = _
    rw [key q]
    by_cases e : q = k
    · subst e
      rw [hf, if_pos rfl, if_pos rfl]
      rfl
    · rw [if_neg e, if_neg e]
      rfl
  all_goals first
    | exact hp0.elim
    | (refine ⟨_, hp0, rfl, rfl, sR_o h a k _, fun w => ⟨rfl, rfl⟩, fun f q hf => ?_⟩
       show pval (f q) _ _ (u2 h.2.2.1 a k _ a q) = _
       rw [key q]
       by_cases e : q = k
       · subst e
         rw [hf, if_pos rfl, if_pos rfl]
         rfl
       · rw [if_neg e, if_neg e]
         rfl)
theorem lays_in {ci : Nat} (hci : ci < 10) : ∀ x ∈ u_ws (clR ci) (clT ci) (clN ci), x ∈ gT := fun x hx => List.mem_filter.mpr ⟨cl_lays ci hci x hx, by
  obtain ⟨z, -, rfl⟩ := List.mem_map.mp hx
  unfold u_lay
  split <;> rfl⟩
theorem u2_at {α : Type} {f : Nat → Nat → α} {a k q : Nat} {x : α} : u2 f a k x a q = if q = k then x else f a q := by rw [u2_s]; rfl
set_option maxHeartbeats 4000000 in
theorem sn_put (cx : Cx p s m args meth c j w) {Y : cfgP} (hY : ∀ pc ls st h bc bs, Y pc ls st h bc bs → XM p l e R s m args below meth c Q w j pc ls st h bc bs) {C : callP} {Qp : resP} {i len pc : Nat} {ls : List (Nat × Value)} {st : List Value} {h : hp} {bc bs : Nat}
    (hm : (pc, Instr.putfield i, 3) ∈ pt j) (hs : stepI C j Qp Y (.putfield i) len pc ls st h bc bs) : XM p l e R s m args below meth c Q w j pc ls st h bc bs := by
  obtain ⟨hx, hb, hml, hown, hts, hsk, hok, hin⟩ := cx
  have hd := hok _ hm
  intro H locs cells slots lsA hr hS hl hbc hbs
  have hs : ∃ v a r, st = v :: .ref a :: r ∧ hK h a = (0, (fres (mO j) i).1) ∧ (fres (mO j) i).1 < 10 ∧ ((clT (fres (mO j) i).1 (fres (mO j) i).2.1).2.2.2 = false ∨ ((clT (fres (mO j) i).1 (fres (mO j) i).2.1).2.2.2 = true ∧ (mY j).name = "<init>" ∧ mO j = (fres (mO j) i).1)) ∧
        putK (fT (fres (mO j) i).1 (fres (mO j) i).2.1) v h a (fres (mO j) i).2.1 fun h' => Y (pc + 3) ls r h' bc bs := by
    rcases st with _ | ⟨v, _ | ⟨u, r⟩⟩
    · exact hs.elim
    · exact hs.elim
    · cases u with
      | ref a => exact ⟨v, a, r, rfl, hs⟩
      | _ => exact hs.elim
  obtain ⟨v, a, r, rfl, hk, hci, hfin, hp0⟩ := hs
  obtain ⟨hi, hq⟩ := fres_in hci
  obtain ⟨-, hkN, hw⟩ := ftab_ok _ hq
  dsimp only at hkN hw
  rw [(key_dm hi).1, (key_dm hi).2] at hw
  generalize hf : fres (mO j) i = f at *
  obtain ⟨ci, k, q⟩ := f
  dsimp only at hk hci hfin hp0 hkN hw
  obtain ⟨h', hs, eK, eN, ho, hnf, hpv⟩ := putK_inv hp0
  obtain ⟨hn1, hn2⟩ := hnf w
  have h2 : 2 ≤ a := (hr.at (k := a) (by rw [hk]; exact (by decide : (0 : Nat) ≠ 7)) (by rw [hk]; exact (by decide : (0 : Nat) ≠ 8)) (by rw [hk]; exact (by decide : (0 : Nat) ≠ 9))).1
  obtain ⟨cell, q1, q2, q3, q4⟩ := hr.obj hk
  have hKn := hsk.1.1 ci _ (cl_at ci hci)
  obtain ⟨hSl, hfc, kC, hkC, hkind⟩ := hKn
  obtain ⟨cf, kf, fi, f, hfi, hsl⟩ := hSl k hkN
  have hap := va_apart (own := clR ci) hts (lays_in hci) (fT ci) (cl_types ci hci) (cl_names ci hci) hsk.1 (cl_at ci hci)
  have hst := (u_facts hfc hkC (u_lays hts (lays_in hci) hkN) hfi).1
  have hlay := hts _ (lays_in hci _ (u_in_lay hkN))
  have fin : ∀ H1 : Heap, H1[adr w a]? = some (cell.setSlot f.slot (cv w v)) → H1.size = H.size → (∀ q, q ≠ adr w a → H1[q]? = H[q]?) → W p l e R s m args below meth c H1 (locs ++ [⟨adr w a, f.slot⟩]) cells slots Q (F0 m (pc + 3) lsA (r.map (cv w))) := by
    intro H1 e1 z oq
    refine hY _ _ _ _ _ _ hs H1 _ cells slots lsA (hr.put h2 eK eN ho z oq ?_) (hS.at z oq (wAf_adr h2)) hl hbc hbs
    unfold HC
    rw [eK, hk]
    show t_OB (adr w a) ((wD w).1 ci) (clN ci) ((wD w).2 ci) H1 _
    rw [hsl] at e1
    refine t_OB.to ⟨_, e1, q2, q3, t_set q4 hap hkN (cv w v)⟩ (fun q hq => ?_)
    rw [hpv (fT ci) q rfl]
    unfold updV
    by_cases e : q = k
    · rw [if_pos e, if_pos e]
    · rw [if_neg e, if_neg e]
  rcases hfin with hfin | ⟨hfin, hini, hoj⟩
  · unfold u_lay at hlay
    rw [if_neg (by rw [hfin]; decide)] at hlay
    have h6 := u_store hfc hkC hkind hlay hfi (cl_types ci hci k hkN) hn1 hn2
    exact W.putK hx hb (f := f) ⟨hown, hts _ (inG hw rfl), ⟨_, _, _, hfi⟩, hst⟩ (by rw [q2]; exact h6) q1 q3 (by rw [hsl]; exact k2_hasslot (q4 k hkN)) rfl rfl hd fin
  · unfold u_lay at hlay
    rw [if_pos hfin] at hlay
    have hcf : m.cls = cf := by
      obtain ⟨_, _, c', _, _, _, -, -, hf', -, -, -, hown2, -⟩ := Cond.laysFinal_spec hlay
      have e1 : c' = cf := by have := hfi.symm.trans hf'; simp at this; exact this.1.symm
      rw [cl_own ci hci k hkN] at hown2
      rw [hoj] at hown
      have e2 : oN ci = clR ci := by
        rcases (show ci = 0 ∨ ci = 1 ∨ ci = 2 ∨ ci = 3 ∨ ci = 4 ∨ ci = 5 ∨ ci = 6 ∨ ci = 7 ∨ ci = 8 ∨ ci = 9 by omega) with e | e | e | e | e | e | e | e | e | e <;> subst e <;> rfl
      rw [e2] at hown
      rw [← e1]; exact Option.some.inj (hown.symm.trans hown2)
    have h6 := u_fits hfc hkC hkind (Or.inr hlay) hfi (cl_types ci hci k hkN) hn1 hn2
    exact W.putFinK hx hb hown (hts _ (inG hw rfl)) hfi hst hcf (hin hini) (by rw [q2]; exact h6) q1 q3 (by rw [hsl]; exact k2_hasslot (q4 k hkN)) rfl rfl hd fin
end SN2
