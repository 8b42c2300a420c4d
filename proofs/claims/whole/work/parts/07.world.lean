/-! ===== what a pure heap is in the machine's heap ===== -/
/-- first cell's address, script's, patterns', script's length; the script; the patterns; the classes' numbers and slots; the array classes by kind -/
abbrev wd : Type := (Nat × Nat × Nat × Nat) × (Nat → Int32) × (Nat → Int64) × va_G × (Nat → ClassId)
abbrev wB (w : wd) : Nat := w.1.1
abbrev wS (w : wd) : Nat := w.1.2.1
abbrev wT (w : wd) : Nat := w.1.2.2.1
abbrev wL (w : wd) : Nat := w.1.2.2.2
abbrev wX (w : wd) : Nat → Int32 := w.2.1
abbrev wP (w : wd) : Nat → Int64 := w.2.2.1
abbrev wD (w : wd) : va_G := w.2.2.2.1
abbrev wA (w : wd) : Nat → ClassId := w.2.2.2.2
def adr (w : wd) (k : Nat) : Nat := if k = 0 then wS w else if k = 1 then wT w else wB w + (k - 2)
def cv (w : wd) (v : Value) : Value := match v with
  | .ref k => .ref (adr w k)
  | v => v
def cw (w : wd) (q : Nat × Value) : Nat × Value := (q.1, cv w q.2)
def elt (w : wd) (t : Nat) (i : Int32) (j : Int64) (r : Option Nat) : Value := if t = 2 then .long j else if t = 5 ∨ t = 6 then cv w (va_rf r) else .int i
def HC (w : wd) (h : hp) (H : Heap) (k : Nat) : Prop := if (hK h k).1 = 0
  then t_OB (adr w k) ((wD w).1 (hK h k).2) (clN (hK h k).2) ((wD w).2 (hK h k).2) H (fun j => cv w (pval (fT (hK h k).2 j) (hI h k j) (hJ h k j) (hR h k j)))
  else H[adr w k]? = some (arrV (wA w (hK h k).1) (hK h k).2 (fun j => elt w (hK h k).1 (hI h k j) (hJ h k j) (hR h k j)))
def hshape (w : wd) (h : hp) : Prop := 2 ≤ hN h ∧ hK h 0 = (7, wL w) ∧ hI h 0 = wX w ∧ hK h 1 = (8, 6) ∧ hJ h 1 = wP w ∧ (∀ k, (hK h k).1 = 7 → k = 0) ∧ (∀ k, (hK h k).1 = 8 → k = 1) ∧ (∀ k, hN h ≤ k → (hK h k).1 = 9) ∧ ∀ k, (hK h k).1 = 0 → (hK h k).2 < 10
def HR (w : wd) (h : hp) (H : Heap) : Prop := hshape w h ∧ H.size = wB w + (hN h - 2) ∧ ∀ k, 2 ≤ k → k < hN h → HC w h H k
def wAf (w : wd) : Nat → Prop := fun q => wB w ≤ q
abbrev wTy (w : wd) : List (ClassId × FieldType) := [(wA w 1, .int), (wA w 2, .long), (wA w 3, .byte), (wA w 4, .boolean), (wA w 5, .array .int), (wA w 6, .array .long)]
def SK (w : wd) (U : State) : Prop := va_K (wD w) vwCl (wTy w) U ∧ va_X (wS w) (wL w) (wX w) U U.heap ∧ va_Z "SweepBench" "INPUT_PATTERNS" "[J" (.ref (wT w)) (wAf w) U U.heap ∧ va_T .long (wT w) 6 (fun i => .long (wP w i)) (wAf w) U U.heap ∧ wS w < wB w ∧ wB w ≤ U.heap.size ∧ va_Nw (.fieldLinkNest RX3 103 "SweepBench" "INPUT_PATTERNS" "[J" "SweepBench") U ∧ (∀ e ∈ ctab, e.2.1 = 5 → va_Nw (.methodLinkNest (oN (e.1 / 1000)) (e.1 % 1000) (mY e.2.2.1) RX8) U) ∧ (Cond.arrayOver (.array .int)).before #[] U = true ∧ (Cond.arrayOver (.array .long)).before #[] U = true
theorem u1_s {α : Type} {f : Nat → α} {k : Nat} {v : α} : u1 f k v k = v := if_pos rfl
theorem u1_n {α : Type} {f : Nat → α} {k j : Nat} {v : α} (h : j ≠ k) : u1 f k v j = f j := if_neg h
theorem u2_n {α : Type} {f : Nat → Nat → α} {k j a : Nat} {v : α} (h : a ≠ k) : u2 f k j v a = f a := if_neg h
theorem u2_s {α : Type} {f : Nat → Nat → α} {k j : Nat} {v : α} : u2 f k j v k = u1 (f k) j v := if_pos rfl
theorem adr_ge {w : wd} {k : Nat} (h : 2 ≤ k) : adr w k = wB w + (k - 2) := by
  unfold adr
  rw [if_neg (by omega), if_neg (by omega)]
theorem adr_ne {w : wd} {k a : Nat} (h : 2 ≤ k) (ha : 2 ≤ a) (hn : k ≠ a) : adr w k ≠ adr w a := by
  rw [adr_ge h, adr_ge ha]
  omega
theorem cv_cat (w : wd) (v : Value) : (cv w v).category = v.category := by cases v <;> rfl
theorem cats_cv (w : wd) (st : List Value) : ((st.map (cv w)).map fun v => v.category).sum = cats st := by
  unfold cats
  rw [List.map_map]
  congr 1
  exact List.map_congr_left (fun v _ => cv_cat w v)
/-! locals -/
theorem mem_lookup {ls : List (Nat × Value)} {i : Nat} {v : Value} (h : ls.lookup i = some v) : (i, v) ∈ ls := by
  induction ls with
  | nil => cases h
  | cons q r ih =>
    obtain ⟨a, b⟩ := q
    rw [List.lookup_cons] at h
    by_cases e : i == a
    · rw [e] at h
      have h1 : i = a := by simpa using e
      cases h
      rw [h1]
      exact List.mem_cons_self
    · have e' : (i == a) = false := by simpa using e
      rw [e'] at h
      exact List.mem_cons_of_mem _ (ih h)
theorem has_at {w : wd} {lsA : Array Slot} {n : Nat} {ls : List (Nat × Value)} {i : Nat} {v : Value} (hl : lv_has lsA n (ls.map (cw w))) (h : ls.lookup i = some v) : lsA[i]? = some (.val (cv w v)) :=
  hl.2.2 (i, cv w v) (List.mem_map.mpr ⟨(i, v), mem_lookup h, rfl⟩)
theorem lset1_map (w : wd) (ls : List (Nat × Value)) (i : Nat) (v : Value) : (i, cv w v) :: (ls.map (cw w)).filter (fun q => !(q.1 == i) && !(q.1 + 1 == i && q.2.category == 2)) = (lset1 ls i v).map (cw w) := by
  unfold lset1
  rw [List.map_cons, List.filter_map]
  refine congrArg (fun z => (i, cv w v) :: List.map (cw w) z) ?_
  refine List.filter_congr (fun q _ => ?_)
  show (!(q.1 == i) && !(q.1 + 1 == i && (cv w q.2).category == 2)) = _
  rw [cv_cat]
theorem lset2_map (w : wd) (ls : List (Nat × Value)) (i : Nat) (v : Value) : (i, cv w v) :: (ls.map (cw w)).filter (fun q => !(q.1 == i) && (!(q.1 == i + 1) && !(q.1 + 1 == i && q.2.category == 2))) = (lset2 ls i v).map (cw w) := by
  unfold lset2
  rw [List.map_cons, List.filter_map]
  refine congrArg (fun z => (i, cv w v) :: List.map (cw w) z) ?_
  refine List.filter_congr (fun q _ => ?_)
  show (!(q.1 == i) && (!(q.1 == i + 1) && !(q.1 + 1 == i && (cv w q.2).category == 2))) = _
  rw [cv_cat]
theorem args_map (w : wd) : ∀ (as : List Value) (i : Nat), lv_args i (as.map (cv w)) = (lv_args i as).map (cw w)
  | [], _ => rfl
  | v :: r, i => by
    show (i, cv w v) :: lv_args (if (cv w v).category = 2 then i + 2 else i + 1) (r.map (cv w)) = (i, cv w v) :: (lv_args (if v.category = 2 then i + 2 else i + 1) r).map (cw w)
    rw [cv_cat, args_map w r]
/-! the heap -/
theorem HR.at {w : wd} {h : hp} {H : Heap} {k : Nat} (hr : HR w h H) (h7 : (hK h k).1 ≠ 7) (h8 : (hK h k).1 ≠ 8) (h9 : (hK h k).1 ≠ 9) : 2 ≤ k ∧ k < hN h := by
  obtain ⟨⟨h2, k0, -, k1, -, -, -, kn, -⟩, -, -⟩ := hr
  refine ⟨?_, ?_⟩
  · rcases k with _ | _ | k
    · exact absurd (by rw [k0]) h7
    · exact absurd (by rw [k1]) h8
    · omega
  · rcases Nat.lt_or_ge k (hN h) with q | q
    · exact q
    · exact absurd (kn k q) h9
theorem HR.arr {w : wd} {h : hp} {H : Heap} {k : Nat} (hr : HR w h H) (h0 : (hK h k).1 ≠ 0) (h7 : (hK h k).1 ≠ 7) (h8 : (hK h k).1 ≠ 8) (h9 : (hK h k).1 ≠ 9) : H[adr w k]? = some (arrV (wA w (hK h k).1) (hK h k).2 (fun j => elt w (hK h k).1 (hI h k j) (hJ h k j) (hR h k j))) := by
  obtain ⟨a, b⟩ := hr.at h7 h8 h9
  have hc := hr.2.2 k a b
  unfold HC at hc
  rw [if_neg h0] at hc
  exact hc
theorem HR.obj {w : wd} {h : hp} {H : Heap} {k ci : Nat} (hr : HR w h H) (hk : hK h k = (0, ci)) : t_OB (adr w k) ((wD w).1 ci) (clN ci) ((wD w).2 ci) H (fun j => cv w (pval (fT ci j) (hI h k j) (hJ h k j) (hR h k j))) := by
  obtain ⟨a, b⟩ := hr.at (k := k) (by rw [hk]; exact (by decide : (0 : Nat) ≠ 7)) (by rw [hk]; exact (by decide : (0 : Nat) ≠ 8)) (by rw [hk]; exact (by decide : (0 : Nat) ≠ 9))
  have hc := hr.2.2 k a b
  unfold HC at hc
  rw [hk] at hc
  exact hc
theorem HC.to {w : wd} {h h' : hp} {H H1 : Heap} {k : Nat} (hc : HC w h H k) (eK : hK h' k = hK h k) (eI : hI h' k = hI h k) (eJ : hJ h' k = hJ h k) (eR : hR h' k = hR h k) (hq : H1[adr w k]? = H[adr w k]?) : HC w h' H1 k := by
  unfold HC at hc ⊢
  rw [eK, eI, eJ, eR]
  split at hc
  · next e =>
    rw [if_pos e]
    exact hc.kept hq
  · next e =>
    rw [if_neg e, hq]
    exact hc
theorem HR.put {w : wd} {h h' : hp} {H H1 : Heap} {a : Nat} (hr : HR w h H) (ha : 2 ≤ a) (eK : hK h' = hK h) (eN : hN h' = hN h) (ho : ∀ k, k ≠ a → hI h' k = hI h k ∧ hJ h' k = hJ h k ∧ hR h' k = hR h k) (z : H1.size = H.size) (oq : ∀ q, q ≠ adr w a → H1[q]? = H[q]?) (hc : HC w h' H1 a) : HR w h' H1 := by
  obtain ⟨⟨s1, s2, s3, s4, s5, s6, s7, s8, s9⟩, hz, hcs⟩ := hr
  refine ⟨⟨by rw [eN]; exact s1, by rw [eK]; exact s2, by rw [(ho 0 (by omega)).1]; exact s3, by rw [eK]; exact s4, by rw [(ho 1 (by omega)).2.1]; exact s5, by rw [eK]; exact s6, by rw [eK]; exact s7, by rw [eK, eN]; exact s8, by rw [eK]; exact s9⟩, by rw [z, eN]; exact hz, fun k h2 hn => ?_⟩
  by_cases e : k = a
  · rw [e]
    exact hc
  · obtain ⟨e1, e2, e3⟩ := ho k e
    exact (hcs k h2 (by rw [← eN]; exact hn)).to (by rw [eK]) e1 e2 e3 (oq _ (adr_ne h2 ha e))
theorem HR.push {w : wd} {h : hp} {H H1 : Heap} {t n : Nat} (hr : HR w h H) (ht : t ≤ 6) (hci : t = 0 → n < 10) (z : H1.size = H.size + 1) (oq : ∀ q, q < H.size → H1[q]? = H[q]?) (hc : HC w (hnew h t n) H1 (hN h)) : HR w (hnew h t n) H1 := by
  obtain ⟨⟨s1, s2, s3, s4, s5, s6, s7, s8, s9⟩, hz, hcs⟩ := hr
  have kn : ∀ k, k ≠ hN h → hK (hnew h t n) k = hK h k := fun k e => u1_n e
  have k0 : hK (hnew h t n) (hN h) = (t, n) := u1_s
  have i0 : ∀ k, k ≠ hN h → hI (hnew h t n) k = hI h k := fun k e => u1_n e
  have j0 : ∀ k, k ≠ hN h → hJ (hnew h t n) k = hJ h k := fun k e => u1_n e
  have r0 : ∀ k, k ≠ hN h → hR (hnew h t n) k = hR h k := fun k e => u1_n e
  have eN : hN (hnew h t n) = hN h + 1 := rfl
  refine ⟨⟨by rw [eN]; omega, by rw [kn 0 (by omega)]; exact s2, by rw [i0 0 (by omega)]; exact s3, by rw [kn 1 (by omega)]; exact s4, by rw [j0 1 (by omega)]; exact s5, fun k e => ?_, fun k e => ?_, fun k e => ?_, fun k e => ?_⟩, by rw [z, eN]; omega, fun k h2 hn => ?_⟩
  · by_cases q : k = hN h
    · rw [q, k0] at e
      have e : t = 7 := e
      omega
    · rw [kn k q] at e
      exact s6 k e
  · by_cases q : k = hN h
    · rw [q, k0] at e
      have e : t = 8 := e
      omega
    · rw [kn k q] at e
      exact s7 k e
  · rw [eN] at e
    rw [kn k (by omega)]
    exact s8 k (by omega)
  · by_cases q : k = hN h
    · rw [q, k0] at e ⊢
      exact hci e
    · rw [kn k q] at e ⊢
      exact s9 k e
  · by_cases q : k = hN h
    · rw [q]
      exact hc
    · rw [eN] at hn
      exact (hcs k h2 (by omega)).to (kn k q) (i0 k q) (j0 k q) (r0 k q) (oq _ (by rw [adr_ge h2, hz]; omega))
theorem SK.moved {w : wd} {u U : State} (hW : u.WarmedH U.vm) (hk : ∀ q : Nat, q < u.heap.size → ¬ wAf w q → U.heap[q]? = u.heap[q]?) (hz : u.heap.size ≤ U.heap.size) (h : SK w u) : SK w U := by
  obtain ⟨h1, h2, h3, h4, h5, h6, h7, h8, h9, h10⟩ := h
  have hvm := hW.alike
  have hb : (wS w) < u.heap.size := by
    obtain ⟨scr, hs, -⟩ := h2
    exact (Array.getElem?_eq_some_iff.mp hs).1
  exact ⟨va_K.moved hvm h1, (h2.kept (hk _ hb (by show ¬ wB w ≤ wS w; omega))).moved hvm, (h3.kept hk).moved hvm, (h4.kept hk).moved hvm, h5, Nat.le_trans h6 hz, va_Nw.warmF hW h7, fun e he h5 => va_Nw.warmM hW (h8 e he h5), Jvm.Stand.arrayOver_alikeB hvm h9, Jvm.Stand.arrayOver_alikeB hvm h10⟩
