/-! ===== the reference's first line ===== -/
theorem lst_cg {f g : Nat → Bool} : ∀ m, (∀ i, i < m → f i = g i) → lst f m = lst g m
  | 0, _ => rfl
  | m + 1, h => by
    show (if lst f m < m then lst f m else if f m then m else m + 1) = (if lst g m < m then lst g m else if g m then m else m + 1)
    rw [lst_cg m (fun i hi => h i (by omega)), h m (by omega)]
theorem lst_s (f : Nat → Bool) (m : Nat) : lst f (m + 1) = if lst f m < m then lst f m else if f m then m else m + 1 := rfl
def hft (n : Nat) (q : hst) : Option (Nat × Nat) := if lst (hbad n q) q.1 < q.1 then some (2, q.2.2 (lst (hbad n q) q.1)) else none
def HDM (h : hp) (q : hst) (a : Nat) : Prop := (∀ i, i < q.1 → hI h 1075 i = nI (q.2.1 i) ∧ hI h 1076 i = nI (q.2.2 i) ∧ q.2.1 i < 1000000000 ∧ q.2.2 i < a) ∧ ∀ i j, i < j → j < q.1 → q.2.2 i < q.2.2 j
def qad (q : hst) (v p : Nat) : hst := (q.1 + 1, u1 q.2.1 q.1 v, u1 q.2.2 q.1 p)
def FrH (h h' : hp) : Prop := h'.2 = h.2 ∧ (∀ k, k ≠ 47 → k ≠ 1075 → k ≠ 1076 → hI h' k = hI h k) ∧ ∀ j, (j < 26 ∨ 29 < j) → hI h' 47 j = hI h 47 j
theorem FrH.rf (h : hp) : FrH h h := ⟨rfl, fun _ _ _ _ => rfl, fun _ _ => rfl⟩
theorem FrH.tr {h h' h'' : hp} (a : FrH h h') (b : FrH h' h'') : FrH h h'' := ⟨b.1.trans a.1, fun k x y z => (b.2.1 k x y z).trans (a.2.1 k x y z), fun j x => (b.2.2 j x).trans (a.2.2 j x)⟩
theorem FrH.S {h h' : hp} (F : FrH h h') (S : Sh h) : Sh h' := S.to (by rw [F.1])
theorem FrH.T {h h' : hp} (F : FrH h h') {B : Nat → Int32} {z : Nat} (T : TM h B z) : TM h' B z := ⟨(F.2.1 1074 (by decide) (by decide) (by decide)).trans T.1, (F.2.2 25 (by decide)).trans T.2.1, T.2.2⟩
theorem FrT2.H {h h' : hp} (F : FrT2 h h') : FrH h h' := ⟨F.1, fun k x _ _ => F.2.1 k x, F.2.2⟩
theorem FrH.w {h : hp} {a : Nat} (ha : a = 1075 ∨ a = 1076) (i : Nat) (v : Int32) : FrH h (sI h a i v) := ⟨rfl, fun k _ y z => by
  show u2 h.1 a _ _ k = _
  rw [u2_n (by omega)], fun j _ => by
  show u2 h.1 a _ _ 47 j = _
  rw [u2_n (by omega)]⟩
theorem FTM.to {h h' : hp} {t : Option (Nat × Nat)} (e28 : hI h' 47 28 = hI h 47 28) (e26 : hI h' 47 26 = hI h 47 26) (ft : FTM h t) : FTM h' t := by
  cases t with
  | none => exact ⟨e28.trans ft.1, e26.trans ft.2⟩
  | some e => exact ⟨e28.trans ft.1, e26.trans ft.2.1, ft.2.2⟩
theorem hbad_k {n : Nat} {q : hst} {v p i : Nat} (hi : i < q.1) (h5 : q.1 < 5) (h4 : q.1 < 4 ∨ 0 < i) : hbad n (qad q v p) i = hbad n q i := by
  unfold hbad qad
  have ne : ∀ j, j < q.1 → u1 q.2.1 q.1 v j = q.2.1 j := fun j hj => u1_n (by omega)
  rcases (show i = 0 ∨ i = 1 ∨ i = 2 ∨ i = 3 by omega) with e | e | e | e <;> subst e
  · show decide (1000 < u1 q.2.1 q.1 v 0 ∨ (q.1 + 1 = 5 ∧ _)) = decide (1000 < q.2.1 0 ∨ (q.1 = 5 ∧ _))
    have n0 := ne 0 hi
    exact decide_eq_decide.mpr ⟨fun y => Or.inl (y.elim (fun w => by rw [← n0]; exact w) (fun w => by omega)), fun y => Or.inl (y.elim (fun w => by rw [n0]; exact w) (fun w => by omega))⟩
  · show decide (u1 q.2.1 q.1 v 1 ≠ n) = _
    rw [ne 1 hi]; rfl
  · show decide (u1 q.2.1 q.1 v 2 ≠ 0) = _
    rw [ne 2 hi]; rfl
  · show decide (10 < u1 q.2.1 q.1 v 3) = _
    rw [ne 3 hi]; rfl
/-- behind a number of the first four -/
theorem hft_s {n : Nat} {q : hst} {v a : Nat} (hq : q.1 < 4) (hp : ∀ i, i < q.1 → q.2.2 i < a) : hft n (qad q v a) = if hbad n (qad q v a) q.1 then ff (hft n q) 2 a else hft n q := by
  have ec : lst (hbad n (qad q v a)) q.1 = lst (hbad n q) q.1 := lst_cg q.1 (fun i hi => hbad_k hi (by omega) (Or.inl hq))
  unfold hft
  show (if lst (hbad n (qad q v a)) (q.1 + 1) < q.1 + 1 then some (2, u1 q.2.2 q.1 a (lst (hbad n (qad q v a)) (q.1 + 1))) else none) = _
  rw [lst_s, ec]
  by_cases y : lst (hbad n q) q.1 < q.1
  · rw [if_pos y, if_pos (by omega), if_pos y, u1_n (by omega)]
    have hp' := hp _ y
    have e : ff (some (2, q.2.2 (lst (hbad n q) q.1))) 2 a = some (2, q.2.2 (lst (hbad n q) q.1)) := if_neg (by show ¬ a < q.2.2 _; omega)
    rw [e, ite_self]
  · rw [if_neg y, if_neg y]
    by_cases b : hbad n (qad q v a) q.1 = true
    · rw [if_pos b, if_pos b, if_pos (by omega), u1_s]; rfl
    · rw [if_neg b, if_neg b, if_neg (by omega)]
theorem ff_lo {e : Nat × Nat} {p : Nat} (h1 : e.1 = 2) (h2 : p ≤ e.2) : ff (some e) 2 p = some (2, p) := by
  show (if p < e.2 then some (2, p) else some e) = _
  split
  · rfl
  · rename_i w
    exact congrArg some (Prod.ext h1 (by show e.2 = p; omega))
theorem ff_hi {e : Nat × Nat} {f p : Nat} (h : e.2 ≤ p) : ff (some e) f p = some e := if_neg (by show ¬ p < e.2; omega)
/-- behind the last one -/
theorem hft_5 {n : Nat} {q : hst} {v a : Nat} (hq : q.1 = 4) (hp : ∀ i, i < q.1 → q.2.2 i < a) (hi : ∀ i j, i < j → j < q.1 → q.2.2 i < q.2.2 j) : hft n (qad q v a) = if q.2.1 0 < q.2.1 1 + v then ff (if 119 < v then ff (hft n q) 2 a else hft n q) 2 (q.2.2 0) else if 119 < v then ff (hft n q) 2 a else hft n q := by
  have e0 : u1 q.2.1 q.1 v 0 = q.2.1 0 := u1_n (by omega)
  have e1 : u1 q.2.1 q.1 v 1 = q.2.1 1 := u1_n (by omega)
  have e4 : u1 q.2.1 q.1 v 4 = v := by rw [hq, u1_s]
  have b0 : hbad n (qad q v a) 0 = decide (1000 < q.2.1 0 ∨ q.2.1 0 < q.2.1 1 + v) := by
    unfold hbad qad
    show decide (1000 < u1 q.2.1 q.1 v 0 ∨ (q.1 + 1 = 5 ∧ u1 q.2.1 q.1 v 0 < u1 q.2.1 q.1 v 1 + u1 q.2.1 q.1 v 4)) = _
    rw [e0, e1, e4]
    exact decide_eq_decide.mpr ⟨fun y => y.elim Or.inl (fun w => Or.inr w.2), fun y => y.elim Or.inl (fun w => Or.inr ⟨by omega, w⟩)⟩
  have b4 : hbad n (qad q v a) q.1 = decide (119 < v) := by
    rw [hq]
    unfold hbad qad
    show decide (119 < u1 q.2.1 q.1 v 4) = _
    rw [e4]
  have q0 : hbad n q 0 = decide (1000 < q.2.1 0) := by
    unfold hbad
    show decide (1000 < q.2.1 0 ∨ (q.1 = 5 ∧ _)) = _
    exact decide_eq_decide.mpr ⟨fun y => y.elim id (fun w => by omega), Or.inl⟩
  have h0a := hp 0 (by omega)
  -- what is noted already stands at the first number or behind it
  have ge : ∀ i, i < q.1 → q.2.2 0 ≤ q.2.2 i := fun i h => by
    rcases Nat.eq_zero_or_pos i with y | y
    · rw [y]; exact Nat.le_refl _
    · exact Nat.le_of_lt (hi 0 i y h)
  by_cases m : q.2.1 0 < q.2.1 1 + v
  · rw [if_pos m]
    have l0 : lst (hbad n (qad q v a)) (q.1 + 1) = 0 := lst_is (by omega) (fun k hk => absurd hk (Nat.not_lt_zero k)) (by rw [b0]; exact decide_eq_true (Or.inr m))
    have hL : hft n (qad q v a) = some (2, q.2.2 0) := by
      unfold hft
      show (if lst (hbad n (qad q v a)) (q.1 + 1) < q.1 + 1 then some (2, u1 q.2.2 q.1 a (lst (hbad n (qad q v a)) (q.1 + 1))) else none) = _
      rw [l0, if_pos (by omega), u1_n (by omega)]
    rw [hL]
    unfold hft
    by_cases y : lst (hbad n q) q.1 < q.1
    · rw [if_pos y]
      have y1 := ge _ y
      have y2 := hp _ y
      rw [ff_hi (e := (2, q.2.2 (lst (hbad n q) q.1))) (Nat.le_of_lt y2), ite_self, ff_lo rfl y1]
    · rw [if_neg y]
      split
      · exact (ff_lo (e := (2, a)) rfl (Nat.le_of_lt h0a)).symm
      · rfl
  · rw [if_neg m]
    have ec : lst (hbad n (qad q v a)) q.1 = lst (hbad n q) q.1 := lst_cg q.1 (fun i hi => by
      rcases Nat.eq_zero_or_pos i with w | w
      · rw [w, b0, q0]
        exact decide_eq_decide.mpr ⟨fun y => y.elim id (fun u => absurd u m), Or.inl⟩
      · exact hbad_k hi (by omega) (Or.inr w))
    unfold hft
    show (if lst (hbad n (qad q v a)) (q.1 + 1) < q.1 + 1 then some (2, u1 q.2.2 q.1 a (lst (hbad n (qad q v a)) (q.1 + 1))) else none) = _
    rw [lst_s, ec]
    by_cases y : lst (hbad n q) q.1 < q.1
    · rw [if_pos y, if_pos (by omega), if_pos y, u1_n (by omega), ff_hi (e := (2, q.2.2 (lst (hbad n q) q.1))) (Nat.le_of_lt (hp _ y)), ite_self]
    · rw [if_neg y, if_neg y, b4]
      by_cases b : 119 < v
      · rw [decide_eq_true b, if_pos rfl, if_pos b, if_pos (by omega), u1_s]; rfl
      · rw [decide_eq_false b]
        show (if q.1 + 1 < q.1 + 1 then _ else none) = _
        rw [if_neg (Nat.lt_irrefl _), if_neg b]
theorem hft_lt {n : Nat} {q : hst} {a : Nat} (hp : ∀ i, i < q.1 → q.2.2 i < a) (ha : a ≤ 3000) : (hft n q = none ∧ ¬ lst (hbad n q) q.1 < q.1) ∨ (∃ p, hft n q = some (2, p) ∧ p < a ∧ lst (hbad n q) q.1 < q.1 ∧ p = q.2.2 (lst (hbad n q) q.1)) := by
  unfold hft
  by_cases y : lst (hbad n q) q.1 < q.1
  · rw [if_pos y]; exact Or.inr ⟨_, rfl, hp _ y, y, rfl⟩
  · rw [if_neg y]; exact Or.inl ⟨rfl, y⟩
def FhT (B : Nat → Int32) (z n : Nat) (x : hst × Except (Nat × Nat) Nat) : Except (Nat × Nat) (Nat × (Nat → Nat)) := if lst (hbad n x.1) x.1.1 < x.1.1 then .error (2, x.1.2.2 (lst (hbad n x.1) x.1.1)) else match x.2 with
  | .error e => .error e
  | .ok a => if cb B z a = 10 then .ok (a + 1, x.1.2.1) else .error (1, a)
def HE (h : hp) (z : Nat) : Except (Nat × Nat) (Nat × (Nat → Nat)) → Prop
  | .error e => FTM h (some e)
  | .ok q => FTM h none ∧ (hI h 47 27 = nI q.1 ∧ q.1 ≤ z) ∧ ∀ i, i < 5 → hI h 1075 i = nI (q.2 i)
theorem HDM_ad {h : hp} {q : hst} {a v : Nat} (D : HDM h q a) (hv : v < 1000000000) {h' : hp} (e : hI h' 1075 = u1 (hI h 1075) q.1 (nI v)) (e2 : hI h' 1076 = u1 (hI h 1076) q.1 (nI a)) {b : Nat} (hb : a < b) : HDM h' (qad q v a) b := by
  refine ⟨fun i hi => ?_, fun i j hij hj => ?_⟩
  · have hi : i < q.1 + 1 := hi
    show hI h' 1075 i = nI (u1 q.2.1 q.1 v i) ∧ hI h' 1076 i = nI (u1 q.2.2 q.1 a i) ∧ u1 q.2.1 q.1 v i < 1000000000 ∧ u1 q.2.2 q.1 a i < b
    rw [e, e2]
    by_cases y : i = q.1
    · rw [y, u1_s, u1_s, u1_s, u1_s]; exact ⟨rfl, rfl, hv, hb⟩
    · rw [u1_n y, u1_n y, u1_n y, u1_n y]
      obtain ⟨x1, x2, x3, x4⟩ := D.1 i (by omega)
      exact ⟨x1, x2, x3, by omega⟩
  · have hj : j < q.1 + 1 := hj
    show u1 q.2.2 q.1 a i < u1 q.2.2 q.1 a j
    rw [u1_n (by omega : i ≠ q.1)]
    by_cases y : j = q.1
    · rw [y, u1_s]; exact (D.1 i (by omega)).2.2.2
    · rw [u1_n y]; exact D.2 i j hij (by omega)
theorem numP_gt {B : Nat → Int32} {z a : Nat} (g : dg B z a = true) (ha : a ≤ z) : a < (numP B z a).2 := by
  obtain ⟨hlt, _, _⟩ := dg_lt g
  unfold numP
  split
  · have e : numL B z 1 a 0 = numL B z 0 (a + 1) (10 * 0 + (cb B z a - 48)) := if_pos g
    rw [e]
    exact Nat.lt_succ_self a
  · have e : numL B z 9 a 0 = numL B z 8 (a + 1) (10 * 0 + (cb B z a - 48)) := if_pos g
    rw [e]
    have := (numL_le B z 8 (a + 1) (10 * 0 + (cb B z a - 48)) (by omega)).1
    omega
set_option maxHeartbeats 2000000 in
set_option maxRecDepth 10000 in
theorem flA_0 {d : Nat} {B : Nat → Int32} {z n : Nat} (hn : n ≤ 12) {h : hp} (S : Sh h) (T : TM h B z) (e1 : hI h 47 1 = nI n) {q : hst} (hq : q.1 = 0) {a : Nat} (ea : hI h 47 27 = nI a) (ha : a ≤ z) (D : HDM h q a) (ft : FTM h (hft n q)) (g : dg B z a = true) : ∃ h', FTM h' (hft n (qad q (numP B z a).1 a)) ∧ hI h' 47 27 = nI (numP B z a).2 ∧ HDM h' (qad q (numP B z a).1 a) (numP B z a).2 ∧ FrH h h' ∧ ∀ (Q : resP) (bc bs : Nat), (∀ ls : List (Nat × Value), ls.lookup 2 = some (.int 0) → ls.lookup 1 = some (.int 1) → ls.lookup 0 = some (.ref 47) → Wp (Ex (d + 2)) 119 Q 217 ls [] h' bc bs) → ∀ ls : List (Nat × Value), ls.lookup 2 = some (.int 0) → ls.lookup 1 = some (.int 1) → ls.lookup 0 = some (.ref 47) → Wp (Ex (d + 2)) 119 Q 44 ls [] h bc bs := by
  have hz := T.2.2.1
  obtain ⟨n1, n2, n3⟩ := numP_le B z ha
  obtain ⟨hlt, g1, g2⟩ := dg_lt g
  have F1 : FrH h (sI h 1076 0 (nI a)) := FrH.w (by decide) _ _
  obtain ⟨h2, Rn, st, F2⟩ := sp_mnum (d := d) (h := sI h 1076 0 (nI a)) (F1.S S) (F1.T T) (t := hft n q) (FTM.to rfl rfl ft) (a := a) ea ha
  rw [if_pos g] at Rn st
  obtain ⟨eb, ev, ft2⟩ := st
  have hgt : a < (numP B z a).2 := numP_gt g ha
  obtain ⟨v, ew⟩ : ∃ v, v = (numP B z a).1 := ⟨_, rfl⟩
  obtain ⟨b, eq⟩ : ∃ b, b = (numP B z a).2 := ⟨_, rfl⟩
  rw [← ew] at n3 ev ⊢
  rw [← eq] at n1 n2 eb hgt ⊢
  have S2 : Sh h2 := F2.S (F1.S S)
  have F12 := F1.tr F2.H
  have e12 : hI h2 47 1 = nI n := (F12.2.2 1 (by decide)).trans e1
  have eh2 : hI h2 1076 0 = nI a := by
    rw [F2.2.1 1076 (by decide)]
    show u1 (hI h 1076) 0 (nI a) 0 = _
    rw [u1_s]
  have F3 : FrH h (sI h2 1075 0 (nI v)) := F12.tr (FrH.w (by decide) _ _)
  have S3 : Sh (sI h2 1075 0 (nI v)) := S2.to rfl
  have ft3 : FTM (sI h2 1075 0 (nI v)) (hft n q) := FTM.to rfl rfl ft2
  have D3 : HDM (sI h2 1075 0 (nI v)) (qad q v a) b := HDM_ad (h' := sI h2 1075 0 (nI v)) D n3 (by
    show u1 (hI h2 1075) 0 (nI v) = _
    rw [F2.2.1 1075 (by decide), hq]; rfl) (by
    show hI h2 1076 = _
    rw [F2.2.1 1076 (by decide), hq]; rfl) hgt
  have hp : ∀ i, i < q.1 → q.2.2 i < a := fun i hi => (D.1 i hi).2.2.2
  have hb : hbad n (qad q v a) q.1 = decide (1000 < v) := by
    rw [hq]
    unfold hbad qad
    show decide (1000 < u1 q.2.1 q.1 v 0 ∨ (q.1 + 1 = 5 ∧ _)) = _
    exact decide_eq_decide.mpr ⟨fun y => y.elim (fun w => by rw [hq, u1_s] at w; exact w) (fun w => absurd w.1 (by omega)), fun y => Or.inl (by rw [hq, u1_s]; exact y)⟩
  have hs := hft_s (n := n) (v := v) (a := a) (q := q) (by omega) hp
  rw [hb] at hs
  by_cases bad : 1000 < v
  · rw [decide_eq_true bad, if_pos rfl] at hs
    obtain ⟨h4, R4, ft4, F4, x1, x2⟩ := sp_fails (d := d + 1) S3 ft3 (f := 2) (p := a) (by decide) (by omega)
    have S4 := F4.S S3
    refine ⟨h4, by rw [hs]; exact ft4, x1.trans eb, ⟨fun i hi => by rw [F4.2.1 1075 (by decide), F4.2.1 1076 (by decide)]; exact D3.1 i hi, D3.2⟩, F3.tr F4.H, fun Q bc bs kk ls l2 l1 l0 => ?_⟩
    refine r_iload_n (q119 (i := 22) rfl) l2 ?_
    refine r_iconst (v := 5) (q119 (i := 23) rfl) (by decide) ?_
    refine r_icmp 252 (q119 (i := 24) rfl) (by decide) (fun zz => absurd zz (show ¬ (5 ≤ (0 : Int32)) from by decide)) (fun _ => ?_)
    refine r_iload_n (q119 (i := 25) rfl) l1 ?_
    refine r_if 252 (q119 (i := 26) rfl) (by decide) (fun zz => absurd zz (show ¬ ((1 : Int32) = 0) from by decide)) (fun _ => ?_)
    refine r_aload_n (q119 (i := 27) rfl) l0 ?_
    refine r_getR (b := 1076) (q119 (i := 28) rfl) rfl (by decide) (k_47 S) (fun _ _ _ => rfl) (r_47_31 S) ?_
    refine r_iload_n (q119 (i := 29) rfl) l2 ?_
    refine r_aload_n (q119 (i := 30) rfl) l0 ?_
    refine r_getI (x := nI a) (q119 (i := 31) rfl) rfl (by decide) (k_47 S) (fun _ _ _ => rfl) ea ?_
    refine r_iastore (q119 (i := 32) rfl) (k_1076 S) (vp_in_nI (n := 0) (by decide) (by decide)) ?_
    show Wp _ _ _ _ _ _ (sI h 1076 0 (nI a)) _ _
    refine r_aload_n (q119 (i := 33) rfl) l0 ?_
    refine r_cV (d := _) (q119 (i := 34) rfl) rfl rfl rfl (k_47 S) (Nat.le_of_ble_eq_true rfl) (Nat.zero_le _) (Nat.zero_le _) Rn ?_
    show Wp _ _ _ 67 ls [.int 1] h2 _ _
    refine r_istore_n (ls' := lset1 ls 1 (.int 1)) (q119 (i := 35) rfl) (Nat.le_of_ble_eq_true rfl) rfl ?_
    have l2 := lk1 (k := 1) (v := .int 1) l2 (by decide) (Or.inr (by decide))
    have l0 := lk1 (k := 1) (v := .int 1) l0 (by decide) (Or.inl rfl)
    have l1 := lk0 ls 1 (.int 1)
    generalize lset1 ls 1 (.int 1) = ls at l1 l2 l0 ⊢
    refine r_aload_n (q119 (i := 36) rfl) l0 ?_
    refine r_getR (b := 1075) (q119 (i := 37) rfl) rfl (by decide) (k_47 S2) (fun _ _ _ => rfl) (r_47_30 S2) ?_
    refine r_iload_n (q119 (i := 38) rfl) l2 ?_
    refine r_aload_n (q119 (i := 39) rfl) l0 ?_
    refine r_getI (x := nI v) (q119 (i := 40) rfl) rfl (by decide) (k_47 S2) (fun _ _ _ => rfl) ev ?_
    refine r_iastore (q119 (i := 41) rfl) (k_1075 S2) (vp_in_nI (n := 0) (by decide) (by decide)) ?_
    show Wp _ _ _ _ _ _ (sI h2 1075 0 (nI v)) _ _
    refine r_iload_n (q119 (i := 42) rfl) l1 ?_
    refine r_if 156 (q119 (i := 43) rfl) (by decide) (fun zz => absurd zz (show ¬ ((1 : Int32) = 0) from by decide)) (fun _ => ?_)
    refine r_iload_n (q119 (i := 44) rfl) l2 ?_
    refine r_if 96 (q119 (i := 45) rfl) (by decide) (fun zz => absurd zz (show ¬ (¬ (0 : Int32) = 0) from by decide)) (fun _ => ?_)
    refine r_aload_n (q119 (i := 46) rfl) l0 ?_
    refine r_getI (x := nI v) (q119 (i := 47) rfl) rfl (by decide) (k_47 S2) (fun _ _ _ => rfl) ev ?_
    refine r_sipush (v := 1000) (q119 (i := 48) rfl) (by decide) ?_
    refine r_icmp 152 (q119 (i := 49) rfl) (by decide) (fun _ => ?_) (fun zz => absurd (show 1000 < nI v from nI_lt (a := 1000) bad (by omega)) zz)
    refine r_iconst (v := 1) (q119 (i := 78) rfl) (by decide) ?_
    refine r_goto 157 (q119 (i := 79) rfl) (by decide) ?_
    refine r_istore_n (ls' := lset1 ls 3 (.int 1)) (q119 (i := 81) rfl) (Nat.le_of_ble_eq_true rfl) rfl ?_
    have l1 := lk1 (k := 3) (v := .int 1) l1 (by decide) (Or.inr (by decide))
    have l2 := lk1 (k := 3) (v := .int 1) l2 (by decide) (Or.inl rfl)
    have l0 := lk1 (k := 3) (v := .int 1) l0 (by decide) (Or.inr (by decide))
    have l3 := lk0 ls 3 (.int 1)
    generalize lset1 ls 3 (.int 1) = ls at l3 l1 l2 l0 ⊢
    refine r_iload_n (q119 (i := 82) rfl) l3 ?_
    refine r_if 174 (q119 (i := 83) rfl) (by decide) (fun zz => absurd zz (show ¬ ((1 : Int32) = 0) from by decide)) (fun _ => ?_)
    refine r_aload_n (q119 (i := 84) rfl) l0 ?_
    refine r_iconst (v := 2) (q119 (i := 85) rfl) (by decide) ?_
    refine r_aload_n (q119 (i := 86) rfl) l0 ?_
    refine r_getR (b := 1076) (q119 (i := 87) rfl) rfl (by decide) (k_47 S2) (fun _ _ _ => rfl) (r_47_31 S2) ?_
    refine r_iload_n (q119 (i := 88) rfl) l2 ?_
    refine r_iaload (x := nI a) (q119 (i := 89) rfl) (k_1076 S2) (vp_in_nI (n := 0) (by decide) (by decide)) eh2 ?_
    refine r_cV (d := _) (q119 (i := 90) rfl) rfl rfl rfl (k_47 S2) (Nat.le_of_ble_eq_true rfl) (Nat.zero_le _) (Nat.zero_le _) R4 ?_
    show Wp _ _ _ 173 ls [.int 0] h4 _ _
    refine r_pop (q119 (i := 91) rfl) rfl ?_
    refine r_iload_n (q119 (i := 92) rfl) l1 ?_
    refine r_if 217 (q119 (i := 93) rfl) (by decide) (fun zz => absurd zz (show ¬ ((1 : Int32) = 0) from by decide)) (fun _ => ?_)
    refine r_iload_n (q119 (i := 94) rfl) l2 ?_
    refine r_iconst (v := 4) (q119 (i := 95) rfl) (by decide) ?_
    refine r_icmp 217 (q119 (i := 96) rfl) (by decide) (fun _ => ?_) (fun zz => absurd (show ¬ (0 : Int32) = 4 from by decide) zz)
    exact kk ls l2 l1 l0
  · rw [decide_eq_false bad, if_neg (by decide)] at hs
    refine ⟨sI h2 1075 0 (nI v), by rw [hs]; exact ft3, eb, D3, F3, fun Q bc bs kk ls l2 l1 l0 => ?_⟩
    refine r_iload_n (q119 (i := 22) rfl) l2 ?_
    refine r_iconst (v := 5) (q119 (i := 23) rfl) (by decide) ?_
    refine r_icmp 252 (q119 (i := 24) rfl) (by decide) (fun zz => absurd zz (show ¬ (5 ≤ (0 : Int32)) from by decide)) (fun _ => ?_)
    refine r_iload_n (q119 (i := 25) rfl) l1 ?_
    refine r_if 252 (q119 (i := 26) rfl) (by decide) (fun zz => absurd zz (show ¬ ((1 : Int32) = 0) from by decide)) (fun _ => ?_)
    refine r_aload_n (q119 (i := 27) rfl) l0 ?_
    refine r_getR (b := 1076) (q119 (i := 28) rfl) rfl (by decide) (k_47 S) (fun _ _ _ => rfl) (r_47_31 S) ?_
    refine r_iload_n (q119 (i := 29) rfl) l2 ?_
    refine r_aload_n (q119 (i := 30) rfl) l0 ?_
    refine r_getI (x := nI a) (q119 (i := 31) rfl) rfl (by decide) (k_47 S) (fun _ _ _ => rfl) ea ?_
    refine r_iastore (q119 (i := 32) rfl) (k_1076 S) (vp_in_nI (n := 0) (by decide) (by decide)) ?_
    show Wp _ _ _ _ _ _ (sI h 1076 0 (nI a)) _ _
    refine r_aload_n (q119 (i := 33) rfl) l0 ?_
    refine r_cV (d := _) (q119 (i := 34) rfl) rfl rfl rfl (k_47 S) (Nat.le_of_ble_eq_true rfl) (Nat.zero_le _) (Nat.zero_le _) Rn ?_
    show Wp _ _ _ 67 ls [.int 1] h2 _ _
    refine r_istore_n (ls' := lset1 ls 1 (.int 1)) (q119 (i := 35) rfl) (Nat.le_of_ble_eq_true rfl) rfl ?_
    have l2 := lk1 (k := 1) (v := .int 1) l2 (by decide) (Or.inr (by decide))
    have l0 := lk1 (k := 1) (v := .int 1) l0 (by decide) (Or.inl rfl)
    have l1 := lk0 ls 1 (.int 1)
    generalize lset1 ls 1 (.int 1) = ls at l1 l2 l0 ⊢
    refine r_aload_n (q119 (i := 36) rfl) l0 ?_
    refine r_getR (b := 1075) (q119 (i := 37) rfl) rfl (by decide) (k_47 S2) (fun _ _ _ => rfl) (r_47_30 S2) ?_
    refine r_iload_n (q119 (i := 38) rfl) l2 ?_
    refine r_aload_n (q119 (i := 39) rfl) l0 ?_
    refine r_getI (x := nI v) (q119 (i := 40) rfl) rfl (by decide) (k_47 S2) (fun _ _ _ => rfl) ev ?_
    refine r_iastore (q119 (i := 41) rfl) (k_1075 S2) (vp_in_nI (n := 0) (by decide) (by decide)) ?_
    show Wp _ _ _ _ _ _ (sI h2 1075 0 (nI v)) _ _
    refine r_iload_n (q119 (i := 42) rfl) l1 ?_
    refine r_if 156 (q119 (i := 43) rfl) (by decide) (fun zz => absurd zz (show ¬ ((1 : Int32) = 0) from by decide)) (fun _ => ?_)
    refine r_iload_n (q119 (i := 44) rfl) l2 ?_
    refine r_if 96 (q119 (i := 45) rfl) (by decide) (fun zz => absurd zz (show ¬ (¬ (0 : Int32) = 0) from by decide)) (fun _ => ?_)
    refine r_aload_n (q119 (i := 46) rfl) l0 ?_
    refine r_getI (x := nI v) (q119 (i := 47) rfl) rfl (by decide) (k_47 S2) (fun _ _ _ => rfl) ev ?_
    refine r_sipush (v := 1000) (q119 (i := 48) rfl) (by decide) ?_
    refine r_icmp 152 (q119 (i := 49) rfl) (by decide) (fun zz => absurd zz (show ¬ (1000 < nI v) from nI_nlt (a := 1000) (by omega) (by decide))) (fun _ => ?_)
    refine r_iload_n (q119 (i := 50) rfl) l2 ?_
    refine r_iconst (v := 1) (q119 (i := 51) rfl) (by decide) ?_
    refine r_icmp 112 (q119 (i := 52) rfl) (by decide) (fun _ => ?_) (fun zz => absurd (show ¬ (0 : Int32) = 1 from by decide) zz)
    refine r_iload_n (q119 (i := 58) rfl) l2 ?_
    refine r_iconst (v := 2) (q119 (i := 59) rfl) (by decide) ?_
    refine r_icmp 124 (q119 (i := 60) rfl) (by decide) (fun _ => ?_) (fun zz => absurd (show ¬ (0 : Int32) = 2 from by decide) zz)
    refine r_iload_n (q119 (i := 64) rfl) l2 ?_
    refine r_iconst (v := 3) (q119 (i := 65) rfl) (by decide) ?_
    refine r_icmp 138 (q119 (i := 66) rfl) (by decide) (fun _ => ?_) (fun zz => absurd (show ¬ (0 : Int32) = 3 from by decide) zz)
    refine r_iload_n (q119 (i := 71) rfl) l2 ?_
    refine r_iconst (v := 4) (q119 (i := 72) rfl) (by decide) ?_
    refine r_icmp 156 (q119 (i := 73) rfl) (by decide) (fun _ => ?_) (fun zz => absurd (show ¬ (0 : Int32) = 4 from by decide) zz)
    refine r_iconst (v := 0) (q119 (i := 80) rfl) (by decide) ?_
    refine r_istore_n (ls' := lset1 ls 3 (.int 0)) (q119 (i := 81) rfl) (Nat.le_of_ble_eq_true rfl) rfl ?_
    have l1 := lk1 (k := 3) (v := .int 0) l1 (by decide) (Or.inr (by decide))
    have l2 := lk1 (k := 3) (v := .int 0) l2 (by decide) (Or.inl rfl)
    have l0 := lk1 (k := 3) (v := .int 0) l0 (by decide) (Or.inr (by decide))
    have l3 := lk0 ls 3 (.int 0)
    generalize lset1 ls 3 (.int 0) = ls at l3 l1 l2 l0 ⊢
    refine r_iload_n (q119 (i := 82) rfl) l3 ?_
    refine r_if 174 (q119 (i := 83) rfl) (by decide) (fun _ => ?_) (fun zz => absurd (show (0 : Int32) = 0 from by decide) zz)
    refine r_iload_n (q119 (i := 92) rfl) l1 ?_
    refine r_if 217 (q119 (i := 93) rfl) (by decide) (fun zz => absurd zz (show ¬ ((1 : Int32) = 0) from by decide)) (fun _ => ?_)
    refine r_iload_n (q119 (i := 94) rfl) l2 ?_
    refine r_iconst (v := 4) (q119 (i := 95) rfl) (by decide) ?_
    refine r_icmp 217 (q119 (i := 96) rfl) (by decide) (fun _ => ?_) (fun zz => absurd (show ¬ (0 : Int32) = 4 from by decide) zz)
    exact kk ls l2 l1 l0
set_option maxHeartbeats 2000000 in
set_option maxRecDepth 10000 in
theorem flA_1 {d : Nat} {B : Nat → Int32} {z n : Nat} (hn : n ≤ 12) {h : hp} (S : Sh h) (T : TM h B z) (e1 : hI h 47 1 = nI n) {q : hst} (hq : q.1 = 1) {a : Nat} (ea : hI h 47 27 = nI a) (ha : a ≤ z) (D : HDM h q a) (ft : FTM h (hft n q)) (g : dg B z a = true) : ∃ h', FTM h' (hft n (qad q (numP B z a).1 a)) ∧ hI h' 47 27 = nI (numP B z a).2 ∧ HDM h' (qad q (numP B z a).1 a) (numP B z a).2 ∧ FrH h h' ∧ ∀ (Q : resP) (bc bs : Nat), (∀ ls : List (Nat × Value), ls.lookup 2 = some (.int 1) → ls.lookup 1 = some (.int 1) → ls.lookup 0 = some (.ref 47) → Wp (Ex (d + 2)) 119 Q 217 ls [] h' bc bs) → ∀ ls : List (Nat × Value), ls.lookup 2 = some (.int 1) → ls.lookup 1 = some (.int 1) → ls.lookup 0 = some (.ref 47) → Wp (Ex (d + 2)) 119 Q 44 ls [] h bc bs := by
  have hz := T.2.2.1
  obtain ⟨n1, n2, n3⟩ := numP_le B z ha
  obtain ⟨hlt, g1, g2⟩ := dg_lt g
  have F1 : FrH h (sI h 1076 1 (nI a)) := FrH.w (by decide) _ _
  obtain ⟨h2, Rn, st, F2⟩ := sp_mnum (d := d) (h := sI h 1076 1 (nI a)) (F1.S S) (F1.T T) (t := hft n q) (FTM.to rfl rfl ft) (a := a) ea ha
  rw [if_pos g] at Rn st
  obtain ⟨eb, ev, ft2⟩ := st
  have hgt : a < (numP B z a).2 := numP_gt g ha
  obtain ⟨v, ew⟩ : ∃ v, v = (numP B z a).1 := ⟨_, rfl⟩
  obtain ⟨b, eq⟩ : ∃ b, b = (numP B z a).2 := ⟨_, rfl⟩
  rw [← ew] at n3 ev ⊢
  rw [← eq] at n1 n2 eb hgt ⊢
  have S2 : Sh h2 := F2.S (F1.S S)
  have F12 := F1.tr F2.H
  have e12 : hI h2 47 1 = nI n := (F12.2.2 1 (by decide)).trans e1
  have eh2 : hI h2 1076 1 = nI a := by
    rw [F2.2.1 1076 (by decide)]
    show u1 (hI h 1076) 1 (nI a) 1 = _
    rw [u1_s]
  have F3 : FrH h (sI h2 1075 1 (nI v)) := F12.tr (FrH.w (by decide) _ _)
  have S3 : Sh (sI h2 1075 1 (nI v)) := S2.to rfl
  have ft3 : FTM (sI h2 1075 1 (nI v)) (hft n q) := FTM.to rfl rfl ft2
  have D3 : HDM (sI h2 1075 1 (nI v)) (qad q v a) b := HDM_ad (h' := sI h2 1075 1 (nI v)) D n3 (by
    show u1 (hI h2 1075) 1 (nI v) = _
    rw [F2.2.1 1075 (by decide), hq]; rfl) (by
    show hI h2 1076 = _
    rw [F2.2.1 1076 (by decide), hq]; rfl) hgt
  have hp : ∀ i, i < q.1 → q.2.2 i < a := fun i hi => (D.1 i hi).2.2.2
  have hb : hbad n (qad q v a) q.1 = decide (v ≠ n) := by
    rw [hq]
    unfold hbad qad
    show decide (u1 q.2.1 q.1 v 1 ≠ n) = _
    rw [hq, u1_s]
  have hs := hft_s (n := n) (v := v) (a := a) (q := q) (by omega) hp
  rw [hb] at hs
  by_cases bad : v ≠ n
  · rw [decide_eq_true bad, if_pos rfl] at hs
    obtain ⟨h4, R4, ft4, F4, x1, x2⟩ := sp_fails (d := d + 1) S3 ft3 (f := 2) (p := a) (by decide) (by omega)
    have S4 := F4.S S3
    refine ⟨h4, by rw [hs]; exact ft4, x1.trans eb, ⟨fun i hi => by rw [F4.2.1 1075 (by decide), F4.2.1 1076 (by decide)]; exact D3.1 i hi, D3.2⟩, F3.tr F4.H, fun Q bc bs kk ls l2 l1 l0 => ?_⟩
    refine r_iload_n (q119 (i := 22) rfl) l2 ?_
    refine r_iconst (v := 5) (q119 (i := 23) rfl) (by decide) ?_
    refine r_icmp 252 (q119 (i := 24) rfl) (by decide) (fun zz => absurd zz (show ¬ (5 ≤ (1 : Int32)) from by decide)) (fun _ => ?_)
    refine r_iload_n (q119 (i := 25) rfl) l1 ?_
    refine r_if 252 (q119 (i := 26) rfl) (by decide) (fun zz => absurd zz (show ¬ ((1 : Int32) = 0) from by decide)) (fun _ => ?_)
    refine r_aload_n (q119 (i := 27) rfl) l0 ?_
    refine r_getR (b := 1076) (q119 (i := 28) rfl) rfl (by decide) (k_47 S) (fun _ _ _ => rfl) (r_47_31 S) ?_
    refine r_iload_n (q119 (i := 29) rfl) l2 ?_
    refine r_aload_n (q119 (i := 30) rfl) l0 ?_
    refine r_getI (x := nI a) (q119 (i := 31) rfl) rfl (by decide) (k_47 S) (fun _ _ _ => rfl) ea ?_
    refine r_iastore (q119 (i := 32) rfl) (k_1076 S) (vp_in_nI (n := 1) (by decide) (by decide)) ?_
    show Wp _ _ _ _ _ _ (sI h 1076 1 (nI a)) _ _
    refine r_aload_n (q119 (i := 33) rfl) l0 ?_
    refine r_cV (d := _) (q119 (i := 34) rfl) rfl rfl rfl (k_47 S) (Nat.le_of_ble_eq_true rfl) (Nat.zero_le _) (Nat.zero_le _) Rn ?_
    show Wp _ _ _ 67 ls [.int 1] h2 _ _
    refine r_istore_n (ls' := lset1 ls 1 (.int 1)) (q119 (i := 35) rfl) (Nat.le_of_ble_eq_true rfl) rfl ?_
    have l2 := lk1 (k := 1) (v := .int 1) l2 (by decide) (Or.inr (by decide))
    have l0 := lk1 (k := 1) (v := .int 1) l0 (by decide) (Or.inl rfl)
    have l1 := lk0 ls 1 (.int 1)
    generalize lset1 ls 1 (.int 1) = ls at l1 l2 l0 ⊢
    refine r_aload_n (q119 (i := 36) rfl) l0 ?_
    refine r_getR (b := 1075) (q119 (i := 37) rfl) rfl (by decide) (k_47 S2) (fun _ _ _ => rfl) (r_47_30 S2) ?_
    refine r_iload_n (q119 (i := 38) rfl) l2 ?_
    refine r_aload_n (q119 (i := 39) rfl) l0 ?_
    refine r_getI (x := nI v) (q119 (i := 40) rfl) rfl (by decide) (k_47 S2) (fun _ _ _ => rfl) ev ?_
    refine r_iastore (q119 (i := 41) rfl) (k_1075 S2) (vp_in_nI (n := 1) (by decide) (by decide)) ?_
    show Wp _ _ _ _ _ _ (sI h2 1075 1 (nI v)) _ _
    refine r_iload_n (q119 (i := 42) rfl) l1 ?_
    refine r_if 156 (q119 (i := 43) rfl) (by decide) (fun zz => absurd zz (show ¬ ((1 : Int32) = 0) from by decide)) (fun _ => ?_)
    refine r_iload_n (q119 (i := 44) rfl) l2 ?_
    refine r_if 96 (q119 (i := 45) rfl) (by decide) (fun _ => ?_) (fun zz => absurd (show ¬ (1 : Int32) = 0 from by decide) zz)
    refine r_iload_n (q119 (i := 50) rfl) l2 ?_
    refine r_iconst (v := 1) (q119 (i := 51) rfl) (by decide) ?_
    refine r_icmp 112 (q119 (i := 52) rfl) (by decide) (fun zz => absurd zz (show ¬ (¬ (1 : Int32) = 1) from by decide)) (fun _ => ?_)
    refine r_aload_n (q119 (i := 53) rfl) l0 ?_
    refine r_getI (x := nI v) (q119 (i := 54) rfl) rfl (by decide) (k_47 S2) (fun _ _ _ => rfl) ev ?_
    refine r_aload_n (q119 (i := 55) rfl) l0 ?_
    refine r_getI (x := nI n) (q119 (i := 56) rfl) rfl (by decide) (k_47 S2) (fun _ _ _ => rfl) e12 ?_
    refine r_icmp 152 (q119 (i := 57) rfl) (by decide) (fun _ => ?_) (fun zz => absurd (show ¬ nI v = nI n from neN (by omega) (by omega) bad) zz)
    refine r_iconst (v := 1) (q119 (i := 78) rfl) (by decide) ?_
    refine r_goto 157 (q119 (i := 79) rfl) (by decide) ?_
    refine r_istore_n (ls' := lset1 ls 3 (.int 1)) (q119 (i := 81) rfl) (Nat.le_of_ble_eq_true rfl) rfl ?_
    have l1 := lk1 (k := 3) (v := .int 1) l1 (by decide) (Or.inr (by decide))
    have l2 := lk1 (k := 3) (v := .int 1) l2 (by decide) (Or.inl rfl)
    have l0 := lk1 (k := 3) (v := .int 1) l0 (by decide) (Or.inr (by decide))
    have l3 := lk0 ls 3 (.int 1)
    generalize lset1 ls 3 (.int 1) = ls at l3 l1 l2 l0 ⊢
    refine r_iload_n (q119 (i := 82) rfl) l3 ?_
    refine r_if 174 (q119 (i := 83) rfl) (by decide) (fun zz => absurd zz (show ¬ ((1 : Int32) = 0) from by decide)) (fun _ => ?_)
    refine r_aload_n (q119 (i := 84) rfl) l0 ?_
    refine r_iconst (v := 2) (q119 (i := 85) rfl) (by decide) ?_
    refine r_aload_n (q119 (i := 86) rfl) l0 ?_
    refine r_getR (b := 1076) (q119 (i := 87) rfl) rfl (by decide) (k_47 S2) (fun _ _ _ => rfl) (r_47_31 S2) ?_
    refine r_iload_n (q119 (i := 88) rfl) l2 ?_
    refine r_iaload (x := nI a) (q119 (i := 89) rfl) (k_1076 S2) (vp_in_nI (n := 1) (by decide) (by decide)) eh2 ?_
    refine r_cV (d := _) (q119 (i := 90) rfl) rfl rfl rfl (k_47 S2) (Nat.le_of_ble_eq_true rfl) (Nat.zero_le _) (Nat.zero_le _) R4 ?_
    show Wp _ _ _ 173 ls [.int 0] h4 _ _
    refine r_pop (q119 (i := 91) rfl) rfl ?_
    refine r_iload_n (q119 (i := 92) rfl) l1 ?_
    refine r_if 217 (q119 (i := 93) rfl) (by decide) (fun zz => absurd zz (show ¬ ((1 : Int32) = 0) from by decide)) (fun _ => ?_)
    refine r_iload_n (q119 (i := 94) rfl) l2 ?_
    refine r_iconst (v := 4) (q119 (i := 95) rfl) (by decide) ?_
    refine r_icmp 217 (q119 (i := 96) rfl) (by decide) (fun _ => ?_) (fun zz => absurd (show ¬ (1 : Int32) = 4 from by decide) zz)
    exact kk ls l2 l1 l0
  · rw [decide_eq_false bad, if_neg (by decide)] at hs
    refine ⟨sI h2 1075 1 (nI v), by rw [hs]; exact ft3, eb, D3, F3, fun Q bc bs kk ls l2 l1 l0 => ?_⟩
    refine r_iload_n (q119 (i := 22) rfl) l2 ?_
    refine r_iconst (v := 5) (q119 (i := 23) rfl) (by decide) ?_
    refine r_icmp 252 (q119 (i := 24) rfl) (by decide) (fun zz => absurd zz (show ¬ (5 ≤ (1 : Int32)) from by decide)) (fun _ => ?_)
    refine r_iload_n (q119 (i := 25) rfl) l1 ?_
    refine r_if 252 (q119 (i := 26) rfl) (by decide) (fun zz => absurd zz (show ¬ ((1 : Int32) = 0) from by decide)) (fun _ => ?_)
    refine r_aload_n (q119 (i := 27) rfl) l0 ?_
    refine r_getR (b := 1076) (q119 (i := 28) rfl) rfl (by decide) (k_47 S) (fun _ _ _ => rfl) (r_47_31 S) ?_
    refine r_iload_n (q119 (i := 29) rfl) l2 ?_
    refine r_aload_n (q119 (i := 30) rfl) l0 ?_
    refine r_getI (x := nI a) (q119 (i := 31) rfl) rfl (by decide) (k_47 S) (fun _ _ _ => rfl) ea ?_
    refine r_iastore (q119 (i := 32) rfl) (k_1076 S) (vp_in_nI (n := 1) (by decide) (by decide)) ?_
    show Wp _ _ _ _ _ _ (sI h 1076 1 (nI a)) _ _
    refine r_aload_n (q119 (i := 33) rfl) l0 ?_
    refine r_cV (d := _) (q119 (i := 34) rfl) rfl rfl rfl (k_47 S) (Nat.le_of_ble_eq_true rfl) (Nat.zero_le _) (Nat.zero_le _) Rn ?_
    show Wp _ _ _ 67 ls [.int 1] h2 _ _
    refine r_istore_n (ls' := lset1 ls 1 (.int 1)) (q119 (i := 35) rfl) (Nat.le_of_ble_eq_true rfl) rfl ?_
    have l2 := lk1 (k := 1) (v := .int 1) l2 (by decide) (Or.inr (by decide))
    have l0 := lk1 (k := 1) (v := .int 1) l0 (by decide) (Or.inl rfl)
    have l1 := lk0 ls 1 (.int 1)
    generalize lset1 ls 1 (.int 1) = ls at l1 l2 l0 ⊢
    refine r_aload_n (q119 (i := 36) rfl) l0 ?_
    refine r_getR (b := 1075) (q119 (i := 37) rfl) rfl (by decide) (k_47 S2) (fun _ _ _ => rfl) (r_47_30 S2) ?_
    refine r_iload_n (q119 (i := 38) rfl) l2 ?_
    refine r_aload_n (q119 (i := 39) rfl) l0 ?_
    refine r_getI (x := nI v) (q119 (i := 40) rfl) rfl (by decide) (k_47 S2) (fun _ _ _ => rfl) ev ?_
    refine r_iastore (q119 (i := 41) rfl) (k_1075 S2) (vp_in_nI (n := 1) (by decide) (by decide)) ?_
    show Wp _ _ _ _ _ _ (sI h2 1075 1 (nI v)) _ _
    refine r_iload_n (q119 (i := 42) rfl) l1 ?_
    refine r_if 156 (q119 (i := 43) rfl) (by decide) (fun zz => absurd zz (show ¬ ((1 : Int32) = 0) from by decide)) (fun _ => ?_)
    refine r_iload_n (q119 (i := 44) rfl) l2 ?_
    refine r_if 96 (q119 (i := 45) rfl) (by decide) (fun _ => ?_) (fun zz => absurd (show ¬ (1 : Int32) = 0 from by decide) zz)
    refine r_iload_n (q119 (i := 50) rfl) l2 ?_
    refine r_iconst (v := 1) (q119 (i := 51) rfl) (by decide) ?_
    refine r_icmp 112 (q119 (i := 52) rfl) (by decide) (fun zz => absurd zz (show ¬ (¬ (1 : Int32) = 1) from by decide)) (fun _ => ?_)
    refine r_aload_n (q119 (i := 53) rfl) l0 ?_
    refine r_getI (x := nI v) (q119 (i := 54) rfl) rfl (by decide) (k_47 S2) (fun _ _ _ => rfl) ev ?_
    refine r_aload_n (q119 (i := 55) rfl) l0 ?_
    refine r_getI (x := nI n) (q119 (i := 56) rfl) rfl (by decide) (k_47 S2) (fun _ _ _ => rfl) e12 ?_
    refine r_icmp 152 (q119 (i := 57) rfl) (by decide) (fun zz => absurd zz (show ¬ (¬ nI v = nI n) from fun y => y (by rw [Classical.not_not.mp bad]))) (fun _ => ?_)
    refine r_iload_n (q119 (i := 58) rfl) l2 ?_
    refine r_iconst (v := 2) (q119 (i := 59) rfl) (by decide) ?_
    refine r_icmp 124 (q119 (i := 60) rfl) (by decide) (fun _ => ?_) (fun zz => absurd (show ¬ (1 : Int32) = 2 from by decide) zz)
    refine r_iload_n (q119 (i := 64) rfl) l2 ?_
    refine r_iconst (v := 3) (q119 (i := 65) rfl) (by decide) ?_
    refine r_icmp 138 (q119 (i := 66) rfl) (by decide) (fun _ => ?_) (fun zz => absurd (show ¬ (1 : Int32) = 3 from by decide) zz)
    refine r_iload_n (q119 (i := 71) rfl) l2 ?_
    refine r_iconst (v := 4) (q119 (i := 72) rfl) (by decide) ?_
    refine r_icmp 156 (q119 (i := 73) rfl) (by decide) (fun _ => ?_) (fun zz => absurd (show ¬ (1 : Int32) = 4 from by decide) zz)
    refine r_iconst (v := 0) (q119 (i := 80) rfl) (by decide) ?_
    refine r_istore_n (ls' := lset1 ls 3 (.int 0)) (q119 (i := 81) rfl) (Nat.le_of_ble_eq_true rfl) rfl ?_
    have l1 := lk1 (k := 3) (v := .int 0) l1 (by decide) (Or.inr (by decide))
    have l2 := lk1 (k := 3) (v := .int 0) l2 (by decide) (Or.inl rfl)
    have l0 := lk1 (k := 3) (v := .int 0) l0 (by decide) (Or.inr (by decide))
    have l3 := lk0 ls 3 (.int 0)
    generalize lset1 ls 3 (.int 0) = ls at l3 l1 l2 l0 ⊢
    refine r_iload_n (q119 (i := 82) rfl) l3 ?_
    refine r_if 174 (q119 (i := 83) rfl) (by decide) (fun _ => ?_) (fun zz => absurd (show (0 : Int32) = 0 from by decide) zz)
    refine r_iload_n (q119 (i := 92) rfl) l1 ?_
    refine r_if 217 (q119 (i := 93) rfl) (by decide) (fun zz => absurd zz (show ¬ ((1 : Int32) = 0) from by decide)) (fun _ => ?_)
    refine r_iload_n (q119 (i := 94) rfl) l2 ?_
    refine r_iconst (v := 4) (q119 (i := 95) rfl) (by decide) ?_
    refine r_icmp 217 (q119 (i := 96) rfl) (by decide) (fun _ => ?_) (fun zz => absurd (show ¬ (1 : Int32) = 4 from by decide) zz)
    exact kk ls l2 l1 l0
set_option maxHeartbeats 2000000 in
set_option maxRecDepth 10000 in
theorem flA_2 {d : Nat} {B : Nat → Int32} {z n : Nat} (hn : n ≤ 12) {h : hp} (S : Sh h) (T : TM h B z) (e1 : hI h 47 1 = nI n) {q : hst} (hq : q.1 = 2) {a : Nat} (ea : hI h 47 27 = nI a) (ha : a ≤ z) (D : HDM h q a) (ft : FTM h (hft n q)) (g : dg B z a = true) : ∃ h', FTM h' (hft n (qad q (numP B z a).1 a)) ∧ hI h' 47 27 = nI (numP B z a).2 ∧ HDM h' (qad q (numP B z a).1 a) (numP B z a).2 ∧ FrH h h' ∧ ∀ (Q : resP) (bc bs : Nat), (∀ ls : List (Nat × Value), ls.lookup 2 = some (.int 2) → ls.lookup 1 = some (.int 1) → ls.lookup 0 = some (.ref 47) → Wp (Ex (d + 2)) 119 Q 217 ls [] h' bc bs) → ∀ ls : List (Nat × Value), ls.lookup 2 = some (.int 2) → ls.lookup 1 = some (.int 1) → ls.lookup 0 = some (.ref 47) → Wp (Ex (d + 2)) 119 Q 44 ls [] h bc bs := by
  have hz := T.2.2.1
  obtain ⟨n1, n2, n3⟩ := numP_le B z ha
  obtain ⟨hlt, g1, g2⟩ := dg_lt g
  have F1 : FrH h (sI h 1076 2 (nI a)) := FrH.w (by decide) _ _
  obtain ⟨h2, Rn, st, F2⟩ := sp_mnum (d := d) (h := sI h 1076 2 (nI a)) (F1.S S) (F1.T T) (t := hft n q) (FTM.to rfl rfl ft) (a := a) ea ha
  rw [if_pos g] at Rn st
  obtain ⟨eb, ev, ft2⟩ := st
  have hgt : a < (numP B z a).2 := numP_gt g ha
  obtain ⟨v, ew⟩ : ∃ v, v = (numP B z a).1 := ⟨_, rfl⟩
  obtain ⟨b, eq⟩ : ∃ b, b = (numP B z a).2 := ⟨_, rfl⟩
  rw [← ew] at n3 ev ⊢
  rw [← eq] at n1 n2 eb hgt ⊢
  have S2 : Sh h2 := F2.S (F1.S S)
  have F12 := F1.tr F2.H
  have e12 : hI h2 47 1 = nI n := (F12.2.2 1 (by decide)).trans e1
  have eh2 : hI h2 1076 2 = nI a := by
    rw [F2.2.1 1076 (by decide)]
    show u1 (hI h 1076) 2 (nI a) 2 = _
    rw [u1_s]
  have F3 : FrH h (sI h2 1075 2 (nI v)) := F12.tr (FrH.w (by decide) _ _)
  have S3 : Sh (sI h2 1075 2 (nI v)) := S2.to rfl
  have ft3 : FTM (sI h2 1075 2 (nI v)) (hft n q) := FTM.to rfl rfl ft2
  have D3 : HDM (sI h2 1075 2 (nI v)) (qad q v a) b := HDM_ad (h' := sI h2 1075 2 (nI v)) D n3 (by
    show u1 (hI h2 1075) 2 (nI v) = _
    rw [F2.2.1 1075 (by decide), hq]; rfl) (by
    show hI h2 1076 = _
    rw [F2.2.1 1076 (by decide), hq]; rfl) hgt
  have hp : ∀ i, i < q.1 → q.2.2 i < a := fun i hi => (D.1 i hi).2.2.2
  have hb : hbad n (qad q v a) q.1 = decide (v ≠ 0) := by
    rw [hq]
    unfold hbad qad
    show decide (u1 q.2.1 q.1 v 2 ≠ 0) = _
    rw [hq, u1_s]
  have hs := hft_s (n := n) (v := v) (a := a) (q := q) (by omega) hp
  rw [hb] at hs
  by_cases bad : v ≠ 0
  · rw [decide_eq_true bad, if_pos rfl] at hs
    obtain ⟨h4, R4, ft4, F4, x1, x2⟩ := sp_fails (d := d + 1) S3 ft3 (f := 2) (p := a) (by decide) (by omega)
    have S4 := F4.S S3
    refine ⟨h4, by rw [hs]; exact ft4, x1.trans eb, ⟨fun i hi => by rw [F4.2.1 1075 (by decide), F4.2.1 1076 (by decide)]; exact D3.1 i hi, D3.2⟩, F3.tr F4.H, fun Q bc bs kk ls l2 l1 l0 => ?_⟩
    refine r_iload_n (q119 (i := 22) rfl) l2 ?_
    refine r_iconst (v := 5) (q119 (i := 23) rfl) (by decide) ?_
    refine r_icmp 252 (q119 (i := 24) rfl) (by decide) (fun zz => absurd zz (show ¬ (5 ≤ (2 : Int32)) from by decide)) (fun _ => ?_)
    refine r_iload_n (q119 (i := 25) rfl) l1 ?_
    refine r_if 252 (q119 (i := 26) rfl) (by decide) (fun zz => absurd zz (show ¬ ((1 : Int32) = 0) from by decide)) (fun _ => ?_)
    refine r_aload_n (q119 (i := 27) rfl) l0 ?_
    refine r_getR (b := 1076) (q119 (i := 28) rfl) rfl (by decide) (k_47 S) (fun _ _ _ => rfl) (r_47_31 S) ?_
    refine r_iload_n (q119 (i := 29) rfl) l2 ?_
    refine r_aload_n (q119 (i := 30) rfl) l0 ?_
    refine r_getI (x := nI a) (q119 (i := 31) rfl) rfl (by decide) (k_47 S) (fun _ _ _ => rfl) ea ?_
    refine r_iastore (q119 (i := 32) rfl) (k_1076 S) (vp_in_nI (n := 2) (by decide) (by decide)) ?_
    show Wp _ _ _ _ _ _ (sI h 1076 2 (nI a)) _ _
    refine r_aload_n (q119 (i := 33) rfl) l0 ?_
    refine r_cV (d := _) (q119 (i := 34) rfl) rfl rfl rfl (k_47 S) (Nat.le_of_ble_eq_true rfl) (Nat.zero_le _) (Nat.zero_le _) Rn ?_
    show Wp _ _ _ 67 ls [.int 1] h2 _ _
    refine r_istore_n (ls' := lset1 ls 1 (.int 1)) (q119 (i := 35) rfl) (Nat.le_of_ble_eq_true rfl) rfl ?_
    have l2 := lk1 (k := 1) (v := .int 1) l2 (by decide) (Or.inr (by decide))
    have l0 := lk1 (k := 1) (v := .int 1) l0 (by decide) (Or.inl rfl)
    have l1 := lk0 ls 1 (.int 1)
    generalize lset1 ls 1 (.int 1) = ls at l1 l2 l0 ⊢
    refine r_aload_n (q119 (i := 36) rfl) l0 ?_
    refine r_getR (b := 1075) (q119 (i := 37) rfl) rfl (by decide) (k_47 S2) (fun _ _ _ => rfl) (r_47_30 S2) ?_
    refine r_iload_n (q119 (i := 38) rfl) l2 ?_
    refine r_aload_n (q119 (i := 39) rfl) l0 ?_
    refine r_getI (x := nI v) (q119 (i := 40) rfl) rfl (by decide) (k_47 S2) (fun _ _ _ => rfl) ev ?_
    refine r_iastore (q119 (i := 41) rfl) (k_1075 S2) (vp_in_nI (n := 2) (by decide) (by decide)) ?_
    show Wp _ _ _ _ _ _ (sI h2 1075 2 (nI v)) _ _
    refine r_iload_n (q119 (i := 42) rfl) l1 ?_
    refine r_if 156 (q119 (i := 43) rfl) (by decide) (fun zz => absurd zz (show ¬ ((1 : Int32) = 0) from by decide)) (fun _ => ?_)
    refine r_iload_n (q119 (i := 44) rfl) l2 ?_
    refine r_if 96 (q119 (i := 45) rfl) (by decide) (fun _ => ?_) (fun zz => absurd (show ¬ (2 : Int32) = 0 from by decide) zz)
    refine r_iload_n (q119 (i := 50) rfl) l2 ?_
    refine r_iconst (v := 1) (q119 (i := 51) rfl) (by decide) ?_
    refine r_icmp 112 (q119 (i := 52) rfl) (by decide) (fun _ => ?_) (fun zz => absurd (show ¬ (2 : Int32) = 1 from by decide) zz)
    refine r_iload_n (q119 (i := 58) rfl) l2 ?_
    refine r_iconst (v := 2) (q119 (i := 59) rfl) (by decide) ?_
    refine r_icmp 124 (q119 (i := 60) rfl) (by decide) (fun zz => absurd zz (show ¬ (¬ (2 : Int32) = 2) from by decide)) (fun _ => ?_)
    refine r_aload_n (q119 (i := 61) rfl) l0 ?_
    refine r_getI (x := nI v) (q119 (i := 62) rfl) rfl (by decide) (k_47 S2) (fun _ _ _ => rfl) ev ?_
    refine r_if 152 (q119 (i := 63) rfl) (by decide) (fun _ => ?_) (fun zz => absurd (show ¬ nI v = 0 from nI_ne0 (by omega) (by omega)) zz)
    refine r_iconst (v := 1) (q119 (i := 78) rfl) (by decide) ?_
    refine r_goto 157 (q119 (i := 79) rfl) (by decide) ?_
    refine r_istore_n (ls' := lset1 ls 3 (.int 1)) (q119 (i := 81) rfl) (Nat.le_of_ble_eq_true rfl) rfl ?_
    have l1 := lk1 (k := 3) (v := .int 1) l1 (by decide) (Or.inr (by decide))
    have l2 := lk1 (k := 3) (v := .int 1) l2 (by decide) (Or.inl rfl)
    have l0 := lk1 (k := 3) (v := .int 1) l0 (by decide) (Or.inr (by decide))
    have l3 := lk0 ls 3 (.int 1)
    generalize lset1 ls 3 (.int 1) = ls at l3 l1 l2 l0 ⊢
    refine r_iload_n (q119 (i := 82) rfl) l3 ?_
    refine r_if 174 (q119 (i := 83) rfl) (by decide) (fun zz => absurd zz (show ¬ ((1 : Int32) = 0) from by decide)) (fun _ => ?_)
    refine r_aload_n (q119 (i := 84) rfl) l0 ?_
    refine r_iconst (v := 2) (q119 (i := 85) rfl) (by decide) ?_
    refine r_aload_n (q119 (i := 86) rfl) l0 ?_
    refine r_getR (b := 1076) (q119 (i := 87) rfl) rfl (by decide) (k_47 S2) (fun _ _ _ => rfl) (r_47_31 S2) ?_
    refine r_iload_n (q119 (i := 88) rfl) l2 ?_
    refine r_iaload (x := nI a) (q119 (i := 89) rfl) (k_1076 S2) (vp_in_nI (n := 2) (by decide) (by decide)) eh2 ?_
    refine r_cV (d := _) (q119 (i := 90) rfl) rfl rfl rfl (k_47 S2) (Nat.le_of_ble_eq_true rfl) (Nat.zero_le _) (Nat.zero_le _) R4 ?_
    show Wp _ _ _ 173 ls [.int 0] h4 _ _
    refine r_pop (q119 (i := 91) rfl) rfl ?_
    refine r_iload_n (q119 (i := 92) rfl) l1 ?_
    refine r_if 217 (q119 (i := 93) rfl) (by decide) (fun zz => absurd zz (show ¬ ((1 : Int32) = 0) from by decide)) (fun _ => ?_)
    refine r_iload_n (q119 (i := 94) rfl) l2 ?_
    refine r_iconst (v := 4) (q119 (i := 95) rfl) (by decide) ?_
    refine r_icmp 217 (q119 (i := 96) rfl) (by decide) (fun _ => ?_) (fun zz => absurd (show ¬ (2 : Int32) = 4 from by decide) zz)
    exact kk ls l2 l1 l0
  · rw [decide_eq_false bad, if_neg (by decide)] at hs
    refine ⟨sI h2 1075 2 (nI v), by rw [hs]; exact ft3, eb, D3, F3, fun Q bc bs kk ls l2 l1 l0 => ?_⟩
    refine r_iload_n (q119 (i := 22) rfl) l2 ?_
    refine r_iconst (v := 5) (q119 (i := 23) rfl) (by decide) ?_
    refine r_icmp 252 (q119 (i := 24) rfl) (by decide) (fun zz => absurd zz (show ¬ (5 ≤ (2 : Int32)) from by decide)) (fun _ => ?_)
    refine r_iload_n (q119 (i := 25) rfl) l1 ?_
    refine r_if 252 (q119 (i := 26) rfl) (by decide) (fun zz => absurd zz (show ¬ ((1 : Int32) = 0) from by decide)) (fun _ => ?_)
    refine r_aload_n (q119 (i := 27) rfl) l0 ?_
    refine r_getR (b := 1076) (q119 (i := 28) rfl) rfl (by decide) (k_47 S) (fun _ _ _ => rfl) (r_47_31 S) ?_
    refine r_iload_n (q119 (i := 29) rfl) l2 ?_
    refine r_aload_n (q119 (i := 30) rfl) l0 ?_
    refine r_getI (x := nI a) (q119 (i := 31) rfl) rfl (by decide) (k_47 S) (fun _ _ _ => rfl) ea ?_
    refine r_iastore (q119 (i := 32) rfl) (k_1076 S) (vp_in_nI (n := 2) (by decide) (by decide)) ?_
    show Wp _ _ _ _ _ _ (sI h 1076 2 (nI a)) _ _
    refine r_aload_n (q119 (i := 33) rfl) l0 ?_
    refine r_cV (d := _) (q119 (i := 34) rfl) rfl rfl rfl (k_47 S) (Nat.le_of_ble_eq_true rfl) (Nat.zero_le _) (Nat.zero_le _) Rn ?_
    show Wp _ _ _ 67 ls [.int 1] h2 _ _
    refine r_istore_n (ls' := lset1 ls 1 (.int 1)) (q119 (i := 35) rfl) (Nat.le_of_ble_eq_true rfl) rfl ?_
    have l2 := lk1 (k := 1) (v := .int 1) l2 (by decide) (Or.inr (by decide))
    have l0 := lk1 (k := 1) (v := .int 1) l0 (by decide) (Or.inl rfl)
    have l1 := lk0 ls 1 (.int 1)
    generalize lset1 ls 1 (.int 1) = ls at l1 l2 l0 ⊢
    refine r_aload_n (q119 (i := 36) rfl) l0 ?_
    refine r_getR (b := 1075) (q119 (i := 37) rfl) rfl (by decide) (k_47 S2) (fun _ _ _ => rfl) (r_47_30 S2) ?_
    refine r_iload_n (q119 (i := 38) rfl) l2 ?_
    refine r_aload_n (q119 (i := 39) rfl) l0 ?_
    refine r_getI (x := nI v) (q119 (i := 40) rfl) rfl (by decide) (k_47 S2) (fun _ _ _ => rfl) ev ?_
    refine r_iastore (q119 (i := 41) rfl) (k_1075 S2) (vp_in_nI (n := 2) (by decide) (by decide)) ?_
    show Wp _ _ _ _ _ _ (sI h2 1075 2 (nI v)) _ _
    refine r_iload_n (q119 (i := 42) rfl) l1 ?_
    refine r_if 156 (q119 (i := 43) rfl) (by decide) (fun zz => absurd zz (show ¬ ((1 : Int32) = 0) from by decide)) (fun _ => ?_)
    refine r_iload_n (q119 (i := 44) rfl) l2 ?_
    refine r_if 96 (q119 (i := 45) rfl) (by decide) (fun _ => ?_) (fun zz => absurd (show ¬ (2 : Int32) = 0 from by decide) zz)
    refine r_iload_n (q119 (i := 50) rfl) l2 ?_
    refine r_iconst (v := 1) (q119 (i := 51) rfl) (by decide) ?_
    refine r_icmp 112 (q119 (i := 52) rfl) (by decide) (fun _ => ?_) (fun zz => absurd (show ¬ (2 : Int32) = 1 from by decide) zz)
    refine r_iload_n (q119 (i := 58) rfl) l2 ?_
    refine r_iconst (v := 2) (q119 (i := 59) rfl) (by decide) ?_
    refine r_icmp 124 (q119 (i := 60) rfl) (by decide) (fun zz => absurd zz (show ¬ (¬ (2 : Int32) = 2) from by decide)) (fun _ => ?_)
    refine r_aload_n (q119 (i := 61) rfl) l0 ?_
    refine r_getI (x := nI v) (q119 (i := 62) rfl) rfl (by decide) (k_47 S2) (fun _ _ _ => rfl) ev ?_
    refine r_if 152 (q119 (i := 63) rfl) (by decide) (fun zz => absurd zz (show ¬ (¬ nI v = 0) from fun y => y (by rw [Classical.not_not.mp bad]; rfl))) (fun _ => ?_)
    refine r_iload_n (q119 (i := 64) rfl) l2 ?_
    refine r_iconst (v := 3) (q119 (i := 65) rfl) (by decide) ?_
    refine r_icmp 138 (q119 (i := 66) rfl) (by decide) (fun _ => ?_) (fun zz => absurd (show ¬ (2 : Int32) = 3 from by decide) zz)
    refine r_iload_n (q119 (i := 71) rfl) l2 ?_
    refine r_iconst (v := 4) (q119 (i := 72) rfl) (by decide) ?_
    refine r_icmp 156 (q119 (i := 73) rfl) (by decide) (fun _ => ?_) (fun zz => absurd (show ¬ (2 : Int32) = 4 from by decide) zz)
    refine r_iconst (v := 0) (q119 (i := 80) rfl) (by decide) ?_
    refine r_istore_n (ls' := lset1 ls 3 (.int 0)) (q119 (i := 81) rfl) (Nat.le_of_ble_eq_true rfl) rfl ?_
    have l1 := lk1 (k := 3) (v := .int 0) l1 (by decide) (Or.inr (by decide))
    have l2 := lk1 (k := 3) (v := .int 0) l2 (by decide) (Or.inl rfl)
    have l0 := lk1 (k := 3) (v := .int 0) l0 (by decide) (Or.inr (by decide))
    have l3 := lk0 ls 3 (.int 0)
    generalize lset1 ls 3 (.int 0) = ls at l3 l1 l2 l0 ⊢
    refine r_iload_n (q119 (i := 82) rfl) l3 ?_
    refine r_if 174 (q119 (i := 83) rfl) (by decide) (fun _ => ?_) (fun zz => absurd (show (0 : Int32) = 0 from by decide) zz)
    refine r_iload_n (q119 (i := 92) rfl) l1 ?_
    refine r_if 217 (q119 (i := 93) rfl) (by decide) (fun zz => absurd zz (show ¬ ((1 : Int32) = 0) from by decide)) (fun _ => ?_)
    refine r_iload_n (q119 (i := 94) rfl) l2 ?_
    refine r_iconst (v := 4) (q119 (i := 95) rfl) (by decide) ?_
    refine r_icmp 217 (q119 (i := 96) rfl) (by decide) (fun _ => ?_) (fun zz => absurd (show ¬ (2 : Int32) = 4 from by decide) zz)
    exact kk ls l2 l1 l0
set_option maxHeartbeats 2000000 in
set_option maxRecDepth 10000 in
theorem flA_3 {d : Nat} {B : Nat → Int32} {z n : Nat} (hn : n ≤ 12) {h : hp} (S : Sh h) (T : TM h B z) (e1 : hI h 47 1 = nI n) {q : hst} (hq : q.1 = 3) {a : Nat} (ea : hI h 47 27 = nI a) (ha : a ≤ z) (D : HDM h q a) (ft : FTM h (hft n q)) (g : dg B z a = true) : ∃ h', FTM h' (hft n (qad q (numP B z a).1 a)) ∧ hI h' 47 27 = nI (numP B z a).2 ∧ HDM h' (qad q (numP B z a).1 a) (numP B z a).2 ∧ FrH h h' ∧ ∀ (Q : resP) (bc bs : Nat), (∀ ls : List (Nat × Value), ls.lookup 2 = some (.int 3) → ls.lookup 1 = some (.int 1) → ls.lookup 0 = some (.ref 47) → Wp (Ex (d + 2)) 119 Q 217 ls [] h' bc bs) → ∀ ls : List (Nat × Value), ls.lookup 2 = some (.int 3) → ls.lookup 1 = some (.int 1) → ls.lookup 0 = some (.ref 47) → Wp (Ex (d + 2)) 119 Q 44 ls [] h bc bs := by
  have hz := T.2.2.1
  obtain ⟨n1, n2, n3⟩ := numP_le B z ha
  obtain ⟨hlt, g1, g2⟩ := dg_lt g
  have F1 : FrH h (sI h 1076 3 (nI a)) := FrH.w (by decide) _ _
  obtain ⟨h2, Rn, st, F2⟩ := sp_mnum (d := d) (h := sI h 1076 3 (nI a)) (F1.S S) (F1.T T) (t := hft n q) (FTM.to rfl rfl ft) (a := a) ea ha
  rw [if_pos g] at Rn st
  obtain ⟨eb, ev, ft2⟩ := st
  have hgt : a < (numP B z a).2 := numP_gt g ha
  obtain ⟨v, ew⟩ : ∃ v, v = (numP B z a).1 := ⟨_, rfl⟩
  obtain ⟨b, eq⟩ : ∃ b, b = (numP B z a).2 := ⟨_, rfl⟩
  rw [← ew] at n3 ev ⊢
  rw [← eq] at n1 n2 eb hgt ⊢
  have S2 : Sh h2 := F2.S (F1.S S)
  have F12 := F1.tr F2.H
  have e12 : hI h2 47 1 = nI n := (F12.2.2 1 (by decide)).trans e1
  have eh2 : hI h2 1076 3 = nI a := by
    rw [F2.2.1 1076 (by decide)]
    show u1 (hI h 1076) 3 (nI a) 3 = _
    rw [u1_s]
  have F3 : FrH h (sI h2 1075 3 (nI v)) := F12.tr (FrH.w (by decide) _ _)
  have S3 : Sh (sI h2 1075 3 (nI v)) := S2.to rfl
  have ft3 : FTM (sI h2 1075 3 (nI v)) (hft n q) := FTM.to rfl rfl ft2
  have D3 : HDM (sI h2 1075 3 (nI v)) (qad q v a) b := HDM_ad (h' := sI h2 1075 3 (nI v)) D n3 (by
    show u1 (hI h2 1075) 3 (nI v) = _
    rw [F2.2.1 1075 (by decide), hq]; rfl) (by
    show hI h2 1076 = _
    rw [F2.2.1 1076 (by decide), hq]; rfl) hgt
  have hp : ∀ i, i < q.1 → q.2.2 i < a := fun i hi => (D.1 i hi).2.2.2
  have hb : hbad n (qad q v a) q.1 = decide (10 < v) := by
    rw [hq]
    unfold hbad qad
    show decide (10 < u1 q.2.1 q.1 v 3) = _
    rw [hq, u1_s]
  have hs := hft_s (n := n) (v := v) (a := a) (q := q) (by omega) hp
  rw [hb] at hs
  by_cases bad : 10 < v
  · rw [decide_eq_true bad, if_pos rfl] at hs
    obtain ⟨h4, R4, ft4, F4, x1, x2⟩ := sp_fails (d := d + 1) S3 ft3 (f := 2) (p := a) (by decide) (by omega)
    have S4 := F4.S S3
    refine ⟨h4, by rw [hs]; exact ft4, x1.trans eb, ⟨fun i hi => by rw [F4.2.1 1075 (by decide), F4.2.1 1076 (by decide)]; exact D3.1 i hi, D3.2⟩, F3.tr F4.H, fun Q bc bs kk ls l2 l1 l0 => ?_⟩
    refine r_iload_n (q119 (i := 22) rfl) l2 ?_
    refine r_iconst (v := 5) (q119 (i := 23) rfl) (by decide) ?_
    refine r_icmp 252 (q119 (i := 24) rfl) (by decide) (fun zz => absurd zz (show ¬ (5 ≤ (3 : Int32)) from by decide)) (fun _ => ?_)
    refine r_iload_n (q119 (i := 25) rfl) l1 ?_
    refine r_if 252 (q119 (i := 26) rfl) (by decide) (fun zz => absurd zz (show ¬ ((1 : Int32) = 0) from by decide)) (fun _ => ?_)
    refine r_aload_n (q119 (i := 27) rfl) l0 ?_
    refine r_getR (b := 1076) (q119 (i := 28) rfl) rfl (by decide) (k_47 S) (fun _ _ _ => rfl) (r_47_31 S) ?_
    refine r_iload_n (q119 (i := 29) rfl) l2 ?_
    refine r_aload_n (q119 (i := 30) rfl) l0 ?_
    refine r_getI (x := nI a) (q119 (i := 31) rfl) rfl (by decide) (k_47 S) (fun _ _ _ => rfl) ea ?_
    refine r_iastore (q119 (i := 32) rfl) (k_1076 S) (vp_in_nI (n := 3) (by decide) (by decide)) ?_
    show Wp _ _ _ _ _ _ (sI h 1076 3 (nI a)) _ _
    refine r_aload_n (q119 (i := 33) rfl) l0 ?_
    refine r_cV (d := _) (q119 (i := 34) rfl) rfl rfl rfl (k_47 S) (Nat.le_of_ble_eq_true rfl) (Nat.zero_le _) (Nat.zero_le _) Rn ?_
    show Wp _ _ _ 67 ls [.int 1] h2 _ _
    refine r_istore_n (ls' := lset1 ls 1 (.int 1)) (q119 (i := 35) rfl) (Nat.le_of_ble_eq_true rfl) rfl ?_
    have l2 := lk1 (k := 1) (v := .int 1) l2 (by decide) (Or.inr (by decide))
    have l0 := lk1 (k := 1) (v := .int 1) l0 (by decide) (Or.inl rfl)
    have l1 := lk0 ls 1 (.int 1)
    generalize lset1 ls 1 (.int 1) = ls at l1 l2 l0 ⊢
    refine r_aload_n (q119 (i := 36) rfl) l0 ?_
    refine r_getR (b := 1075) (q119 (i := 37) rfl) rfl (by decide) (k_47 S2) (fun _ _ _ => rfl) (r_47_30 S2) ?_
    refine r_iload_n (q119 (i := 38) rfl) l2 ?_
    refine r_aload_n (q119 (i := 39) rfl) l0 ?_
    refine r_getI (x := nI v) (q119 (i := 40) rfl) rfl (by decide) (k_47 S2) (fun _ _ _ => rfl) ev ?_
    refine r_iastore (q119 (i := 41) rfl) (k_1075 S2) (vp_in_nI (n := 3) (by decide) (by decide)) ?_
    show Wp _ _ _ _ _ _ (sI h2 1075 3 (nI v)) _ _
    refine r_iload_n (q119 (i := 42) rfl) l1 ?_
    refine r_if 156 (q119 (i := 43) rfl) (by decide) (fun zz => absurd zz (show ¬ ((1 : Int32) = 0) from by decide)) (fun _ => ?_)
    refine r_iload_n (q119 (i := 44) rfl) l2 ?_
    refine r_if 96 (q119 (i := 45) rfl) (by decide) (fun _ => ?_) (fun zz => absurd (show ¬ (3 : Int32) = 0 from by decide) zz)
    refine r_iload_n (q119 (i := 50) rfl) l2 ?_
    refine r_iconst (v := 1) (q119 (i := 51) rfl) (by decide) ?_
    refine r_icmp 112 (q119 (i := 52) rfl) (by decide) (fun _ => ?_) (fun zz => absurd (show ¬ (3 : Int32) = 1 from by decide) zz)
    refine r_iload_n (q119 (i := 58) rfl) l2 ?_
    refine r_iconst (v := 2) (q119 (i := 59) rfl) (by decide) ?_
    refine r_icmp 124 (q119 (i := 60) rfl) (by decide) (fun _ => ?_) (fun zz => absurd (show ¬ (3 : Int32) = 2 from by decide) zz)
    refine r_iload_n (q119 (i := 64) rfl) l2 ?_
    refine r_iconst (v := 3) (q119 (i := 65) rfl) (by decide) ?_
    refine r_icmp 138 (q119 (i := 66) rfl) (by decide) (fun zz => absurd zz (show ¬ (¬ (3 : Int32) = 3) from by decide)) (fun _ => ?_)
    refine r_aload_n (q119 (i := 67) rfl) l0 ?_
    refine r_getI (x := nI v) (q119 (i := 68) rfl) rfl (by decide) (k_47 S2) (fun _ _ _ => rfl) ev ?_
    refine r_bipush (v := 10) (q119 (i := 69) rfl) (by decide) ?_
    refine r_icmp 152 (q119 (i := 70) rfl) (by decide) (fun _ => ?_) (fun zz => absurd (show 10 < nI v from nI_lt (a := 10) bad (by omega)) zz)
    refine r_iconst (v := 1) (q119 (i := 78) rfl) (by decide) ?_
    refine r_goto 157 (q119 (i := 79) rfl) (by decide) ?_
    refine r_istore_n (ls' := lset1 ls 3 (.int 1)) (q119 (i := 81) rfl) (Nat.le_of_ble_eq_true rfl) rfl ?_
    have l1 := lk1 (k := 3) (v := .int 1) l1 (by decide) (Or.inr (by decide))
    have l2 := lk1 (k := 3) (v := .int 1) l2 (by decide) (Or.inl rfl)
    have l0 := lk1 (k := 3) (v := .int 1) l0 (by decide) (Or.inr (by decide))
    have l3 := lk0 ls 3 (.int 1)
    generalize lset1 ls 3 (.int 1) = ls at l3 l1 l2 l0 ⊢
    refine r_iload_n (q119 (i := 82) rfl) l3 ?_
    refine r_if 174 (q119 (i := 83) rfl) (by decide) (fun zz => absurd zz (show ¬ ((1 : Int32) = 0) from by decide)) (fun _ => ?_)
    refine r_aload_n (q119 (i := 84) rfl) l0 ?_
    refine r_iconst (v := 2) (q119 (i := 85) rfl) (by decide) ?_
    refine r_aload_n (q119 (i := 86) rfl) l0 ?_
    refine r_getR (b := 1076) (q119 (i := 87) rfl) rfl (by decide) (k_47 S2) (fun _ _ _ => rfl) (r_47_31 S2) ?_
    refine r_iload_n (q119 (i := 88) rfl) l2 ?_
    refine r_iaload (x := nI a) (q119 (i := 89) rfl) (k_1076 S2) (vp_in_nI (n := 3) (by decide) (by decide)) eh2 ?_
    refine r_cV (d := _) (q119 (i := 90) rfl) rfl rfl rfl (k_47 S2) (Nat.le_of_ble_eq_true rfl) (Nat.zero_le _) (Nat.zero_le _) R4 ?_
    show Wp _ _ _ 173 ls [.int 0] h4 _ _
    refine r_pop (q119 (i := 91) rfl) rfl ?_
    refine r_iload_n (q119 (i := 92) rfl) l1 ?_
    refine r_if 217 (q119 (i := 93) rfl) (by decide) (fun zz => absurd zz (show ¬ ((1 : Int32) = 0) from by decide)) (fun _ => ?_)
    refine r_iload_n (q119 (i := 94) rfl) l2 ?_
    refine r_iconst (v := 4) (q119 (i := 95) rfl) (by decide) ?_
    refine r_icmp 217 (q119 (i := 96) rfl) (by decide) (fun _ => ?_) (fun zz => absurd (show ¬ (3 : Int32) = 4 from by decide) zz)
    exact kk ls l2 l1 l0
  · rw [decide_eq_false bad, if_neg (by decide)] at hs
    refine ⟨sI h2 1075 3 (nI v), by rw [hs]; exact ft3, eb, D3, F3, fun Q bc bs kk ls l2 l1 l0 => ?_⟩
    refine r_iload_n (q119 (i := 22) rfl) l2 ?_
    refine r_iconst (v := 5) (q119 (i := 23) rfl) (by decide) ?_
    refine r_icmp 252 (q119 (i := 24) rfl) (by decide) (fun zz => absurd zz (show ¬ (5 ≤ (3 : Int32)) from by decide)) (fun _ => ?_)
    refine r_iload_n (q119 (i := 25) rfl) l1 ?_
    refine r_if 252 (q119 (i := 26) rfl) (by decide) (fun zz => absurd zz (show ¬ ((1 : Int32) = 0) from by decide)) (fun _ => ?_)
    refine r_aload_n (q119 (i := 27) rfl) l0 ?_
    refine r_getR (b := 1076) (q119 (i := 28) rfl) rfl (by decide) (k_47 S) (fun _ _ _ => rfl) (r_47_31 S) ?_
    refine r_iload_n (q119 (i := 29) rfl) l2 ?_
    refine r_aload_n (q119 (i := 30) rfl) l0 ?_
    refine r_getI (x := nI a) (q119 (i := 31) rfl) rfl (by decide) (k_47 S) (fun _ _ _ => rfl) ea ?_
    refine r_iastore (q119 (i := 32) rfl) (k_1076 S) (vp_in_nI (n := 3) (by decide) (by decide)) ?_
    show Wp _ _ _ _ _ _ (sI h 1076 3 (nI a)) _ _
    refine r_aload_n (q119 (i := 33) rfl) l0 ?_
    refine r_cV (d := _) (q119 (i := 34) rfl) rfl rfl rfl (k_47 S) (Nat.le_of_ble_eq_true rfl) (Nat.zero_le _) (Nat.zero_le _) Rn ?_
    show Wp _ _ _ 67 ls [.int 1] h2 _ _
    refine r_istore_n (ls' := lset1 ls 1 (.int 1)) (q119 (i := 35) rfl) (Nat.le_of_ble_eq_true rfl) rfl ?_
    have l2 := lk1 (k := 1) (v := .int 1) l2 (by decide) (Or.inr (by decide))
    have l0 := lk1 (k := 1) (v := .int 1) l0 (by decide) (Or.inl rfl)
    have l1 := lk0 ls 1 (.int 1)
    generalize lset1 ls 1 (.int 1) = ls at l1 l2 l0 ⊢
    refine r_aload_n (q119 (i := 36) rfl) l0 ?_
    refine r_getR (b := 1075) (q119 (i := 37) rfl) rfl (by decide) (k_47 S2) (fun _ _ _ => rfl) (r_47_30 S2) ?_
    refine r_iload_n (q119 (i := 38) rfl) l2 ?_
    refine r_aload_n (q119 (i := 39) rfl) l0 ?_
    refine r_getI (x := nI v) (q119 (i := 40) rfl) rfl (by decide) (k_47 S2) (fun _ _ _ => rfl) ev ?_
    refine r_iastore (q119 (i := 41) rfl) (k_1075 S2) (vp_in_nI (n := 3) (by decide) (by decide)) ?_
    show Wp _ _ _ _ _ _ (sI h2 1075 3 (nI v)) _ _
    refine r_iload_n (q119 (i := 42) rfl) l1 ?_
    refine r_if 156 (q119 (i := 43) rfl) (by decide) (fun zz => absurd zz (show ¬ ((1 : Int32) = 0) from by decide)) (fun _ => ?_)
    refine r_iload_n (q119 (i := 44) rfl) l2 ?_
    refine r_if 96 (q119 (i := 45) rfl) (by decide) (fun _ => ?_) (fun zz => absurd (show ¬ (3 : Int32) = 0 from by decide) zz)
    refine r_iload_n (q119 (i := 50) rfl) l2 ?_
    refine r_iconst (v := 1) (q119 (i := 51) rfl) (by decide) ?_
    refine r_icmp 112 (q119 (i := 52) rfl) (by decide) (fun _ => ?_) (fun zz => absurd (show ¬ (3 : Int32) = 1 from by decide) zz)
    refine r_iload_n (q119 (i := 58) rfl) l2 ?_
    refine r_iconst (v := 2) (q119 (i := 59) rfl) (by decide) ?_
    refine r_icmp 124 (q119 (i := 60) rfl) (by decide) (fun _ => ?_) (fun zz => absurd (show ¬ (3 : Int32) = 2 from by decide) zz)
    refine r_iload_n (q119 (i := 64) rfl) l2 ?_
    refine r_iconst (v := 3) (q119 (i := 65) rfl) (by decide) ?_
    refine r_icmp 138 (q119 (i := 66) rfl) (by decide) (fun zz => absurd zz (show ¬ (¬ (3 : Int32) = 3) from by decide)) (fun _ => ?_)
    refine r_aload_n (q119 (i := 67) rfl) l0 ?_
    refine r_getI (x := nI v) (q119 (i := 68) rfl) rfl (by decide) (k_47 S2) (fun _ _ _ => rfl) ev ?_
    refine r_bipush (v := 10) (q119 (i := 69) rfl) (by decide) ?_
    refine r_icmp 152 (q119 (i := 70) rfl) (by decide) (fun zz => absurd zz (show ¬ (10 < nI v) from nI_nlt (a := 10) (by omega) (by decide))) (fun _ => ?_)
    refine r_iload_n (q119 (i := 71) rfl) l2 ?_
    refine r_iconst (v := 4) (q119 (i := 72) rfl) (by decide) ?_
    refine r_icmp 156 (q119 (i := 73) rfl) (by decide) (fun _ => ?_) (fun zz => absurd (show ¬ (3 : Int32) = 4 from by decide) zz)
    refine r_iconst (v := 0) (q119 (i := 80) rfl) (by decide) ?_
    refine r_istore_n (ls' := lset1 ls 3 (.int 0)) (q119 (i := 81) rfl) (Nat.le_of_ble_eq_true rfl) rfl ?_
    have l1 := lk1 (k := 3) (v := .int 0) l1 (by decide) (Or.inr (by decide))
    have l2 := lk1 (k := 3) (v := .int 0) l2 (by decide) (Or.inl rfl)
    have l0 := lk1 (k := 3) (v := .int 0) l0 (by decide) (Or.inr (by decide))
    have l3 := lk0 ls 3 (.int 0)
    generalize lset1 ls 3 (.int 0) = ls at l3 l1 l2 l0 ⊢
    refine r_iload_n (q119 (i := 82) rfl) l3 ?_
    refine r_if 174 (q119 (i := 83) rfl) (by decide) (fun _ => ?_) (fun zz => absurd (show (0 : Int32) = 0 from by decide) zz)
    refine r_iload_n (q119 (i := 92) rfl) l1 ?_
    refine r_if 217 (q119 (i := 93) rfl) (by decide) (fun zz => absurd zz (show ¬ ((1 : Int32) = 0) from by decide)) (fun _ => ?_)
    refine r_iload_n (q119 (i := 94) rfl) l2 ?_
    refine r_iconst (v := 4) (q119 (i := 95) rfl) (by decide) ?_
    refine r_icmp 217 (q119 (i := 96) rfl) (by decide) (fun _ => ?_) (fun zz => absurd (show ¬ (3 : Int32) = 4 from by decide) zz)
    exact kk ls l2 l1 l0
set_option maxHeartbeats 2000000 in
set_option maxRecDepth 10000 in
theorem flA_4 {d : Nat} {B : Nat → Int32} {z n : Nat} (hn : n ≤ 12) {h : hp} (S : Sh h) (T : TM h B z) (e1 : hI h 47 1 = nI n) {q : hst} (hq : q.1 = 4) {a : Nat} (ea : hI h 47 27 = nI a) (ha : a ≤ z) (D : HDM h q a) (ft : FTM h (hft n q)) (g : dg B z a = true) : ∃ h', FTM h' (hft n (qad q (numP B z a).1 a)) ∧ hI h' 47 27 = nI (numP B z a).2 ∧ HDM h' (qad q (numP B z a).1 a) (numP B z a).2 ∧ FrH h h' ∧ ∀ (Q : resP) (bc bs : Nat), (∀ ls : List (Nat × Value), ls.lookup 2 = some (.int 4) → ls.lookup 1 = some (.int 1) → ls.lookup 0 = some (.ref 47) → Wp (Ex (d + 2)) 119 Q 217 ls [] h' bc bs) → ∀ ls : List (Nat × Value), ls.lookup 2 = some (.int 4) → ls.lookup 1 = some (.int 1) → ls.lookup 0 = some (.ref 47) → Wp (Ex (d + 2)) 119 Q 44 ls [] h bc bs := by
  have hz := T.2.2.1
  obtain ⟨n1, n2, n3⟩ := numP_le B z ha
  obtain ⟨hlt, g1, g2⟩ := dg_lt g
  have F1 : FrH h (sI h 1076 4 (nI a)) := FrH.w (by decide) _ _
  obtain ⟨h2, Rn, st, F2⟩ := sp_mnum (d := d) (h := sI h 1076 4 (nI a)) (F1.S S) (F1.T T) (t := hft n q) (FTM.to rfl rfl ft) (a := a) ea ha
  rw [if_pos g] at Rn st
  obtain ⟨eb, ev, ft2⟩ := st
  have hgt : a < (numP B z a).2 := numP_gt g ha
  obtain ⟨v, ew⟩ : ∃ v, v = (numP B z a).1 := ⟨_, rfl⟩
  obtain ⟨b, eq⟩ : ∃ b, b = (numP B z a).2 := ⟨_, rfl⟩
  rw [← ew] at n3 ev ⊢
  rw [← eq] at n1 n2 eb hgt ⊢
  have S2 : Sh h2 := F2.S (F1.S S)
  have F12 := F1.tr F2.H
  have e12 : hI h2 47 1 = nI n := (F12.2.2 1 (by decide)).trans e1
  have eh2 : hI h2 1076 4 = nI a := by
    rw [F2.2.1 1076 (by decide)]
    show u1 (hI h 1076) 4 (nI a) 4 = _
    rw [u1_s]
  have F3 : FrH h (sI h2 1075 4 (nI v)) := F12.tr (FrH.w (by decide) _ _)
  have S3 : Sh (sI h2 1075 4 (nI v)) := S2.to rfl
  have ft3 : FTM (sI h2 1075 4 (nI v)) (hft n q) := FTM.to rfl rfl ft2
  have D3 : HDM (sI h2 1075 4 (nI v)) (qad q v a) b := HDM_ad (h' := sI h2 1075 4 (nI v)) D n3 (by
    show u1 (hI h2 1075) 4 (nI v) = _
    rw [F2.2.1 1075 (by decide), hq]; rfl) (by
    show hI h2 1076 = _
    rw [F2.2.1 1076 (by decide), hq]; rfl) hgt
  have hp : ∀ i, i < q.1 → q.2.2 i < a := fun i hi => (D.1 i hi).2.2.2
  have hs := hft_5 (n := n) (v := v) (a := a) (q := q) hq hp D.2
  obtain ⟨k0, p0, c0, _⟩ := D3.1 0 (by show 0 < q.1 + 1; omega)
  obtain ⟨k1, _, c1, _⟩ := D3.1 1 (by show 1 < q.1 + 1; omega)
  obtain ⟨k4, _, _, _⟩ := D3.1 4 (by show 4 < q.1 + 1; omega)
  have u0 : (qad q v a).2.1 0 = q.2.1 0 := u1_n (by omega)
  have u1' : (qad q v a).2.1 1 = q.2.1 1 := u1_n (by omega)
  have u4 : (qad q v a).2.1 4 = v := by show u1 q.2.1 q.1 v 4 = v; rw [hq, u1_s]
  have w0 : (qad q v a).2.2 0 = q.2.2 0 := u1_n (by omega)
  rw [u0] at k0 c0
  rw [u1'] at k1 c1
  rw [u4] at k4
  rw [w0] at p0
  have hp0 := hp 0 (by omega)
  by_cases bad : 119 < v
  · rw [if_pos bad] at hs
    obtain ⟨h4, R4, ft4, F4, x1, x2⟩ := sp_fails (d := d + 1) S3 ft3 (f := 2) (p := a) (by decide) (by omega)
    have S4 := F4.S S3
    by_cases mia : q.2.1 0 < q.2.1 1 + v
    · rw [if_pos mia] at hs
      obtain ⟨h5, R5, ft5, F5, x3, x4⟩ := sp_fails (d := d + 1) S4 ft4 (f := 2) (p := q.2.2 0) (by decide) (by omega)
      have S5 := F5.S S4
      refine ⟨h5, by rw [hs]; exact ft5, (x3.trans x1).trans eb, ⟨fun i hi => by rw [F5.2.1 1075 (by decide), F5.2.1 1076 (by decide), F4.2.1 1075 (by decide), F4.2.1 1076 (by decide)]; exact D3.1 i hi, D3.2⟩, (F3.tr F4.H).tr F5.H, fun Q bc bs kk ls l2 l1 l0 => ?_⟩
      refine r_iload_n (q119 (i := 22) rfl) l2 ?_
      refine r_iconst (v := 5) (q119 (i := 23) rfl) (by decide) ?_
      refine r_icmp 252 (q119 (i := 24) rfl) (by decide) (fun zz => absurd zz (show ¬ (5 ≤ (4 : Int32)) from by decide)) (fun _ => ?_)
      refine r_iload_n (q119 (i := 25) rfl) l1 ?_
      refine r_if 252 (q119 (i := 26) rfl) (by decide) (fun zz => absurd zz (show ¬ ((1 : Int32) = 0) from by decide)) (fun _ => ?_)
      refine r_aload_n (q119 (i := 27) rfl) l0 ?_
      refine r_getR (b := 1076) (q119 (i := 28) rfl) rfl (by decide) (k_47 S) (fun _ _ _ => rfl) (r_47_31 S) ?_
      refine r_iload_n (q119 (i := 29) rfl) l2 ?_
      refine r_aload_n (q119 (i := 30) rfl) l0 ?_
      refine r_getI (x := nI a) (q119 (i := 31) rfl) rfl (by decide) (k_47 S) (fun _ _ _ => rfl) ea ?_
      refine r_iastore (q119 (i := 32) rfl) (k_1076 S) (vp_in_nI (n := 4) (by decide) (by decide)) ?_
      show Wp _ _ _ _ _ _ (sI h 1076 4 (nI a)) _ _
      refine r_aload_n (q119 (i := 33) rfl) l0 ?_
      refine r_cV (d := _) (q119 (i := 34) rfl) rfl rfl rfl (k_47 S) (Nat.le_of_ble_eq_true rfl) (Nat.zero_le _) (Nat.zero_le _) Rn ?_
      show Wp _ _ _ 67 ls [.int 1] h2 _ _
      refine r_istore_n (ls' := lset1 ls 1 (.int 1)) (q119 (i := 35) rfl) (Nat.le_of_ble_eq_true rfl) rfl ?_
      have l2 := lk1 (k := 1) (v := .int 1) l2 (by decide) (Or.inr (by decide))
      have l0 := lk1 (k := 1) (v := .int 1) l0 (by decide) (Or.inl rfl)
      have l1 := lk0 ls 1 (.int 1)
      generalize lset1 ls 1 (.int 1) = ls at l1 l2 l0 ⊢
      refine r_aload_n (q119 (i := 36) rfl) l0 ?_
      refine r_getR (b := 1075) (q119 (i := 37) rfl) rfl (by decide) (k_47 S2) (fun _ _ _ => rfl) (r_47_30 S2) ?_
      refine r_iload_n (q119 (i := 38) rfl) l2 ?_
      refine r_aload_n (q119 (i := 39) rfl) l0 ?_
      refine r_getI (x := nI v) (q119 (i := 40) rfl) rfl (by decide) (k_47 S2) (fun _ _ _ => rfl) ev ?_
      refine r_iastore (q119 (i := 41) rfl) (k_1075 S2) (vp_in_nI (n := 4) (by decide) (by decide)) ?_
      show Wp _ _ _ _ _ _ (sI h2 1075 4 (nI v)) _ _
      refine r_iload_n (q119 (i := 42) rfl) l1 ?_
      refine r_if 156 (q119 (i := 43) rfl) (by decide) (fun zz => absurd zz (show ¬ ((1 : Int32) = 0) from by decide)) (fun _ => ?_)
      refine r_iload_n (q119 (i := 44) rfl) l2 ?_
      refine r_if 96 (q119 (i := 45) rfl) (by decide) (fun _ => ?_) (fun zz => absurd (show ¬ (4 : Int32) = 0 from by decide) zz)
      refine r_iload_n (q119 (i := 50) rfl) l2 ?_
      refine r_iconst (v := 1) (q119 (i := 51) rfl) (by decide) ?_
      refine r_icmp 112 (q119 (i := 52) rfl) (by decide) (fun _ => ?_) (fun zz => absurd (show ¬ (4 : Int32) = 1 from by decide) zz)
      refine r_iload_n (q119 (i := 58) rfl) l2 ?_
      refine r_iconst (v := 2) (q119 (i := 59) rfl) (by decide) ?_
      refine r_icmp 124 (q119 (i := 60) rfl) (by decide) (fun _ => ?_) (fun zz => absurd (show ¬ (4 : Int32) = 2 from by decide) zz)
      refine r_iload_n (q119 (i := 64) rfl) l2 ?_
      refine r_iconst (v := 3) (q119 (i := 65) rfl) (by decide) ?_
      refine r_icmp 138 (q119 (i := 66) rfl) (by decide) (fun _ => ?_) (fun zz => absurd (show ¬ (4 : Int32) = 3 from by decide) zz)
      refine r_iload_n (q119 (i := 71) rfl) l2 ?_
      refine r_iconst (v := 4) (q119 (i := 72) rfl) (by decide) ?_
      refine r_icmp 156 (q119 (i := 73) rfl) (by decide) (fun zz => absurd zz (show ¬ (¬ (4 : Int32) = 4) from by decide)) (fun _ => ?_)
      refine r_aload_n (q119 (i := 74) rfl) l0 ?_
      refine r_getI (x := nI v) (q119 (i := 75) rfl) rfl (by decide) (k_47 S2) (fun _ _ _ => rfl) ev ?_
      refine r_bipush (v := 119) (q119 (i := 76) rfl) (by decide) ?_
      refine r_icmp 156 (q119 (i := 77) rfl) (by decide) (fun zz => absurd zz (show ¬ (nI v ≤ 119) from nI_ge (a := 119) bad (by omega))) (fun _ => ?_)
      refine r_iconst (v := 1) (q119 (i := 78) rfl) (by decide) ?_
      refine r_goto 157 (q119 (i := 79) rfl) (by decide) ?_
      refine r_istore_n (ls' := lset1 ls 3 (.int 1)) (q119 (i := 81) rfl) (Nat.le_of_ble_eq_true rfl) rfl ?_
      have l1 := lk1 (k := 3) (v := .int 1) l1 (by decide) (Or.inr (by decide))
      have l2 := lk1 (k := 3) (v := .int 1) l2 (by decide) (Or.inl rfl)
      have l0 := lk1 (k := 3) (v := .int 1) l0 (by decide) (Or.inr (by decide))
      have l3 := lk0 ls 3 (.int 1)
      generalize lset1 ls 3 (.int 1) = ls at l3 l1 l2 l0 ⊢
      refine r_iload_n (q119 (i := 82) rfl) l3 ?_
      refine r_if 174 (q119 (i := 83) rfl) (by decide) (fun zz => absurd zz (show ¬ ((1 : Int32) = 0) from by decide)) (fun _ => ?_)
      refine r_aload_n (q119 (i := 84) rfl) l0 ?_
      refine r_iconst (v := 2) (q119 (i := 85) rfl) (by decide) ?_
      refine r_aload_n (q119 (i := 86) rfl) l0 ?_
      refine r_getR (b := 1076) (q119 (i := 87) rfl) rfl (by decide) (k_47 S2) (fun _ _ _ => rfl) (r_47_31 S2) ?_
      refine r_iload_n (q119 (i := 88) rfl) l2 ?_
      refine r_iaload (x := nI a) (q119 (i := 89) rfl) (k_1076 S2) (vp_in_nI (n := 4) (by decide) (by decide)) eh2 ?_
      refine r_cV (d := _) (q119 (i := 90) rfl) rfl rfl rfl (k_47 S2) (Nat.le_of_ble_eq_true rfl) (Nat.zero_le _) (Nat.zero_le _) R4 ?_
      show Wp _ _ _ 173 ls [.int 0] h4 _ _
      refine r_pop (q119 (i := 91) rfl) rfl ?_
      refine r_iload_n (q119 (i := 92) rfl) l1 ?_
      refine r_if 217 (q119 (i := 93) rfl) (by decide) (fun zz => absurd zz (show ¬ ((1 : Int32) = 0) from by decide)) (fun _ => ?_)
      refine r_iload_n (q119 (i := 94) rfl) l2 ?_
      refine r_iconst (v := 4) (q119 (i := 95) rfl) (by decide) ?_
      refine r_icmp 217 (q119 (i := 96) rfl) (by decide) (fun zz => absurd zz (show ¬ (¬ (4 : Int32) = 4) from by decide)) (fun _ => ?_)
      refine r_aload_n (q119 (i := 97) rfl) l0 ?_
      refine r_getR (b := 1075) (q119 (i := 98) rfl) rfl (by decide) (k_47 S4) (fun _ _ _ => rfl) (r_47_30 S4) ?_
      refine r_iconst (v := 0) (q119 (i := 99) rfl) (by decide) ?_
      refine r_iaload (x := nI (q.2.1 0)) (q119 (i := 100) rfl) (k_1075 S4) (vp_in_nI (n := 0) (by decide) (by decide)) ((congrFun (F4.2.1 1075 (by decide)) 0).trans k0) ?_
      refine r_aload_n (q119 (i := 101) rfl) l0 ?_
      refine r_getR (b := 1075) (q119 (i := 102) rfl) rfl (by decide) (k_47 S4) (fun _ _ _ => rfl) (r_47_30 S4) ?_
      refine r_iconst (v := 1) (q119 (i := 103) rfl) (by decide) ?_
      refine r_iaload (x := nI (q.2.1 1)) (q119 (i := 104) rfl) (k_1075 S4) (vp_in_nI (n := 1) (by decide) (by decide)) ((congrFun (F4.2.1 1075 (by decide)) 1).trans k1) ?_
      refine r_aload_n (q119 (i := 105) rfl) l0 ?_
      refine r_getR (b := 1075) (q119 (i := 106) rfl) rfl (by decide) (k_47 S4) (fun _ _ _ => rfl) (r_47_30 S4) ?_
      refine r_iconst (v := 4) (q119 (i := 107) rfl) (by decide) ?_
      refine r_iaload (x := nI v) (q119 (i := 108) rfl) (k_1075 S4) (vp_in_nI (n := 4) (by decide) (by decide)) ((congrFun (F4.2.1 1075 (by decide)) 4).trans k4) ?_
      refine r_iadd (q119 (i := 109) rfl) ?_
      rw [show ((nI (q.2.1 1)) + (nI v) : Int32) = nI (q.2.1 1 + v) from nI_add _ _]
      refine r_icmp 217 (q119 (i := 110) rfl) (by decide) (fun zz => absurd zz (show ¬ (nI (q.2.1 1 + v) ≤ nI (q.2.1 0)) from nI_ge mia (by omega))) (fun _ => ?_)
      refine r_aload_n (q119 (i := 111) rfl) l0 ?_
      refine r_iconst (v := 2) (q119 (i := 112) rfl) (by decide) ?_
      refine r_aload_n (q119 (i := 113) rfl) l0 ?_
      refine r_getR (b := 1076) (q119 (i := 114) rfl) rfl (by decide) (k_47 S4) (fun _ _ _ => rfl) (r_47_31 S4) ?_
      refine r_iconst (v := 0) (q119 (i := 115) rfl) (by decide) ?_
      refine r_iaload (x := nI (q.2.2 0)) (q119 (i := 116) rfl) (k_1076 S4) (vp_in_nI (n := 0) (by decide) (by decide)) ((congrFun (F4.2.1 1076 (by decide)) 0).trans p0) ?_
      refine r_cV (d := _) (q119 (i := 117) rfl) rfl rfl rfl (k_47 S4) (Nat.le_of_ble_eq_true rfl) (Nat.zero_le _) (Nat.zero_le _) R5 ?_
      show Wp _ _ _ 216 ls [.int 0] h5 _ _
      refine r_pop (q119 (i := 118) rfl) rfl ?_
      exact kk ls l2 l1 l0
    · rw [if_neg mia] at hs
      refine ⟨h4, by rw [hs]; exact ft4, x1.trans eb, ⟨fun i hi => by rw [F4.2.1 1075 (by decide), F4.2.1 1076 (by decide)]; exact D3.1 i hi, D3.2⟩, F3.tr F4.H, fun Q bc bs kk ls l2 l1 l0 => ?_⟩
      refine r_iload_n (q119 (i := 22) rfl) l2 ?_
      refine r_iconst (v := 5) (q119 (i := 23) rfl) (by decide) ?_
      refine r_icmp 252 (q119 (i := 24) rfl) (by decide) (fun zz => absurd zz (show ¬ (5 ≤ (4 : Int32)) from by decide)) (fun _ => ?_)
      refine r_iload_n (q119 (i := 25) rfl) l1 ?_
      refine r_if 252 (q119 (i := 26) rfl) (by decide) (fun zz => absurd zz (show ¬ ((1 : Int32) = 0) from by decide)) (fun _ => ?_)
      refine r_aload_n (q119 (i := 27) rfl) l0 ?_
      refine r_getR (b := 1076) (q119 (i := 28) rfl) rfl (by decide) (k_47 S) (fun _ _ _ => rfl) (r_47_31 S) ?_
      refine r_iload_n (q119 (i := 29) rfl) l2 ?_
      refine r_aload_n (q119 (i := 30) rfl) l0 ?_
      refine r_getI (x := nI a) (q119 (i := 31) rfl) rfl (by decide) (k_47 S) (fun _ _ _ => rfl) ea ?_
      refine r_iastore (q119 (i := 32) rfl) (k_1076 S) (vp_in_nI (n := 4) (by decide) (by decide)) ?_
      show Wp _ _ _ _ _ _ (sI h 1076 4 (nI a)) _ _
      refine r_aload_n (q119 (i := 33) rfl) l0 ?_
      refine r_cV (d := _) (q119 (i := 34) rfl) rfl rfl rfl (k_47 S) (Nat.le_of_ble_eq_true rfl) (Nat.zero_le _) (Nat.zero_le _) Rn ?_
      show Wp _ _ _ 67 ls [.int 1] h2 _ _
      refine r_istore_n (ls' := lset1 ls 1 (.int 1)) (q119 (i := 35) rfl) (Nat.le_of_ble_eq_true rfl) rfl ?_
      have l2 := lk1 (k := 1) (v := .int 1) l2 (by decide) (Or.inr (by decide))
      have l0 := lk1 (k := 1) (v := .int 1) l0 (by decide) (Or.inl rfl)
      have l1 := lk0 ls 1 (.int 1)
      generalize lset1 ls 1 (.int 1) = ls at l1 l2 l0 ⊢
      refine r_aload_n (q119 (i := 36) rfl) l0 ?_
      refine r_getR (b := 1075) (q119 (i := 37) rfl) rfl (by decide) (k_47 S2) (fun _ _ _ => rfl) (r_47_30 S2) ?_
      refine r_iload_n (q119 (i := 38) rfl) l2 ?_
      refine r_aload_n (q119 (i := 39) rfl) l0 ?_
      refine r_getI (x := nI v) (q119 (i := 40) rfl) rfl (by decide) (k_47 S2) (fun _ _ _ => rfl) ev ?_
      refine r_iastore (q119 (i := 41) rfl) (k_1075 S2) (vp_in_nI (n := 4) (by decide) (by decide)) ?_
      show Wp _ _ _ _ _ _ (sI h2 1075 4 (nI v)) _ _
      refine r_iload_n (q119 (i := 42) rfl) l1 ?_
      refine r_if 156 (q119 (i := 43) rfl) (by decide) (fun zz => absurd zz (show ¬ ((1 : Int32) = 0) from by decide)) (fun _ => ?_)
      refine r_iload_n (q119 (i := 44) rfl) l2 ?_
      refine r_if 96 (q119 (i := 45) rfl) (by decide) (fun _ => ?_) (fun zz => absurd (show ¬ (4 : Int32) = 0 from by decide) zz)
      refine r_iload_n (q119 (i := 50) rfl) l2 ?_
      refine r_iconst (v := 1) (q119 (i := 51) rfl) (by decide) ?_
      refine r_icmp 112 (q119 (i := 52) rfl) (by decide) (fun _ => ?_) (fun zz => absurd (show ¬ (4 : Int32) = 1 from by decide) zz)
      refine r_iload_n (q119 (i := 58) rfl) l2 ?_
      refine r_iconst (v := 2) (q119 (i := 59) rfl) (by decide) ?_
      refine r_icmp 124 (q119 (i := 60) rfl) (by decide) (fun _ => ?_) (fun zz => absurd (show ¬ (4 : Int32) = 2 from by decide) zz)
      refine r_iload_n (q119 (i := 64) rfl) l2 ?_
      refine r_iconst (v := 3) (q119 (i := 65) rfl) (by decide) ?_
      refine r_icmp 138 (q119 (i := 66) rfl) (by decide) (fun _ => ?_) (fun zz => absurd (show ¬ (4 : Int32) = 3 from by decide) zz)
      refine r_iload_n (q119 (i := 71) rfl) l2 ?_
      refine r_iconst (v := 4) (q119 (i := 72) rfl) (by decide) ?_
      refine r_icmp 156 (q119 (i := 73) rfl) (by decide) (fun zz => absurd zz (show ¬ (¬ (4 : Int32) = 4) from by decide)) (fun _ => ?_)
      refine r_aload_n (q119 (i := 74) rfl) l0 ?_
      refine r_getI (x := nI v) (q119 (i := 75) rfl) rfl (by decide) (k_47 S2) (fun _ _ _ => rfl) ev ?_
      refine r_bipush (v := 119) (q119 (i := 76) rfl) (by decide) ?_
      refine r_icmp 156 (q119 (i := 77) rfl) (by decide) (fun zz => absurd zz (show ¬ (nI v ≤ 119) from nI_ge (a := 119) bad (by omega))) (fun _ => ?_)
      refine r_iconst (v := 1) (q119 (i := 78) rfl) (by decide) ?_
      refine r_goto 157 (q119 (i := 79) rfl) (by decide) ?_
      refine r_istore_n (ls' := lset1 ls 3 (.int 1)) (q119 (i := 81) rfl) (Nat.le_of_ble_eq_true rfl) rfl ?_
      have l1 := lk1 (k := 3) (v := .int 1) l1 (by decide) (Or.inr (by decide))
      have l2 := lk1 (k := 3) (v := .int 1) l2 (by decide) (Or.inl rfl)
      have l0 := lk1 (k := 3) (v := .int 1) l0 (by decide) (Or.inr (by decide))
      have l3 := lk0 ls 3 (.int 1)
      generalize lset1 ls 3 (.int 1) = ls at l3 l1 l2 l0 ⊢
      refine r_iload_n (q119 (i := 82) rfl) l3 ?_
      refine r_if 174 (q119 (i := 83) rfl) (by decide) (fun zz => absurd zz (show ¬ ((1 : Int32) = 0) from by decide)) (fun _ => ?_)
      refine r_aload_n (q119 (i := 84) rfl) l0 ?_
      refine r_iconst (v := 2) (q119 (i := 85) rfl) (by decide) ?_
      refine r_aload_n (q119 (i := 86) rfl) l0 ?_
      refine r_getR (b := 1076) (q119 (i := 87) rfl) rfl (by decide) (k_47 S2) (fun _ _ _ => rfl) (r_47_31 S2) ?_
      refine r_iload_n (q119 (i := 88) rfl) l2 ?_
      refine r_iaload (x := nI a) (q119 (i := 89) rfl) (k_1076 S2) (vp_in_nI (n := 4) (by decide) (by decide)) eh2 ?_
      refine r_cV (d := _) (q119 (i := 90) rfl) rfl rfl rfl (k_47 S2) (Nat.le_of_ble_eq_true rfl) (Nat.zero_le _) (Nat.zero_le _) R4 ?_
      show Wp _ _ _ 173 ls [.int 0] h4 _ _
      refine r_pop (q119 (i := 91) rfl) rfl ?_
      refine r_iload_n (q119 (i := 92) rfl) l1 ?_
      refine r_if 217 (q119 (i := 93) rfl) (by decide) (fun zz => absurd zz (show ¬ ((1 : Int32) = 0) from by decide)) (fun _ => ?_)
      refine r_iload_n (q119 (i := 94) rfl) l2 ?_
      refine r_iconst (v := 4) (q119 (i := 95) rfl) (by decide) ?_
      refine r_icmp 217 (q119 (i := 96) rfl) (by decide) (fun zz => absurd zz (show ¬ (¬ (4 : Int32) = 4) from by decide)) (fun _ => ?_)
      refine r_aload_n (q119 (i := 97) rfl) l0 ?_
      refine r_getR (b := 1075) (q119 (i := 98) rfl) rfl (by decide) (k_47 S4) (fun _ _ _ => rfl) (r_47_30 S4) ?_
      refine r_iconst (v := 0) (q119 (i := 99) rfl) (by decide) ?_
      refine r_iaload (x := nI (q.2.1 0)) (q119 (i := 100) rfl) (k_1075 S4) (vp_in_nI (n := 0) (by decide) (by decide)) ((congrFun (F4.2.1 1075 (by decide)) 0).trans k0) ?_
      refine r_aload_n (q119 (i := 101) rfl) l0 ?_
      refine r_getR (b := 1075) (q119 (i := 102) rfl) rfl (by decide) (k_47 S4) (fun _ _ _ => rfl) (r_47_30 S4) ?_
      refine r_iconst (v := 1) (q119 (i := 103) rfl) (by decide) ?_
      refine r_iaload (x := nI (q.2.1 1)) (q119 (i := 104) rfl) (k_1075 S4) (vp_in_nI (n := 1) (by decide) (by decide)) ((congrFun (F4.2.1 1075 (by decide)) 1).trans k1) ?_
      refine r_aload_n (q119 (i := 105) rfl) l0 ?_
      refine r_getR (b := 1075) (q119 (i := 106) rfl) rfl (by decide) (k_47 S4) (fun _ _ _ => rfl) (r_47_30 S4) ?_
      refine r_iconst (v := 4) (q119 (i := 107) rfl) (by decide) ?_
      refine r_iaload (x := nI v) (q119 (i := 108) rfl) (k_1075 S4) (vp_in_nI (n := 4) (by decide) (by decide)) ((congrFun (F4.2.1 1075 (by decide)) 4).trans k4) ?_
      refine r_iadd (q119 (i := 109) rfl) ?_
      rw [show ((nI (q.2.1 1)) + (nI v) : Int32) = nI (q.2.1 1 + v) from nI_add _ _]
      refine r_icmp 217 (q119 (i := 110) rfl) (by decide) (fun _ => ?_) (fun zz => absurd (show nI (q.2.1 1 + v) ≤ nI (q.2.1 0) from nI_le (by omega) (by omega)) zz)
      exact kk ls l2 l1 l0
  · rw [if_neg bad] at hs
    by_cases mia : q.2.1 0 < q.2.1 1 + v
    · rw [if_pos mia] at hs
      obtain ⟨h5, R5, ft5, F5, x3, x4⟩ := sp_fails (d := d + 1) S3 ft3 (f := 2) (p := q.2.2 0) (by decide) (by omega)
      have S5 := F5.S S3
      refine ⟨h5, by rw [hs]; exact ft5, x3.trans eb, ⟨fun i hi => by rw [F5.2.1 1075 (by decide), F5.2.1 1076 (by decide)]; exact D3.1 i hi, D3.2⟩, F3.tr F5.H, fun Q bc bs kk ls l2 l1 l0 => ?_⟩
      refine r_iload_n (q119 (i := 22) rfl) l2 ?_
      refine r_iconst (v := 5) (q119 (i := 23) rfl) (by decide) ?_
      refine r_icmp 252 (q119 (i := 24) rfl) (by decide) (fun zz => absurd zz (show ¬ (5 ≤ (4 : Int32)) from by decide)) (fun _ => ?_)
      refine r_iload_n (q119 (i := 25) rfl) l1 ?_
      refine r_if 252 (q119 (i := 26) rfl) (by decide) (fun zz => absurd zz (show ¬ ((1 : Int32) = 0) from by decide)) (fun _ => ?_)
      refine r_aload_n (q119 (i := 27) rfl) l0 ?_
      refine r_getR (b := 1076) (q119 (i := 28) rfl) rfl (by decide) (k_47 S) (fun _ _ _ => rfl) (r_47_31 S) ?_
      refine r_iload_n (q119 (i := 29) rfl) l2 ?_
      refine r_aload_n (q119 (i := 30) rfl) l0 ?_
      refine r_getI (x := nI a) (q119 (i := 31) rfl) rfl (by decide) (k_47 S) (fun _ _ _ => rfl) ea ?_
      refine r_iastore (q119 (i := 32) rfl) (k_1076 S) (vp_in_nI (n := 4) (by decide) (by decide)) ?_
      show Wp _ _ _ _ _ _ (sI h 1076 4 (nI a)) _ _
      refine r_aload_n (q119 (i := 33) rfl) l0 ?_
      refine r_cV (d := _) (q119 (i := 34) rfl) rfl rfl rfl (k_47 S) (Nat.le_of_ble_eq_true rfl) (Nat.zero_le _) (Nat.zero_le _) Rn ?_
      show Wp _ _ _ 67 ls [.int 1] h2 _ _
      refine r_istore_n (ls' := lset1 ls 1 (.int 1)) (q119 (i := 35) rfl) (Nat.le_of_ble_eq_true rfl) rfl ?_
      have l2 := lk1 (k := 1) (v := .int 1) l2 (by decide) (Or.inr (by decide))
      have l0 := lk1 (k := 1) (v := .int 1) l0 (by decide) (Or.inl rfl)
      have l1 := lk0 ls 1 (.int 1)
      generalize lset1 ls 1 (.int 1) = ls at l1 l2 l0 ⊢
      refine r_aload_n (q119 (i := 36) rfl) l0 ?_
      refine r_getR (b := 1075) (q119 (i := 37) rfl) rfl (by decide) (k_47 S2) (fun _ _ _ => rfl) (r_47_30 S2) ?_
      refine r_iload_n (q119 (i := 38) rfl) l2 ?_
      refine r_aload_n (q119 (i := 39) rfl) l0 ?_
      refine r_getI (x := nI v) (q119 (i := 40) rfl) rfl (by decide) (k_47 S2) (fun _ _ _ => rfl) ev ?_
      refine r_iastore (q119 (i := 41) rfl) (k_1075 S2) (vp_in_nI (n := 4) (by decide) (by decide)) ?_
      show Wp _ _ _ _ _ _ (sI h2 1075 4 (nI v)) _ _
      refine r_iload_n (q119 (i := 42) rfl) l1 ?_
      refine r_if 156 (q119 (i := 43) rfl) (by decide) (fun zz => absurd zz (show ¬ ((1 : Int32) = 0) from by decide)) (fun _ => ?_)
      refine r_iload_n (q119 (i := 44) rfl) l2 ?_
      refine r_if 96 (q119 (i := 45) rfl) (by decide) (fun _ => ?_) (fun zz => absurd (show ¬ (4 : Int32) = 0 from by decide) zz)
      refine r_iload_n (q119 (i := 50) rfl) l2 ?_
      refine r_iconst (v := 1) (q119 (i := 51) rfl) (by decide) ?_
      refine r_icmp 112 (q119 (i := 52) rfl) (by decide) (fun _ => ?_) (fun zz => absurd (show ¬ (4 : Int32) = 1 from by decide) zz)
      refine r_iload_n (q119 (i := 58) rfl) l2 ?_
      refine r_iconst (v := 2) (q119 (i := 59) rfl) (by decide) ?_
      refine r_icmp 124 (q119 (i := 60) rfl) (by decide) (fun _ => ?_) (fun zz => absurd (show ¬ (4 : Int32) = 2 from by decide) zz)
      refine r_iload_n (q119 (i := 64) rfl) l2 ?_
      refine r_iconst (v := 3) (q119 (i := 65) rfl) (by decide) ?_
      refine r_icmp 138 (q119 (i := 66) rfl) (by decide) (fun _ => ?_) (fun zz => absurd (show ¬ (4 : Int32) = 3 from by decide) zz)
      refine r_iload_n (q119 (i := 71) rfl) l2 ?_
      refine r_iconst (v := 4) (q119 (i := 72) rfl) (by decide) ?_
      refine r_icmp 156 (q119 (i := 73) rfl) (by decide) (fun zz => absurd zz (show ¬ (¬ (4 : Int32) = 4) from by decide)) (fun _ => ?_)
      refine r_aload_n (q119 (i := 74) rfl) l0 ?_
      refine r_getI (x := nI v) (q119 (i := 75) rfl) rfl (by decide) (k_47 S2) (fun _ _ _ => rfl) ev ?_
      refine r_bipush (v := 119) (q119 (i := 76) rfl) (by decide) ?_
      refine r_icmp 156 (q119 (i := 77) rfl) (by decide) (fun _ => ?_) (fun zz => absurd (show nI v ≤ 119 from nI_le (b := 119) (by omega) (by decide)) zz)
      refine r_iconst (v := 0) (q119 (i := 80) rfl) (by decide) ?_
      refine r_istore_n (ls' := lset1 ls 3 (.int 0)) (q119 (i := 81) rfl) (Nat.le_of_ble_eq_true rfl) rfl ?_
      have l1 := lk1 (k := 3) (v := .int 0) l1 (by decide) (Or.inr (by decide))
      have l2 := lk1 (k := 3) (v := .int 0) l2 (by decide) (Or.inl rfl)
      have l0 := lk1 (k := 3) (v := .int 0) l0 (by decide) (Or.inr (by decide))
      have l3 := lk0 ls 3 (.int 0)
      generalize lset1 ls 3 (.int 0) = ls at l3 l1 l2 l0 ⊢
      refine r_iload_n (q119 (i := 82) rfl) l3 ?_
      refine r_if 174 (q119 (i := 83) rfl) (by decide) (fun _ => ?_) (fun zz => absurd (show (0 : Int32) = 0 from by decide) zz)
      refine r_iload_n (q119 (i := 92) rfl) l1 ?_
      refine r_if 217 (q119 (i := 93) rfl) (by decide) (fun zz => absurd zz (show ¬ ((1 : Int32) = 0) from by decide)) (fun _ => ?_)
      refine r_iload_n (q119 (i := 94) rfl) l2 ?_
      refine r_iconst (v := 4) (q119 (i := 95) rfl) (by decide) ?_
      refine r_icmp 217 (q119 (i := 96) rfl) (by decide) (fun zz => absurd zz (show ¬ (¬ (4 : Int32) = 4) from by decide)) (fun _ => ?_)
      refine r_aload_n (q119 (i := 97) rfl) l0 ?_
      refine r_getR (b := 1075) (q119 (i := 98) rfl) rfl (by decide) (k_47 S2) (fun _ _ _ => rfl) (r_47_30 S2) ?_
      refine r_iconst (v := 0) (q119 (i := 99) rfl) (by decide) ?_
      refine r_iaload (x := nI (q.2.1 0)) (q119 (i := 100) rfl) (k_1075 S2) (vp_in_nI (n := 0) (by decide) (by decide)) k0 ?_
      refine r_aload_n (q119 (i := 101) rfl) l0 ?_
      refine r_getR (b := 1075) (q119 (i := 102) rfl) rfl (by decide) (k_47 S2) (fun _ _ _ => rfl) (r_47_30 S2) ?_
      refine r_iconst (v := 1) (q119 (i := 103) rfl) (by decide) ?_
      refine r_iaload (x := nI (q.2.1 1)) (q119 (i := 104) rfl) (k_1075 S2) (vp_in_nI (n := 1) (by decide) (by decide)) k1 ?_
      refine r_aload_n (q119 (i := 105) rfl) l0 ?_
      refine r_getR (b := 1075) (q119 (i := 106) rfl) rfl (by decide) (k_47 S2) (fun _ _ _ => rfl) (r_47_30 S2) ?_
      refine r_iconst (v := 4) (q119 (i := 107) rfl) (by decide) ?_
      refine r_iaload (x := nI v) (q119 (i := 108) rfl) (k_1075 S2) (vp_in_nI (n := 4) (by decide) (by decide)) k4 ?_
      refine r_iadd (q119 (i := 109) rfl) ?_
      rw [show ((nI (q.2.1 1)) + (nI v) : Int32) = nI (q.2.1 1 + v) from nI_add _ _]
      refine r_icmp 217 (q119 (i := 110) rfl) (by decide) (fun zz => absurd zz (show ¬ (nI (q.2.1 1 + v) ≤ nI (q.2.1 0)) from nI_ge mia (by omega))) (fun _ => ?_)
      refine r_aload_n (q119 (i := 111) rfl) l0 ?_
      refine r_iconst (v := 2) (q119 (i := 112) rfl) (by decide) ?_
      refine r_aload_n (q119 (i := 113) rfl) l0 ?_
      refine r_getR (b := 1076) (q119 (i := 114) rfl) rfl (by decide) (k_47 S2) (fun _ _ _ => rfl) (r_47_31 S2) ?_
      refine r_iconst (v := 0) (q119 (i := 115) rfl) (by decide) ?_
      refine r_iaload (x := nI (q.2.2 0)) (q119 (i := 116) rfl) (k_1076 S2) (vp_in_nI (n := 0) (by decide) (by decide)) p0 ?_
      refine r_cV (d := _) (q119 (i := 117) rfl) rfl rfl rfl (k_47 S2) (Nat.le_of_ble_eq_true rfl) (Nat.zero_le _) (Nat.zero_le _) R5 ?_
      show Wp _ _ _ 216 ls [.int 0] h5 _ _
      refine r_pop (q119 (i := 118) rfl) rfl ?_
      exact kk ls l2 l1 l0
    · rw [if_neg mia] at hs
      refine ⟨sI h2 1075 4 (nI v), by rw [hs]; exact ft3, eb, D3, F3, fun Q bc bs kk ls l2 l1 l0 => ?_⟩
      refine r_iload_n (q119 (i := 22) rfl) l2 ?_
      refine r_iconst (v := 5) (q119 (i := 23) rfl) (by decide) ?_
      refine r_icmp 252 (q119 (i := 24) rfl) (by decide) (fun zz => absurd zz (show ¬ (5 ≤ (4 : Int32)) from by decide)) (fun _ => ?_)
      refine r_iload_n (q119 (i := 25) rfl) l1 ?_
      refine r_if 252 (q119 (i := 26) rfl) (by decide) (fun zz => absurd zz (show ¬ ((1 : Int32) = 0) from by decide)) (fun _ => ?_)
      refine r_aload_n (q119 (i := 27) rfl) l0 ?_
      refine r_getR (b := 1076) (q119 (i := 28) rfl) rfl (by decide) (k_47 S) (fun _ _ _ => rfl) (r_47_31 S) ?_
      refine r_iload_n (q119 (i := 29) rfl) l2 ?_
      refine r_aload_n (q119 (i := 30) rfl) l0 ?_
      refine r_getI (x := nI a) (q119 (i := 31) rfl) rfl (by decide) (k_47 S) (fun _ _ _ => rfl) ea ?_
      refine r_iastore (q119 (i := 32) rfl) (k_1076 S) (vp_in_nI (n := 4) (by decide) (by decide)) ?_
      show Wp _ _ _ _ _ _ (sI h 1076 4 (nI a)) _ _
      refine r_aload_n (q119 (i := 33) rfl) l0 ?_
      refine r_cV (d := _) (q119 (i := 34) rfl) rfl rfl rfl (k_47 S) (Nat.le_of_ble_eq_true rfl) (Nat.zero_le _) (Nat.zero_le _) Rn ?_
      show Wp _ _ _ 67 ls [.int 1] h2 _ _
      refine r_istore_n (ls' := lset1 ls 1 (.int 1)) (q119 (i := 35) rfl) (Nat.le_of_ble_eq_true rfl) rfl ?_
      have l2 := lk1 (k := 1) (v := .int 1) l2 (by decide) (Or.inr (by decide))
      have l0 := lk1 (k := 1) (v := .int 1) l0 (by decide) (Or.inl rfl)
      have l1 := lk0 ls 1 (.int 1)
      generalize lset1 ls 1 (.int 1) = ls at l1 l2 l0 ⊢
      refine r_aload_n (q119 (i := 36) rfl) l0 ?_
      refine r_getR (b := 1075) (q119 (i := 37) rfl) rfl (by decide) (k_47 S2) (fun _ _ _ => rfl) (r_47_30 S2) ?_
      refine r_iload_n (q119 (i := 38) rfl) l2 ?_
      refine r_aload_n (q119 (i := 39) rfl) l0 ?_
      refine r_getI (x := nI v) (q119 (i := 40) rfl) rfl (by decide) (k_47 S2) (fun _ _ _ => rfl) ev ?_
      refine r_iastore (q119 (i := 41) rfl) (k_1075 S2) (vp_in_nI (n := 4) (by decide) (by decide)) ?_
      show Wp _ _ _ _ _ _ (sI h2 1075 4 (nI v)) _ _
      refine r_iload_n (q119 (i := 42) rfl) l1 ?_
      refine r_if 156 (q119 (i := 43) rfl) (by decide) (fun zz => absurd zz (show ¬ ((1 : Int32) = 0) from by decide)) (fun _ => ?_)
      refine r_iload_n (q119 (i := 44) rfl) l2 ?_
      refine r_if 96 (q119 (i := 45) rfl) (by decide) (fun _ => ?_) (fun zz => absurd (show ¬ (4 : Int32) = 0 from by decide) zz)
      refine r_iload_n (q119 (i := 50) rfl) l2 ?_
      refine r_iconst (v := 1) (q119 (i := 51) rfl) (by decide) ?_
      refine r_icmp 112 (q119 (i := 52) rfl) (by decide) (fun _ => ?_) (fun zz => absurd (show ¬ (4 : Int32) = 1 from by decide) zz)
      refine r_iload_n (q119 (i := 58) rfl) l2 ?_
      refine r_iconst (v := 2) (q119 (i := 59) rfl) (by decide) ?_
      refine r_icmp 124 (q119 (i := 60) rfl) (by decide) (fun _ => ?_) (fun zz => absurd (show ¬ (4 : Int32) = 2 from by decide) zz)
      refine r_iload_n (q119 (i := 64) rfl) l2 ?_
      refine r_iconst (v := 3) (q119 (i := 65) rfl) (by decide) ?_
      refine r_icmp 138 (q119 (i := 66) rfl) (by decide) (fun _ => ?_) (fun zz => absurd (show ¬ (4 : Int32) = 3 from by decide) zz)
      refine r_iload_n (q119 (i := 71) rfl) l2 ?_
      refine r_iconst (v := 4) (q119 (i := 72) rfl) (by decide) ?_
      refine r_icmp 156 (q119 (i := 73) rfl) (by decide) (fun zz => absurd zz (show ¬ (¬ (4 : Int32) = 4) from by decide)) (fun _ => ?_)
      refine r_aload_n (q119 (i := 74) rfl) l0 ?_
      refine r_getI (x := nI v) (q119 (i := 75) rfl) rfl (by decide) (k_47 S2) (fun _ _ _ => rfl) ev ?_
      refine r_bipush (v := 119) (q119 (i := 76) rfl) (by decide) ?_
      refine r_icmp 156 (q119 (i := 77) rfl) (by decide) (fun _ => ?_) (fun zz => absurd (show nI v ≤ 119 from nI_le (b := 119) (by omega) (by decide)) zz)
      refine r_iconst (v := 0) (q119 (i := 80) rfl) (by decide) ?_
      refine r_istore_n (ls' := lset1 ls 3 (.int 0)) (q119 (i := 81) rfl) (Nat.le_of_ble_eq_true rfl) rfl ?_
      have l1 := lk1 (k := 3) (v := .int 0) l1 (by decide) (Or.inr (by decide))
      have l2 := lk1 (k := 3) (v := .int 0) l2 (by decide) (Or.inl rfl)
      have l0 := lk1 (k := 3) (v := .int 0) l0 (by decide) (Or.inr (by decide))
      have l3 := lk0 ls 3 (.int 0)
      generalize lset1 ls 3 (.int 0) = ls at l3 l1 l2 l0 ⊢
      refine r_iload_n (q119 (i := 82) rfl) l3 ?_
      refine r_if 174 (q119 (i := 83) rfl) (by decide) (fun _ => ?_) (fun zz => absurd (show (0 : Int32) = 0 from by decide) zz)
      refine r_iload_n (q119 (i := 92) rfl) l1 ?_
      refine r_if 217 (q119 (i := 93) rfl) (by decide) (fun zz => absurd zz (show ¬ ((1 : Int32) = 0) from by decide)) (fun _ => ?_)
      refine r_iload_n (q119 (i := 94) rfl) l2 ?_
      refine r_iconst (v := 4) (q119 (i := 95) rfl) (by decide) ?_
      refine r_icmp 217 (q119 (i := 96) rfl) (by decide) (fun zz => absurd zz (show ¬ (¬ (4 : Int32) = 4) from by decide)) (fun _ => ?_)
      refine r_aload_n (q119 (i := 97) rfl) l0 ?_
      refine r_getR (b := 1075) (q119 (i := 98) rfl) rfl (by decide) (k_47 S2) (fun _ _ _ => rfl) (r_47_30 S2) ?_
      refine r_iconst (v := 0) (q119 (i := 99) rfl) (by decide) ?_
      refine r_iaload (x := nI (q.2.1 0)) (q119 (i := 100) rfl) (k_1075 S2) (vp_in_nI (n := 0) (by decide) (by decide)) k0 ?_
      refine r_aload_n (q119 (i := 101) rfl) l0 ?_
      refine r_getR (b := 1075) (q119 (i := 102) rfl) rfl (by decide) (k_47 S2) (fun _ _ _ => rfl) (r_47_30 S2) ?_
      refine r_iconst (v := 1) (q119 (i := 103) rfl) (by decide) ?_
      refine r_iaload (x := nI (q.2.1 1)) (q119 (i := 104) rfl) (k_1075 S2) (vp_in_nI (n := 1) (by decide) (by decide)) k1 ?_
      refine r_aload_n (q119 (i := 105) rfl) l0 ?_
      refine r_getR (b := 1075) (q119 (i := 106) rfl) rfl (by decide) (k_47 S2) (fun _ _ _ => rfl) (r_47_30 S2) ?_
      refine r_iconst (v := 4) (q119 (i := 107) rfl) (by decide) ?_
      refine r_iaload (x := nI v) (q119 (i := 108) rfl) (k_1075 S2) (vp_in_nI (n := 4) (by decide) (by decide)) k4 ?_
      refine r_iadd (q119 (i := 109) rfl) ?_
      rw [show ((nI (q.2.1 1)) + (nI v) : Int32) = nI (q.2.1 1 + v) from nI_add _ _]
      refine r_icmp 217 (q119 (i := 110) rfl) (by decide) (fun _ => ?_) (fun zz => absurd (show nI (q.2.1 1 + v) ≤ nI (q.2.1 0) from nI_le (by omega) (by omega)) zz)
      exact kk ls l2 l1 l0
set_option maxHeartbeats 2000000 in
set_option maxRecDepth 10000 in
theorem fl_4 {d : Nat} {B : Nat → Int32} {z n : Nat} (hn : n ≤ 12) {h : hp} (S : Sh h) (T : TM h B z) (e1 : hI h 47 1 = nI n) {q : hst} (hq : q.1 = 4) {a : Nat} (ea : hI h 47 27 = nI (a + 1)) (ha : a + 1 ≤ z) (hc : cb B z a = 32) (D : HDM h q (a + 1)) (ft : FTM h (hft n q)) : ∃ h', HE h' z (FhT B z n (hdR B z 1 a q)) ∧ FrH h h' ∧ ∀ (Q : resP) (bc bs : Nat), (∀ ls : List (Nat × Value), ls.lookup 0 = some (.ref 47) → Wp (Ex (d + 2)) 119 Q 252 ls [] h' bc bs) → ∀ ls : List (Nat × Value), ls.lookup 2 = some (.int 4) → ls.lookup 1 = some (.int 1) → ls.lookup 0 = some (.ref 47) → Wp (Ex (d + 2)) 119 Q 44 ls [] h bc bs := by
  have hz := T.2.2.1
  have hp : ∀ i, i < q.1 → q.2.2 i < a + 1 := fun i hi => (D.1 i hi).2.2.2
  by_cases g : dg B z (a + 1) = true
  · obtain ⟨h4, ft4, eb, D4, F4, K4⟩ := flA_4 (d := d) hn S T e1 hq ea ha D ft g
    obtain ⟨n1, n2, n3⟩ := numP_le B z ha
    have S4 := F4.S S
    have T4 := F4.T T
    have er : hdR B z 1 a q = hdR B z 0 (numP B z (a + 1)).2 (qad q (numP B z (a + 1)).1 (a + 1)) := by
      show (if cb B z a = 32 then (if dg B z (a + 1) then _ else _) else _) = _
      rw [if_pos hc, if_pos g]; rfl
    rw [er]
    obtain ⟨b, eq⟩ : ∃ b, b = (numP B z (a + 1)).2 := ⟨_, rfl⟩
    obtain ⟨q', eq'⟩ : ∃ x, x = qad q (numP B z (a + 1)).1 (a + 1) := ⟨_, rfl⟩
    have hq' : q'.1 = 4 + 1 := by rw [eq']; show q.1 + 1 = _; rw [hq]
    rw [← eq'] at ft4 D4 ⊢
    rw [← eq] at eb D4 n1 n2 ⊢
    have hp' : ∀ i, i < q'.1 → q'.2.2 i < b := fun i hi => (D4.1 i hi).2.2.2
    obtain ⟨h5, R5, st5, F5, _⟩ := sp_is (d := d) S4 T4 ft4 eb n2 (c := 10) (by decide)
    have F45 := F4.tr F5.H
    by_cases c5 : cb B z b = 10
    · rw [if_pos c5] at R5 st5
      obtain ⟨ec, hb1, ft5⟩ := st5
      refine ⟨h5, ?_, F45, fun Q bc bs kk ls l2 l1 l0 => K4 Q bc bs (fun ls l2 l1 l0 => ?_) ls l2 l1 l0⟩
      · rw [show hdR B z 0 b q' = (q', .ok b) from rfl]
        unfold FhT
        rcases hft_lt (n := n) hp' (by omega) with ⟨y1, y2⟩ | ⟨p, y1, y2, y3, y4⟩
        · rw [if_neg y2]
          show HE h5 z (if cb B z b = 10 then _ else _)
          rw [if_pos c5]
          rw [y1] at ft5
          exact ⟨ft5, ⟨ec, hb1⟩, fun i hi => by rw [F5.2.1 1075 (by decide)]; exact (D4.1 i (by omega)).1⟩
        · rw [if_pos y3]
          rw [y1, y4] at ft5
          exact ft5
      refine r_iload_n (q119 (i := 119) rfl) l1 ?_
      refine r_if 244 (q119 (i := 120) rfl) (by decide) (fun zz => absurd zz (show ¬ ((1 : Int32) = 0) from by decide)) (fun _ => ?_)
      refine r_aload_n (q119 (i := 121) rfl) l0 ?_
      refine r_iload_n (q119 (i := 122) rfl) l2 ?_
      refine r_iconst (v := 4) (q119 (i := 123) rfl) (by decide) ?_
      refine r_icmp 232 (q119 (i := 124) rfl) (by decide) (fun _ => ?_) (fun zz => absurd (show 4 ≤ (4 : Int32) from by decide) zz)
      refine r_bipush (v := nI 10) (q119 (i := 127) rfl) (by decide) ?_
      refine r_cV (d := _) (q119 (i := 128) rfl) rfl rfl rfl (k_47 S4) (Nat.le_of_ble_eq_true rfl) (Nat.zero_le _) (Nat.zero_le _) R5 ?_
      show Wp _ _ _ 237 ls [.int 1] h5 _ _
      refine r_if 244 (q119 (i := 129) rfl) (by decide) (fun zz => absurd zz (show ¬ ((1 : Int32) = 0) from by decide)) (fun _ => ?_)
      refine r_iconst (v := 1) (q119 (i := 130) rfl) (by decide) ?_
      refine r_goto 245 (q119 (i := 131) rfl) (by decide) ?_
      refine r_istore_n (ls' := lset1 ls 1 (.int 1)) (q119 (i := 133) rfl) (Nat.le_of_ble_eq_true rfl) rfl ?_
      have l2 := lk1 (k := 1) (v := .int 1) l2 (by decide) (Or.inr (by decide))
      have l0 := lk1 (k := 1) (v := .int 1) l0 (by decide) (Or.inl rfl)
      have l1 := lk0 ls 1 (.int 1)
      generalize lset1 ls 1 (.int 1) = ls at l1 l2 l0 ⊢
      refine r_iinc (y := 5) (q119 (i := 134) rfl) (Nat.le_of_ble_eq_true rfl) l2 (by decide) rfl ?_
      have l1 := lk1 (k := 2) (v := .int 5) l1 (by decide) (Or.inl rfl)
      have l0 := lk1 (k := 2) (v := .int 5) l0 (by decide) (Or.inr (by decide))
      have l2 := lk0 ls 2 (.int 5)
      generalize lset1 ls 2 (.int 5) = ls at l2 l1 l0 ⊢
      refine r_goto 44 (q119 (i := 135) rfl) (by decide) ?_
      refine r_iload_n (q119 (i := 22) rfl) l2 ?_
      refine r_iconst (v := 5) (q119 (i := 23) rfl) (by decide) ?_
      refine r_icmp 252 (q119 (i := 24) rfl) (by decide) (fun _ => ?_) (fun zz => absurd (show 5 ≤ (5 : Int32) from by decide) zz)
      exact kk ls l0
    · rw [if_neg c5] at R5 st5
      refine ⟨h5, ?_, F45, fun Q bc bs kk ls l2 l1 l0 => K4 Q bc bs (fun ls l2 l1 l0 => ?_) ls l2 l1 l0⟩
      · rw [show hdR B z 0 b q' = (q', .ok b) from rfl]
        unfold FhT
        rcases hft_lt (n := n) hp' (by omega) with ⟨y1, y2⟩ | ⟨p, y1, y2, y3, y4⟩
        · rw [if_neg y2]
          show HE h5 z (if cb B z b = 10 then _ else _)
          rw [if_neg c5]
          have := st5.2
          rw [y1] at this
          exact this
        · rw [if_pos y3]
          have := st5.2
          rw [y1, ff_hi (e := (2, p)) (Nat.le_of_lt y2), y4] at this
          exact this
      refine r_iload_n (q119 (i := 119) rfl) l1 ?_
      refine r_if 244 (q119 (i := 120) rfl) (by decide) (fun zz => absurd zz (show ¬ ((1 : Int32) = 0) from by decide)) (fun _ => ?_)
      refine r_aload_n (q119 (i := 121) rfl) l0 ?_
      refine r_iload_n (q119 (i := 122) rfl) l2 ?_
      refine r_iconst (v := 4) (q119 (i := 123) rfl) (by decide) ?_
      refine r_icmp 232 (q119 (i := 124) rfl) (by decide) (fun _ => ?_) (fun zz => absurd (show 4 ≤ (4 : Int32) from by decide) zz)
      refine r_bipush (v := nI 10) (q119 (i := 127) rfl) (by decide) ?_
      refine r_cV (d := _) (q119 (i := 128) rfl) rfl rfl rfl (k_47 S4) (Nat.le_of_ble_eq_true rfl) (Nat.zero_le _) (Nat.zero_le _) R5 ?_
      show Wp _ _ _ 237 ls [.int 0] h5 _ _
      refine r_if 244 (q119 (i := 129) rfl) (by decide) (fun _ => ?_) (fun zz => absurd (show (0 : Int32) = 0 from by decide) zz)
      refine r_iconst (v := 0) (q119 (i := 132) rfl) (by decide) ?_
      refine r_istore_n (ls' := lset1 ls 1 (.int 0)) (q119 (i := 133) rfl) (Nat.le_of_ble_eq_true rfl) rfl ?_
      have l2 := lk1 (k := 1) (v := .int 0) l2 (by decide) (Or.inr (by decide))
      have l0 := lk1 (k := 1) (v := .int 0) l0 (by decide) (Or.inl rfl)
      have l1 := lk0 ls 1 (.int 0)
      generalize lset1 ls 1 (.int 0) = ls at l1 l2 l0 ⊢
      refine r_iinc (y := 5) (q119 (i := 134) rfl) (Nat.le_of_ble_eq_true rfl) l2 (by decide) rfl ?_
      have l1 := lk1 (k := 2) (v := .int 5) l1 (by decide) (Or.inl rfl)
      have l0 := lk1 (k := 2) (v := .int 5) l0 (by decide) (Or.inr (by decide))
      have l2 := lk0 ls 2 (.int 5)
      generalize lset1 ls 2 (.int 5) = ls at l2 l1 l0 ⊢
      refine r_goto 44 (q119 (i := 135) rfl) (by decide) ?_
      refine r_iload_n (q119 (i := 22) rfl) l2 ?_
      refine r_iconst (v := 5) (q119 (i := 23) rfl) (by decide) ?_
      refine r_icmp 252 (q119 (i := 24) rfl) (by decide) (fun _ => ?_) (fun zz => absurd (show 5 ≤ (5 : Int32) from by decide) zz)
      exact kk ls l0
  · have er : hdR B z 1 a q = (q, .error (1, a + 1)) := by
      show (if cb B z a = 32 then (if dg B z (a + 1) then _ else _) else _) = _
      rw [if_pos hc, if_neg g]
    rw [er]
    have F1 : FrH h (sI h 1076 4 (nI (a + 1))) := FrH.w (by decide) _ _
    obtain ⟨h2, Rn, st, F2⟩ := sp_mnum (d := d) (h := sI h 1076 4 (nI (a + 1))) (F1.S S) (F1.T T) (t := hft n q) (FTM.to rfl rfl ft) (a := a + 1) ea ha
    rw [if_neg g] at Rn st
    obtain ⟨_, ev, ft2⟩ := st
    have S2 : Sh h2 := F2.S (F1.S S)
    refine ⟨sI h2 1075 4 0, ?_, (F1.tr F2.H).tr (FrH.w (by decide) _ _), fun Q bc bs kk ls l2 l1 l0 => ?_⟩
    · unfold FhT
      rcases hft_lt (n := n) hp (by omega) with ⟨y1, y2⟩ | ⟨p, y1, y2, y3, y4⟩
      · rw [if_neg y2]
        rw [y1] at ft2
        exact ft2
      · rw [if_pos y3]
        rw [y1, ff_hi (e := (2, p)) (Nat.le_of_lt y2), y4] at ft2
        exact ft2
    refine r_iload_n (q119 (i := 22) rfl) l2 ?_
    refine r_iconst (v := 5) (q119 (i := 23) rfl) (by decide) ?_
    refine r_icmp 252 (q119 (i := 24) rfl) (by decide) (fun zz => absurd zz (show ¬ (5 ≤ (4 : Int32)) from by decide)) (fun _ => ?_)
    refine r_iload_n (q119 (i := 25) rfl) l1 ?_
    refine r_if 252 (q119 (i := 26) rfl) (by decide) (fun zz => absurd zz (show ¬ ((1 : Int32) = 0) from by decide)) (fun _ => ?_)
    refine r_aload_n (q119 (i := 27) rfl) l0 ?_
    refine r_getR (b := 1076) (q119 (i := 28) rfl) rfl (by decide) (k_47 S) (fun _ _ _ => rfl) (r_47_31 S) ?_
    refine r_iload_n (q119 (i := 29) rfl) l2 ?_
    refine r_aload_n (q119 (i := 30) rfl) l0 ?_
    refine r_getI (x := nI (a + 1)) (q119 (i := 31) rfl) rfl (by decide) (k_47 S) (fun _ _ _ => rfl) ea ?_
    refine r_iastore (q119 (i := 32) rfl) (k_1076 S) (vp_in_nI (n := 4) (by decide) (by decide)) ?_
    show Wp _ _ _ _ _ _ (sI h 1076 4 (nI (a + 1))) _ _
    refine r_aload_n (q119 (i := 33) rfl) l0 ?_
    refine r_cV (d := _) (q119 (i := 34) rfl) rfl rfl rfl (k_47 S) (Nat.le_of_ble_eq_true rfl) (Nat.zero_le _) (Nat.zero_le _) Rn ?_
    show Wp _ _ _ 67 ls [.int 0] h2 _ _
    refine r_istore_n (ls' := lset1 ls 1 (.int 0)) (q119 (i := 35) rfl) (Nat.le_of_ble_eq_true rfl) rfl ?_
    have l2 := lk1 (k := 1) (v := .int 0) l2 (by decide) (Or.inr (by decide))
    have l0 := lk1 (k := 1) (v := .int 0) l0 (by decide) (Or.inl rfl)
    have l1 := lk0 ls 1 (.int 0)
    generalize lset1 ls 1 (.int 0) = ls at l1 l2 l0 ⊢
    refine r_aload_n (q119 (i := 36) rfl) l0 ?_
    refine r_getR (b := 1075) (q119 (i := 37) rfl) rfl (by decide) (k_47 S2) (fun _ _ _ => rfl) (r_47_30 S2) ?_
    refine r_iload_n (q119 (i := 38) rfl) l2 ?_
    refine r_aload_n (q119 (i := 39) rfl) l0 ?_
    refine r_getI (x := 0) (q119 (i := 40) rfl) rfl (by decide) (k_47 S2) (fun _ _ _ => rfl) ev ?_
    refine r_iastore (q119 (i := 41) rfl) (k_1075 S2) (vp_in_nI (n := 4) (by decide) (by decide)) ?_
    show Wp _ _ _ _ _ _ (sI h2 1075 4 0) _ _
    refine r_iload_n (q119 (i := 42) rfl) l1 ?_
    refine r_if 156 (q119 (i := 43) rfl) (by decide) (fun _ => ?_) (fun zz => absurd (show (0 : Int32) = 0 from by decide) zz)
    refine r_iconst (v := 0) (q119 (i := 80) rfl) (by decide) ?_
    refine r_istore_n (ls' := lset1 ls 3 (.int 0)) (q119 (i := 81) rfl) (Nat.le_of_ble_eq_true rfl) rfl ?_
    have l1 := lk1 (k := 3) (v := .int 0) l1 (by decide) (Or.inr (by decide))
    have l2 := lk1 (k := 3) (v := .int 0) l2 (by decide) (Or.inl rfl)
    have l0 := lk1 (k := 3) (v := .int 0) l0 (by decide) (Or.inr (by decide))
    have l3 := lk0 ls 3 (.int 0)
    generalize lset1 ls 3 (.int 0) = ls at l3 l1 l2 l0 ⊢
    refine r_iload_n (q119 (i := 82) rfl) l3 ?_
    refine r_if 174 (q119 (i := 83) rfl) (by decide) (fun _ => ?_) (fun zz => absurd (show (0 : Int32) = 0 from by decide) zz)
    refine r_iload_n (q119 (i := 92) rfl) l1 ?_
    refine r_if 217 (q119 (i := 93) rfl) (by decide) (fun _ => ?_) (fun zz => absurd (show (0 : Int32) = 0 from by decide) zz)
    refine r_iload_n (q119 (i := 119) rfl) l1 ?_
    refine r_if 244 (q119 (i := 120) rfl) (by decide) (fun _ => ?_) (fun zz => absurd (show (0 : Int32) = 0 from by decide) zz)
    refine r_iconst (v := 0) (q119 (i := 132) rfl) (by decide) ?_
    refine r_istore_n (ls' := lset1 ls 1 (.int 0)) (q119 (i := 133) rfl) (Nat.le_of_ble_eq_true rfl) rfl ?_
    have l3 := lk1 (k := 1) (v := .int 0) l3 (by decide) (Or.inr (by decide))
    have l2 := lk1 (k := 1) (v := .int 0) l2 (by decide) (Or.inr (by decide))
    have l0 := lk1 (k := 1) (v := .int 0) l0 (by decide) (Or.inl rfl)
    have l1 := lk0 ls 1 (.int 0)
    generalize lset1 ls 1 (.int 0) = ls at l1 l3 l2 l0 ⊢
    refine r_iinc (y := 5) (q119 (i := 134) rfl) (Nat.le_of_ble_eq_true rfl) l2 (by decide) rfl ?_
    have l1 := lk1 (k := 2) (v := .int 5) l1 (by decide) (Or.inl rfl)
    have l3 := lk1 (k := 2) (v := .int 5) l3 (by decide) (Or.inr (by decide))
    have l0 := lk1 (k := 2) (v := .int 5) l0 (by decide) (Or.inr (by decide))
    have l2 := lk0 ls 2 (.int 5)
    generalize lset1 ls 2 (.int 5) = ls at l2 l1 l3 l0 ⊢
    refine r_goto 44 (q119 (i := 135) rfl) (by decide) ?_
    refine r_iload_n (q119 (i := 22) rfl) l2 ?_
    refine r_iconst (v := 5) (q119 (i := 23) rfl) (by decide) ?_
    refine r_icmp 252 (q119 (i := 24) rfl) (by decide) (fun _ => ?_) (fun zz => absurd (show 5 ≤ (5 : Int32) from by decide) zz)
    exact kk ls l0
set_option maxHeartbeats 2000000 in
set_option maxRecDepth 10000 in
theorem fl_3 {d : Nat} {B : Nat → Int32} {z n : Nat} (hn : n ≤ 12) {h : hp} (S : Sh h) (T : TM h B z) (e1 : hI h 47 1 = nI n) {q : hst} (hq : q.1 = 3) {a : Nat} (ea : hI h 47 27 = nI (a + 1)) (ha : a + 1 ≤ z) (hc : cb B z a = 32) (D : HDM h q (a + 1)) (ft : FTM h (hft n q)) : ∃ h', HE h' z (FhT B z n (hdR B z 2 a q)) ∧ FrH h h' ∧ ∀ (Q : resP) (bc bs : Nat), (∀ ls : List (Nat × Value), ls.lookup 0 = some (.ref 47) → Wp (Ex (d + 2)) 119 Q 252 ls [] h' bc bs) → ∀ ls : List (Nat × Value), ls.lookup 2 = some (.int 3) → ls.lookup 1 = some (.int 1) → ls.lookup 0 = some (.ref 47) → Wp (Ex (d + 2)) 119 Q 44 ls [] h bc bs := by
  have hz := T.2.2.1
  have hp : ∀ i, i < q.1 → q.2.2 i < a + 1 := fun i hi => (D.1 i hi).2.2.2
  by_cases g : dg B z (a + 1) = true
  · obtain ⟨h4, ft4, eb, D4, F4, K4⟩ := flA_3 (d := d) hn S T e1 hq ea ha D ft g
    obtain ⟨n1, n2, n3⟩ := numP_le B z ha
    have S4 := F4.S S
    have T4 := F4.T T
    have er : hdR B z 2 a q = hdR B z 1 (numP B z (a + 1)).2 (qad q (numP B z (a + 1)).1 (a + 1)) := by
      show (if cb B z a = 32 then (if dg B z (a + 1) then _ else _) else _) = _
      rw [if_pos hc, if_pos g]; rfl
    rw [er]
    obtain ⟨b, eq⟩ : ∃ b, b = (numP B z (a + 1)).2 := ⟨_, rfl⟩
    obtain ⟨q', eq'⟩ : ∃ x, x = qad q (numP B z (a + 1)).1 (a + 1) := ⟨_, rfl⟩
    have hq' : q'.1 = 3 + 1 := by rw [eq']; show q.1 + 1 = _; rw [hq]
    rw [← eq'] at ft4 D4 ⊢
    rw [← eq] at eb D4 n1 n2 ⊢
    have hp' : ∀ i, i < q'.1 → q'.2.2 i < b := fun i hi => (D4.1 i hi).2.2.2
    obtain ⟨h5, R5, st5, F5, _⟩ := sp_is (d := d) S4 T4 ft4 eb n2 (c := 32) (by decide)
    have F45 := F4.tr F5.H
    by_cases c5 : cb B z b = 32
    · rw [if_pos c5] at R5 st5
      obtain ⟨ec, hb1, ft5⟩ := st5
      obtain ⟨h6, E6, F6, K5⟩ := fl_4 (d := d) hn (F5.S S4) (F5.T T4) ((F45.2.2 1 (by decide)).trans e1) hq' ec hb1 c5 ⟨fun i hi => by
        rw [F5.2.1 1075 (by decide), F5.2.1 1076 (by decide)]
        obtain ⟨x1, x2, x3, x4⟩ := D4.1 i hi
        exact ⟨x1, x2, x3, by omega⟩, D4.2⟩ ft5
      refine ⟨h6, E6, F45.tr F6, fun Q bc bs kk ls l2 l1 l0 => K4 Q bc bs (fun ls l2 l1 l0 => ?_) ls l2 l1 l0⟩
      refine r_iload_n (q119 (i := 119) rfl) l1 ?_
      refine r_if 244 (q119 (i := 120) rfl) (by decide) (fun zz => absurd zz (show ¬ ((1 : Int32) = 0) from by decide)) (fun _ => ?_)
      refine r_aload_n (q119 (i := 121) rfl) l0 ?_
      refine r_iload_n (q119 (i := 122) rfl) l2 ?_
      refine r_iconst (v := 4) (q119 (i := 123) rfl) (by decide) ?_
      refine r_icmp 232 (q119 (i := 124) rfl) (by decide) (fun zz => absurd zz (show ¬ (4 ≤ (3 : Int32)) from by decide)) (fun _ => ?_)
      refine r_bipush (v := nI 32) (q119 (i := 125) rfl) (by decide) ?_
      refine r_goto 234 (q119 (i := 126) rfl) (by decide) ?_
      refine r_cV (d := _) (q119 (i := 128) rfl) rfl rfl rfl (k_47 S4) (Nat.le_of_ble_eq_true rfl) (Nat.zero_le _) (Nat.zero_le _) R5 ?_
      show Wp _ _ _ 237 ls [.int 1] h5 _ _
      refine r_if 244 (q119 (i := 129) rfl) (by decide) (fun zz => absurd zz (show ¬ ((1 : Int32) = 0) from by decide)) (fun _ => ?_)
      refine r_iconst (v := 1) (q119 (i := 130) rfl) (by decide) ?_
      refine r_goto 245 (q119 (i := 131) rfl) (by decide) ?_
      refine r_istore_n (ls' := lset1 ls 1 (.int 1)) (q119 (i := 133) rfl) (Nat.le_of_ble_eq_true rfl) rfl ?_
      have l2 := lk1 (k := 1) (v := .int 1) l2 (by decide) (Or.inr (by decide))
      have l0 := lk1 (k := 1) (v := .int 1) l0 (by decide) (Or.inl rfl)
      have l1 := lk0 ls 1 (.int 1)
      generalize lset1 ls 1 (.int 1) = ls at l1 l2 l0 ⊢
      refine r_iinc (y := 4) (q119 (i := 134) rfl) (Nat.le_of_ble_eq_true rfl) l2 (by decide) rfl ?_
      have l1 := lk1 (k := 2) (v := .int 4) l1 (by decide) (Or.inl rfl)
      have l0 := lk1 (k := 2) (v := .int 4) l0 (by decide) (Or.inr (by decide))
      have l2 := lk0 ls 2 (.int 4)
      generalize lset1 ls 2 (.int 4) = ls at l2 l1 l0 ⊢
      refine r_goto 44 (q119 (i := 135) rfl) (by decide) ?_
      exact K5 Q bc bs kk ls l2 l1 l0
    · rw [if_neg c5] at R5 st5
      have er2 : hdR B z 1 b q' = (q', .error (1, b)) := by
        show (if cb B z b = 32 then _ else _) = _
        rw [if_neg c5]
      rw [er2]
      refine ⟨h5, ?_, F45, fun Q bc bs kk ls l2 l1 l0 => K4 Q bc bs (fun ls l2 l1 l0 => ?_) ls l2 l1 l0⟩
      · unfold FhT
        rcases hft_lt (n := n) hp' (by omega) with ⟨y1, y2⟩ | ⟨p, y1, y2, y3, y4⟩
        · rw [if_neg y2]
          have := st5.2
          rw [y1] at this
          exact this
        · rw [if_pos y3]
          have := st5.2
          rw [y1, ff_hi (e := (2, p)) (Nat.le_of_lt y2), y4] at this
          exact this
      refine r_iload_n (q119 (i := 119) rfl) l1 ?_
      refine r_if 244 (q119 (i := 120) rfl) (by decide) (fun zz => absurd zz (show ¬ ((1 : Int32) = 0) from by decide)) (fun _ => ?_)
      refine r_aload_n (q119 (i := 121) rfl) l0 ?_
      refine r_iload_n (q119 (i := 122) rfl) l2 ?_
      refine r_iconst (v := 4) (q119 (i := 123) rfl) (by decide) ?_
      refine r_icmp 232 (q119 (i := 124) rfl) (by decide) (fun zz => absurd zz (show ¬ (4 ≤ (3 : Int32)) from by decide)) (fun _ => ?_)
      refine r_bipush (v := nI 32) (q119 (i := 125) rfl) (by decide) ?_
      refine r_goto 234 (q119 (i := 126) rfl) (by decide) ?_
      refine r_cV (d := _) (q119 (i := 128) rfl) rfl rfl rfl (k_47 S4) (Nat.le_of_ble_eq_true rfl) (Nat.zero_le _) (Nat.zero_le _) R5 ?_
      show Wp _ _ _ 237 ls [.int 0] h5 _ _
      refine r_if 244 (q119 (i := 129) rfl) (by decide) (fun _ => ?_) (fun zz => absurd (show (0 : Int32) = 0 from by decide) zz)
      refine r_iconst (v := 0) (q119 (i := 132) rfl) (by decide) ?_
      refine r_istore_n (ls' := lset1 ls 1 (.int 0)) (q119 (i := 133) rfl) (Nat.le_of_ble_eq_true rfl) rfl ?_
      have l2 := lk1 (k := 1) (v := .int 0) l2 (by decide) (Or.inr (by decide))
      have l0 := lk1 (k := 1) (v := .int 0) l0 (by decide) (Or.inl rfl)
      have l1 := lk0 ls 1 (.int 0)
      generalize lset1 ls 1 (.int 0) = ls at l1 l2 l0 ⊢
      refine r_iinc (y := 4) (q119 (i := 134) rfl) (Nat.le_of_ble_eq_true rfl) l2 (by decide) rfl ?_
      have l1 := lk1 (k := 2) (v := .int 4) l1 (by decide) (Or.inl rfl)
      have l0 := lk1 (k := 2) (v := .int 4) l0 (by decide) (Or.inr (by decide))
      have l2 := lk0 ls 2 (.int 4)
      generalize lset1 ls 2 (.int 4) = ls at l2 l1 l0 ⊢
      refine r_goto 44 (q119 (i := 135) rfl) (by decide) ?_
      refine r_iload_n (q119 (i := 22) rfl) l2 ?_
      refine r_iconst (v := 5) (q119 (i := 23) rfl) (by decide) ?_
      refine r_icmp 252 (q119 (i := 24) rfl) (by decide) (fun zz => absurd zz (show ¬ (5 ≤ (4 : Int32)) from by decide)) (fun _ => ?_)
      refine r_iload_n (q119 (i := 25) rfl) l1 ?_
      refine r_if 252 (q119 (i := 26) rfl) (by decide) (fun _ => ?_) (fun zz => absurd (show (0 : Int32) = 0 from by decide) zz)
      exact kk ls l0
  · have er : hdR B z 2 a q = (q, .error (1, a + 1)) := by
      show (if cb B z a = 32 then (if dg B z (a + 1) then _ else _) else _) = _
      rw [if_pos hc, if_neg g]
    rw [er]
    have F1 : FrH h (sI h 1076 3 (nI (a + 1))) := FrH.w (by decide) _ _
    obtain ⟨h2, Rn, st, F2⟩ := sp_mnum (d := d) (h := sI h 1076 3 (nI (a + 1))) (F1.S S) (F1.T T) (t := hft n q) (FTM.to rfl rfl ft) (a := a + 1) ea ha
    rw [if_neg g] at Rn st
    obtain ⟨_, ev, ft2⟩ := st
    have S2 : Sh h2 := F2.S (F1.S S)
    refine ⟨sI h2 1075 3 0, ?_, (F1.tr F2.H).tr (FrH.w (by decide) _ _), fun Q bc bs kk ls l2 l1 l0 => ?_⟩
    · unfold FhT
      rcases hft_lt (n := n) hp (by omega) with ⟨y1, y2⟩ | ⟨p, y1, y2, y3, y4⟩
      · rw [if_neg y2]
        rw [y1] at ft2
        exact ft2
      · rw [if_pos y3]
        rw [y1, ff_hi (e := (2, p)) (Nat.le_of_lt y2), y4] at ft2
        exact ft2
    refine r_iload_n (q119 (i := 22) rfl) l2 ?_
    refine r_iconst (v := 5) (q119 (i := 23) rfl) (by decide) ?_
    refine r_icmp 252 (q119 (i := 24) rfl) (by decide) (fun zz => absurd zz (show ¬ (5 ≤ (3 : Int32)) from by decide)) (fun _ => ?_)
    refine r_iload_n (q119 (i := 25) rfl) l1 ?_
    refine r_if 252 (q119 (i := 26) rfl) (by decide) (fun zz => absurd zz (show ¬ ((1 : Int32) = 0) from by decide)) (fun _ => ?_)
    refine r_aload_n (q119 (i := 27) rfl) l0 ?_
    refine r_getR (b := 1076) (q119 (i := 28) rfl) rfl (by decide) (k_47 S) (fun _ _ _ => rfl) (r_47_31 S) ?_
    refine r_iload_n (q119 (i := 29) rfl) l2 ?_
    refine r_aload_n (q119 (i := 30) rfl) l0 ?_
    refine r_getI (x := nI (a + 1)) (q119 (i := 31) rfl) rfl (by decide) (k_47 S) (fun _ _ _ => rfl) ea ?_
    refine r_iastore (q119 (i := 32) rfl) (k_1076 S) (vp_in_nI (n := 3) (by decide) (by decide)) ?_
    show Wp _ _ _ _ _ _ (sI h 1076 3 (nI (a + 1))) _ _
    refine r_aload_n (q119 (i := 33) rfl) l0 ?_
    refine r_cV (d := _) (q119 (i := 34) rfl) rfl rfl rfl (k_47 S) (Nat.le_of_ble_eq_true rfl) (Nat.zero_le _) (Nat.zero_le _) Rn ?_
    show Wp _ _ _ 67 ls [.int 0] h2 _ _
    refine r_istore_n (ls' := lset1 ls 1 (.int 0)) (q119 (i := 35) rfl) (Nat.le_of_ble_eq_true rfl) rfl ?_
    have l2 := lk1 (k := 1) (v := .int 0) l2 (by decide) (Or.inr (by decide))
    have l0 := lk1 (k := 1) (v := .int 0) l0 (by decide) (Or.inl rfl)
    have l1 := lk0 ls 1 (.int 0)
    generalize lset1 ls 1 (.int 0) = ls at l1 l2 l0 ⊢
    refine r_aload_n (q119 (i := 36) rfl) l0 ?_
    refine r_getR (b := 1075) (q119 (i := 37) rfl) rfl (by decide) (k_47 S2) (fun _ _ _ => rfl) (r_47_30 S2) ?_
    refine r_iload_n (q119 (i := 38) rfl) l2 ?_
    refine r_aload_n (q119 (i := 39) rfl) l0 ?_
    refine r_getI (x := 0) (q119 (i := 40) rfl) rfl (by decide) (k_47 S2) (fun _ _ _ => rfl) ev ?_
    refine r_iastore (q119 (i := 41) rfl) (k_1075 S2) (vp_in_nI (n := 3) (by decide) (by decide)) ?_
    show Wp _ _ _ _ _ _ (sI h2 1075 3 0) _ _
    refine r_iload_n (q119 (i := 42) rfl) l1 ?_
    refine r_if 156 (q119 (i := 43) rfl) (by decide) (fun _ => ?_) (fun zz => absurd (show (0 : Int32) = 0 from by decide) zz)
    refine r_iconst (v := 0) (q119 (i := 80) rfl) (by decide) ?_
    refine r_istore_n (ls' := lset1 ls 3 (.int 0)) (q119 (i := 81) rfl) (Nat.le_of_ble_eq_true rfl) rfl ?_
    have l1 := lk1 (k := 3) (v := .int 0) l1 (by decide) (Or.inr (by decide))
    have l2 := lk1 (k := 3) (v := .int 0) l2 (by decide) (Or.inl rfl)
    have l0 := lk1 (k := 3) (v := .int 0) l0 (by decide) (Or.inr (by decide))
    have l3 := lk0 ls 3 (.int 0)
    generalize lset1 ls 3 (.int 0) = ls at l3 l1 l2 l0 ⊢
    refine r_iload_n (q119 (i := 82) rfl) l3 ?_
    refine r_if 174 (q119 (i := 83) rfl) (by decide) (fun _ => ?_) (fun zz => absurd (show (0 : Int32) = 0 from by decide) zz)
    refine r_iload_n (q119 (i := 92) rfl) l1 ?_
    refine r_if 217 (q119 (i := 93) rfl) (by decide) (fun _ => ?_) (fun zz => absurd (show (0 : Int32) = 0 from by decide) zz)
    refine r_iload_n (q119 (i := 119) rfl) l1 ?_
    refine r_if 244 (q119 (i := 120) rfl) (by decide) (fun _ => ?_) (fun zz => absurd (show (0 : Int32) = 0 from by decide) zz)
    refine r_iconst (v := 0) (q119 (i := 132) rfl) (by decide) ?_
    refine r_istore_n (ls' := lset1 ls 1 (.int 0)) (q119 (i := 133) rfl) (Nat.le_of_ble_eq_true rfl) rfl ?_
    have l3 := lk1 (k := 1) (v := .int 0) l3 (by decide) (Or.inr (by decide))
    have l2 := lk1 (k := 1) (v := .int 0) l2 (by decide) (Or.inr (by decide))
    have l0 := lk1 (k := 1) (v := .int 0) l0 (by decide) (Or.inl rfl)
    have l1 := lk0 ls 1 (.int 0)
    generalize lset1 ls 1 (.int 0) = ls at l1 l3 l2 l0 ⊢
    refine r_iinc (y := 4) (q119 (i := 134) rfl) (Nat.le_of_ble_eq_true rfl) l2 (by decide) rfl ?_
    have l1 := lk1 (k := 2) (v := .int 4) l1 (by decide) (Or.inl rfl)
    have l3 := lk1 (k := 2) (v := .int 4) l3 (by decide) (Or.inr (by decide))
    have l0 := lk1 (k := 2) (v := .int 4) l0 (by decide) (Or.inr (by decide))
    have l2 := lk0 ls 2 (.int 4)
    generalize lset1 ls 2 (.int 4) = ls at l2 l1 l3 l0 ⊢
    refine r_goto 44 (q119 (i := 135) rfl) (by decide) ?_
    refine r_iload_n (q119 (i := 22) rfl) l2 ?_
    refine r_iconst (v := 5) (q119 (i := 23) rfl) (by decide) ?_
    refine r_icmp 252 (q119 (i := 24) rfl) (by decide) (fun zz => absurd zz (show ¬ (5 ≤ (4 : Int32)) from by decide)) (fun _ => ?_)
    refine r_iload_n (q119 (i := 25) rfl) l1 ?_
    refine r_if 252 (q119 (i := 26) rfl) (by decide) (fun _ => ?_) (fun zz => absurd (show (0 : Int32) = 0 from by decide) zz)
    exact kk ls l0
set_option maxHeartbeats 2000000 in
set_option maxRecDepth 10000 in
theorem fl_2 {d : Nat} {B : Nat → Int32} {z n : Nat} (hn : n ≤ 12) {h : hp} (S : Sh h) (T : TM h B z) (e1 : hI h 47 1 = nI n) {q : hst} (hq : q.1 = 2) {a : Nat} (ea : hI h 47 27 = nI (a + 1)) (ha : a + 1 ≤ z) (hc : cb B z a = 32) (D : HDM h q (a + 1)) (ft : FTM h (hft n q)) : ∃ h', HE h' z (FhT B z n (hdR B z 3 a q)) ∧ FrH h h' ∧ ∀ (Q : resP) (bc bs : Nat), (∀ ls : List (Nat × Value), ls.lookup 0 = some (.ref 47) → Wp (Ex (d + 2)) 119 Q 252 ls [] h' bc bs) → ∀ ls : List (Nat × Value), ls.lookup 2 = some (.int 2) → ls.lookup 1 = some (.int 1) → ls.lookup 0 = some (.ref 47) → Wp (Ex (d + 2)) 119 Q 44 ls [] h bc bs := by
  have hz := T.2.2.1
  have hp : ∀ i, i < q.1 → q.2.2 i < a + 1 := fun i hi => (D.1 i hi).2.2.2
  by_cases g : dg B z (a + 1) = true
  · obtain ⟨h4, ft4, eb, D4, F4, K4⟩ := flA_2 (d := d) hn S T e1 hq ea ha D ft g
    obtain ⟨n1, n2, n3⟩ := numP_le B z ha
    have S4 := F4.S S
    have T4 := F4.T T
    have er : hdR B z 3 a q = hdR B z 2 (numP B z (a + 1)).2 (qad q (numP B z (a + 1)).1 (a + 1)) := by
      show (if cb B z a = 32 then (if dg B z (a + 1) then _ else _) else _) = _
      rw [if_pos hc, if_pos g]; rfl
    rw [er]
    obtain ⟨b, eq⟩ : ∃ b, b = (numP B z (a + 1)).2 := ⟨_, rfl⟩
    obtain ⟨q', eq'⟩ : ∃ x, x = qad q (numP B z (a + 1)).1 (a + 1) := ⟨_, rfl⟩
    have hq' : q'.1 = 2 + 1 := by rw [eq']; show q.1 + 1 = _; rw [hq]
    rw [← eq'] at ft4 D4 ⊢
    rw [← eq] at eb D4 n1 n2 ⊢
    have hp' : ∀ i, i < q'.1 → q'.2.2 i < b := fun i hi => (D4.1 i hi).2.2.2
    obtain ⟨h5, R5, st5, F5, _⟩ := sp_is (d := d) S4 T4 ft4 eb n2 (c := 32) (by decide)
    have F45 := F4.tr F5.H
    by_cases c5 : cb B z b = 32
    · rw [if_pos c5] at R5 st5
      obtain ⟨ec, hb1, ft5⟩ := st5
      obtain ⟨h6, E6, F6, K5⟩ := fl_3 (d := d) hn (F5.S S4) (F5.T T4) ((F45.2.2 1 (by decide)).trans e1) hq' ec hb1 c5 ⟨fun i hi => by
        rw [F5.2.1 1075 (by decide), F5.2.1 1076 (by decide)]
        obtain ⟨x1, x2, x3, x4⟩ := D4.1 i hi
        exact ⟨x1, x2, x3, by omega⟩, D4.2⟩ ft5
      refine ⟨h6, E6, F45.tr F6, fun Q bc bs kk ls l2 l1 l0 => K4 Q bc bs (fun ls l2 l1 l0 => ?_) ls l2 l1 l0⟩
      refine r_iload_n (q119 (i := 119) rfl) l1 ?_
      refine r_if 244 (q119 (i := 120) rfl) (by decide) (fun zz => absurd zz (show ¬ ((1 : Int32) = 0) from by decide)) (fun _ => ?_)
      refine r_aload_n (q119 (i := 121) rfl) l0 ?_
      refine r_iload_n (q119 (i := 122) rfl) l2 ?_
      refine r_iconst (v := 4) (q119 (i := 123) rfl) (by decide) ?_
      refine r_icmp 232 (q119 (i := 124) rfl) (by decide) (fun zz => absurd zz (show ¬ (4 ≤ (2 : Int32)) from by decide)) (fun _ => ?_)
      refine r_bipush (v := nI 32) (q119 (i := 125) rfl) (by decide) ?_
      refine r_goto 234 (q119 (i := 126) rfl) (by decide) ?_
      refine r_cV (d := _) (q119 (i := 128) rfl) rfl rfl rfl (k_47 S4) (Nat.le_of_ble_eq_true rfl) (Nat.zero_le _) (Nat.zero_le _) R5 ?_
      show Wp _ _ _ 237 ls [.int 1] h5 _ _
      refine r_if 244 (q119 (i := 129) rfl) (by decide) (fun zz => absurd zz (show ¬ ((1 : Int32) = 0) from by decide)) (fun _ => ?_)
      refine r_iconst (v := 1) (q119 (i := 130) rfl) (by decide) ?_
      refine r_goto 245 (q119 (i := 131) rfl) (by decide) ?_
      refine r_istore_n (ls' := lset1 ls 1 (.int 1)) (q119 (i := 133) rfl) (Nat.le_of_ble_eq_true rfl) rfl ?_
      have l2 := lk1 (k := 1) (v := .int 1) l2 (by decide) (Or.inr (by decide))
      have l0 := lk1 (k := 1) (v := .int 1) l0 (by decide) (Or.inl rfl)
      have l1 := lk0 ls 1 (.int 1)
      generalize lset1 ls 1 (.int 1) = ls at l1 l2 l0 ⊢
      refine r_iinc (y := 3) (q119 (i := 134) rfl) (Nat.le_of_ble_eq_true rfl) l2 (by decide) rfl ?_
      have l1 := lk1 (k := 2) (v := .int 3) l1 (by decide) (Or.inl rfl)
      have l0 := lk1 (k := 2) (v := .int 3) l0 (by decide) (Or.inr (by decide))
      have l2 := lk0 ls 2 (.int 3)
      generalize lset1 ls 2 (.int 3) = ls at l2 l1 l0 ⊢
      refine r_goto 44 (q119 (i := 135) rfl) (by decide) ?_
      exact K5 Q bc bs kk ls l2 l1 l0
    · rw [if_neg c5] at R5 st5
      have er2 : hdR B z 2 b q' = (q', .error (1, b)) := by
        show (if cb B z b = 32 then _ else _) = _
        rw [if_neg c5]
      rw [er2]
      refine ⟨h5, ?_, F45, fun Q bc bs kk ls l2 l1 l0 => K4 Q bc bs (fun ls l2 l1 l0 => ?_) ls l2 l1 l0⟩
      · unfold FhT
        rcases hft_lt (n := n) hp' (by omega) with ⟨y1, y2⟩ | ⟨p, y1, y2, y3, y4⟩
        · rw [if_neg y2]
          have := st5.2
          rw [y1] at this
          exact this
        · rw [if_pos y3]
          have := st5.2
          rw [y1, ff_hi (e := (2, p)) (Nat.le_of_lt y2), y4] at this
          exact this
      refine r_iload_n (q119 (i := 119) rfl) l1 ?_
      refine r_if 244 (q119 (i := 120) rfl) (by decide) (fun zz => absurd zz (show ¬ ((1 : Int32) = 0) from by decide)) (fun _ => ?_)
      refine r_aload_n (q119 (i := 121) rfl) l0 ?_
      refine r_iload_n (q119 (i := 122) rfl) l2 ?_
      refine r_iconst (v := 4) (q119 (i := 123) rfl) (by decide) ?_
      refine r_icmp 232 (q119 (i := 124) rfl) (by decide) (fun zz => absurd zz (show ¬ (4 ≤ (2 : Int32)) from by decide)) (fun _ => ?_)
      refine r_bipush (v := nI 32) (q119 (i := 125) rfl) (by decide) ?_
      refine r_goto 234 (q119 (i := 126) rfl) (by decide) ?_
      refine r_cV (d := _) (q119 (i := 128) rfl) rfl rfl rfl (k_47 S4) (Nat.le_of_ble_eq_true rfl) (Nat.zero_le _) (Nat.zero_le _) R5 ?_
      show Wp _ _ _ 237 ls [.int 0] h5 _ _
      refine r_if 244 (q119 (i := 129) rfl) (by decide) (fun _ => ?_) (fun zz => absurd (show (0 : Int32) = 0 from by decide) zz)
      refine r_iconst (v := 0) (q119 (i := 132) rfl) (by decide) ?_
      refine r_istore_n (ls' := lset1 ls 1 (.int 0)) (q119 (i := 133) rfl) (Nat.le_of_ble_eq_true rfl) rfl ?_
      have l2 := lk1 (k := 1) (v := .int 0) l2 (by decide) (Or.inr (by decide))
      have l0 := lk1 (k := 1) (v := .int 0) l0 (by decide) (Or.inl rfl)
      have l1 := lk0 ls 1 (.int 0)
      generalize lset1 ls 1 (.int 0) = ls at l1 l2 l0 ⊢
      refine r_iinc (y := 3) (q119 (i := 134) rfl) (Nat.le_of_ble_eq_true rfl) l2 (by decide) rfl ?_
      have l1 := lk1 (k := 2) (v := .int 3) l1 (by decide) (Or.inl rfl)
      have l0 := lk1 (k := 2) (v := .int 3) l0 (by decide) (Or.inr (by decide))
      have l2 := lk0 ls 2 (.int 3)
      generalize lset1 ls 2 (.int 3) = ls at l2 l1 l0 ⊢
      refine r_goto 44 (q119 (i := 135) rfl) (by decide) ?_
      refine r_iload_n (q119 (i := 22) rfl) l2 ?_
      refine r_iconst (v := 5) (q119 (i := 23) rfl) (by decide) ?_
      refine r_icmp 252 (q119 (i := 24) rfl) (by decide) (fun zz => absurd zz (show ¬ (5 ≤ (3 : Int32)) from by decide)) (fun _ => ?_)
      refine r_iload_n (q119 (i := 25) rfl) l1 ?_
      refine r_if 252 (q119 (i := 26) rfl) (by decide) (fun _ => ?_) (fun zz => absurd (show (0 : Int32) = 0 from by decide) zz)
      exact kk ls l0
  · have er : hdR B z 3 a q = (q, .error (1, a + 1)) := by
      show (if cb B z a = 32 then (if dg B z (a + 1) then _ else _) else _) = _
      rw [if_pos hc, if_neg g]
    rw [er]
    have F1 : FrH h (sI h 1076 2 (nI (a + 1))) := FrH.w (by decide) _ _
    obtain ⟨h2, Rn, st, F2⟩ := sp_mnum (d := d) (h := sI h 1076 2 (nI (a + 1))) (F1.S S) (F1.T T) (t := hft n q) (FTM.to rfl rfl ft) (a := a + 1) ea ha
    rw [if_neg g] at Rn st
    obtain ⟨_, ev, ft2⟩ := st
    have S2 : Sh h2 := F2.S (F1.S S)
    refine ⟨sI h2 1075 2 0, ?_, (F1.tr F2.H).tr (FrH.w (by decide) _ _), fun Q bc bs kk ls l2 l1 l0 => ?_⟩
    · unfold FhT
      rcases hft_lt (n := n) hp (by omega) with ⟨y1, y2⟩ | ⟨p, y1, y2, y3, y4⟩
      · rw [if_neg y2]
        rw [y1] at ft2
        exact ft2
      · rw [if_pos y3]
        rw [y1, ff_hi (e := (2, p)) (Nat.le_of_lt y2), y4] at ft2
        exact ft2
    refine r_iload_n (q119 (i := 22) rfl) l2 ?_
    refine r_iconst (v := 5) (q119 (i := 23) rfl) (by decide) ?_
    refine r_icmp 252 (q119 (i := 24) rfl) (by decide) (fun zz => absurd zz (show ¬ (5 ≤ (2 : Int32)) from by decide)) (fun _ => ?_)
    refine r_iload_n (q119 (i := 25) rfl) l1 ?_
    refine r_if 252 (q119 (i := 26) rfl) (by decide) (fun zz => absurd zz (show ¬ ((1 : Int32) = 0) from by decide)) (fun _ => ?_)
    refine r_aload_n (q119 (i := 27) rfl) l0 ?_
    refine r_getR (b := 1076) (q119 (i := 28) rfl) rfl (by decide) (k_47 S) (fun _ _ _ => rfl) (r_47_31 S) ?_
    refine r_iload_n (q119 (i := 29) rfl) l2 ?_
    refine r_aload_n (q119 (i := 30) rfl) l0 ?_
    refine r_getI (x := nI (a + 1)) (q119 (i := 31) rfl) rfl (by decide) (k_47 S) (fun _ _ _ => rfl) ea ?_
    refine r_iastore (q119 (i := 32) rfl) (k_1076 S) (vp_in_nI (n := 2) (by decide) (by decide)) ?_
    show Wp _ _ _ _ _ _ (sI h 1076 2 (nI (a + 1))) _ _
    refine r_aload_n (q119 (i := 33) rfl) l0 ?_
    refine r_cV (d := _) (q119 (i := 34) rfl) rfl rfl rfl (k_47 S) (Nat.le_of_ble_eq_true rfl) (Nat.zero_le _) (Nat.zero_le _) Rn ?_
    show Wp _ _ _ 67 ls [.int 0] h2 _ _
    refine r_istore_n (ls' := lset1 ls 1 (.int 0)) (q119 (i := 35) rfl) (Nat.le_of_ble_eq_true rfl) rfl ?_
    have l2 := lk1 (k := 1) (v := .int 0) l2 (by decide) (Or.inr (by decide))
    have l0 := lk1 (k := 1) (v := .int 0) l0 (by decide) (Or.inl rfl)
    have l1 := lk0 ls 1 (.int 0)
    generalize lset1 ls 1 (.int 0) = ls at l1 l2 l0 ⊢
    refine r_aload_n (q119 (i := 36) rfl) l0 ?_
    refine r_getR (b := 1075) (q119 (i := 37) rfl) rfl (by decide) (k_47 S2) (fun _ _ _ => rfl) (r_47_30 S2) ?_
    refine r_iload_n (q119 (i := 38) rfl) l2 ?_
    refine r_aload_n (q119 (i := 39) rfl) l0 ?_
    refine r_getI (x := 0) (q119 (i := 40) rfl) rfl (by decide) (k_47 S2) (fun _ _ _ => rfl) ev ?_
    refine r_iastore (q119 (i := 41) rfl) (k_1075 S2) (vp_in_nI (n := 2) (by decide) (by decide)) ?_
    show Wp _ _ _ _ _ _ (sI h2 1075 2 0) _ _
    refine r_iload_n (q119 (i := 42) rfl) l1 ?_
    refine r_if 156 (q119 (i := 43) rfl) (by decide) (fun _ => ?_) (fun zz => absurd (show (0 : Int32) = 0 from by decide) zz)
    refine r_iconst (v := 0) (q119 (i := 80) rfl) (by decide) ?_
    refine r_istore_n (ls' := lset1 ls 3 (.int 0)) (q119 (i := 81) rfl) (Nat.le_of_ble_eq_true rfl) rfl ?_
    have l1 := lk1 (k := 3) (v := .int 0) l1 (by decide) (Or.inr (by decide))
    have l2 := lk1 (k := 3) (v := .int 0) l2 (by decide) (Or.inl rfl)
    have l0 := lk1 (k := 3) (v := .int 0) l0 (by decide) (Or.inr (by decide))
    have l3 := lk0 ls 3 (.int 0)
    generalize lset1 ls 3 (.int 0) = ls at l3 l1 l2 l0 ⊢
    refine r_iload_n (q119 (i := 82) rfl) l3 ?_
    refine r_if 174 (q119 (i := 83) rfl) (by decide) (fun _ => ?_) (fun zz => absurd (show (0 : Int32) = 0 from by decide) zz)
    refine r_iload_n (q119 (i := 92) rfl) l1 ?_
    refine r_if 217 (q119 (i := 93) rfl) (by decide) (fun _ => ?_) (fun zz => absurd (show (0 : Int32) = 0 from by decide) zz)
    refine r_iload_n (q119 (i := 119) rfl) l1 ?_
    refine r_if 244 (q119 (i := 120) rfl) (by decide) (fun _ => ?_) (fun zz => absurd (show (0 : Int32) = 0 from by decide) zz)
    refine r_iconst (v := 0) (q119 (i := 132) rfl) (by decide) ?_
    refine r_istore_n (ls' := lset1 ls 1 (.int 0)) (q119 (i := 133) rfl) (Nat.le_of_ble_eq_true rfl) rfl ?_
    have l3 := lk1 (k := 1) (v := .int 0) l3 (by decide) (Or.inr (by decide))
    have l2 := lk1 (k := 1) (v := .int 0) l2 (by decide) (Or.inr (by decide))
    have l0 := lk1 (k := 1) (v := .int 0) l0 (by decide) (Or.inl rfl)
    have l1 := lk0 ls 1 (.int 0)
    generalize lset1 ls 1 (.int 0) = ls at l1 l3 l2 l0 ⊢
    refine r_iinc (y := 3) (q119 (i := 134) rfl) (Nat.le_of_ble_eq_true rfl) l2 (by decide) rfl ?_
    have l1 := lk1 (k := 2) (v := .int 3) l1 (by decide) (Or.inl rfl)
    have l3 := lk1 (k := 2) (v := .int 3) l3 (by decide) (Or.inr (by decide))
    have l0 := lk1 (k := 2) (v := .int 3) l0 (by decide) (Or.inr (by decide))
    have l2 := lk0 ls 2 (.int 3)
    generalize lset1 ls 2 (.int 3) = ls at l2 l1 l3 l0 ⊢
    refine r_goto 44 (q119 (i := 135) rfl) (by decide) ?_
    refine r_iload_n (q119 (i := 22) rfl) l2 ?_
    refine r_iconst (v := 5) (q119 (i := 23) rfl) (by decide) ?_
    refine r_icmp 252 (q119 (i := 24) rfl) (by decide) (fun zz => absurd zz (show ¬ (5 ≤ (3 : Int32)) from by decide)) (fun _ => ?_)
    refine r_iload_n (q119 (i := 25) rfl) l1 ?_
    refine r_if 252 (q119 (i := 26) rfl) (by decide) (fun _ => ?_) (fun zz => absurd (show (0 : Int32) = 0 from by decide) zz)
    exact kk ls l0
set_option maxHeartbeats 2000000 in
set_option maxRecDepth 10000 in
theorem fl_1 {d : Nat} {B : Nat → Int32} {z n : Nat} (hn : n ≤ 12) {h : hp} (S : Sh h) (T : TM h B z) (e1 : hI h 47 1 = nI n) {q : hst} (hq : q.1 = 1) {a : Nat} (ea : hI h 47 27 = nI (a + 1)) (ha : a + 1 ≤ z) (hc : cb B z a = 32) (D : HDM h q (a + 1)) (ft : FTM h (hft n q)) : ∃ h', HE h' z (FhT B z n (hdR B z 4 a q)) ∧ FrH h h' ∧ ∀ (Q : resP) (bc bs : Nat), (∀ ls : List (Nat × Value), ls.lookup 0 = some (.ref 47) → Wp (Ex (d + 2)) 119 Q 252 ls [] h' bc bs) → ∀ ls : List (Nat × Value), ls.lookup 2 = some (.int 1) → ls.lookup 1 = some (.int 1) → ls.lookup 0 = some (.ref 47) → Wp (Ex (d + 2)) 119 Q 44 ls [] h bc bs := by
  have hz := T.2.2.1
  have hp : ∀ i, i < q.1 → q.2.2 i < a + 1 := fun i hi => (D.1 i hi).2.2.2
  by_cases g : dg B z (a + 1) = true
  · obtain ⟨h4, ft4, eb, D4, F4, K4⟩ := flA_1 (d := d) hn S T e1 hq ea ha D ft g
    obtain ⟨n1, n2, n3⟩ := numP_le B z ha
    have S4 := F4.S S
    have T4 := F4.T T
    have er : hdR B z 4 a q = hdR B z 3 (numP B z (a + 1)).2 (qad q (numP B z (a + 1)).1 (a + 1)) := by
      show (if cb B z a = 32 then (if dg B z (a + 1) then _ else _) else _) = _
      rw [if_pos hc, if_pos g]; rfl
    rw [er]
    obtain ⟨b, eq⟩ : ∃ b, b = (numP B z (a + 1)).2 := ⟨_, rfl⟩
    obtain ⟨q', eq'⟩ : ∃ x, x = qad q (numP B z (a + 1)).1 (a + 1) := ⟨_, rfl⟩
    have hq' : q'.1 = 1 + 1 := by rw [eq']; show q.1 + 1 = _; rw [hq]
    rw [← eq'] at ft4 D4 ⊢
    rw [← eq] at eb D4 n1 n2 ⊢
    have hp' : ∀ i, i < q'.1 → q'.2.2 i < b := fun i hi => (D4.1 i hi).2.2.2
    obtain ⟨h5, R5, st5, F5, _⟩ := sp_is (d := d) S4 T4 ft4 eb n2 (c := 32) (by decide)
    have F45 := F4.tr F5.H
    by_cases c5 : cb B z b = 32
    · rw [if_pos c5] at R5 st5
      obtain ⟨ec, hb1, ft5⟩ := st5
      obtain ⟨h6, E6, F6, K5⟩ := fl_2 (d := d) hn (F5.S S4) (F5.T T4) ((F45.2.2 1 (by decide)).trans e1) hq' ec hb1 c5 ⟨fun i hi => by
        rw [F5.2.1 1075 (by decide), F5.2.1 1076 (by decide)]
        obtain ⟨x1, x2, x3, x4⟩ := D4.1 i hi
        exact ⟨x1, x2, x3, by omega⟩, D4.2⟩ ft5
      refine ⟨h6, E6, F45.tr F6, fun Q bc bs kk ls l2 l1 l0 => K4 Q bc bs (fun ls l2 l1 l0 => ?_) ls l2 l1 l0⟩
      refine r_iload_n (q119 (i := 119) rfl) l1 ?_
      refine r_if 244 (q119 (i := 120) rfl) (by decide) (fun zz => absurd zz (show ¬ ((1 : Int32) = 0) from by decide)) (fun _ => ?_)
      refine r_aload_n (q119 (i := 121) rfl) l0 ?_
      refine r_iload_n (q119 (i := 122) rfl) l2 ?_
      refine r_iconst (v := 4) (q119 (i := 123) rfl) (by decide) ?_
      refine r_icmp 232 (q119 (i := 124) rfl) (by decide) (fun zz => absurd zz (show ¬ (4 ≤ (1 : Int32)) from by decide)) (fun _ => ?_)
      refine r_bipush (v := nI 32) (q119 (i := 125) rfl) (by decide) ?_
      refine r_goto 234 (q119 (i := 126) rfl) (by decide) ?_
      refine r_cV (d := _) (q119 (i := 128) rfl) rfl rfl rfl (k_47 S4) (Nat.le_of_ble_eq_true rfl) (Nat.zero_le _) (Nat.zero_le _) R5 ?_
      show Wp _ _ _ 237 ls [.int 1] h5 _ _
      refine r_if 244 (q119 (i := 129) rfl) (by decide) (fun zz => absurd zz (show ¬ ((1 : Int32) = 0) from by decide)) (fun _ => ?_)
      refine r_iconst (v := 1) (q119 (i := 130) rfl) (by decide) ?_
      refine r_goto 245 (q119 (i := 131) rfl) (by decide) ?_
      refine r_istore_n (ls' := lset1 ls 1 (.int 1)) (q119 (i := 133) rfl) (Nat.le_of_ble_eq_true rfl) rfl ?_
      have l2 := lk1 (k := 1) (v := .int 1) l2 (by decide) (Or.inr (by decide))
      have l0 := lk1 (k := 1) (v := .int 1) l0 (by decide) (Or.inl rfl)
      have l1 := lk0 ls 1 (.int 1)
      generalize lset1 ls 1 (.int 1) = ls at l1 l2 l0 ⊢
      refine r_iinc (y := 2) (q119 (i := 134) rfl) (Nat.le_of_ble_eq_true rfl) l2 (by decide) rfl ?_
      have l1 := lk1 (k := 2) (v := .int 2) l1 (by decide) (Or.inl rfl)
      have l0 := lk1 (k := 2) (v := .int 2) l0 (by decide) (Or.inr (by decide))
      have l2 := lk0 ls 2 (.int 2)
      generalize lset1 ls 2 (.int 2) = ls at l2 l1 l0 ⊢
      refine r_goto 44 (q119 (i := 135) rfl) (by decide) ?_
      exact K5 Q bc bs kk ls l2 l1 l0
    · rw [if_neg c5] at R5 st5
      have er2 : hdR B z 3 b q' = (q', .error (1, b)) := by
        show (if cb B z b = 32 then _ else _) = _
        rw [if_neg c5]
      rw [er2]
      refine ⟨h5, ?_, F45, fun Q bc bs kk ls l2 l1 l0 => K4 Q bc bs (fun ls l2 l1 l0 => ?_) ls l2 l1 l0⟩
      · unfold FhT
        rcases hft_lt (n := n) hp' (by omega) with ⟨y1, y2⟩ | ⟨p, y1, y2, y3, y4⟩
        · rw [if_neg y2]
          have := st5.2
          rw [y1] at this
          exact this
        · rw [if_pos y3]
          have := st5.2
          rw [y1, ff_hi (e := (2, p)) (Nat.le_of_lt y2), y4] at this
          exact this
      refine r_iload_n (q119 (i := 119) rfl) l1 ?_
      refine r_if 244 (q119 (i := 120) rfl) (by decide) (fun zz => absurd zz (show ¬ ((1 : Int32) = 0) from by decide)) (fun _ => ?_)
      refine r_aload_n (q119 (i := 121) rfl) l0 ?_
      refine r_iload_n (q119 (i := 122) rfl) l2 ?_
      refine r_iconst (v := 4) (q119 (i := 123) rfl) (by decide) ?_
      refine r_icmp 232 (q119 (i := 124) rfl) (by decide) (fun zz => absurd zz (show ¬ (4 ≤ (1 : Int32)) from by decide)) (fun _ => ?_)
      refine r_bipush (v := nI 32) (q119 (i := 125) rfl) (by decide) ?_
      refine r_goto 234 (q119 (i := 126) rfl) (by decide) ?_
      refine r_cV (d := _) (q119 (i := 128) rfl) rfl rfl rfl (k_47 S4) (Nat.le_of_ble_eq_true rfl) (Nat.zero_le _) (Nat.zero_le _) R5 ?_
      show Wp _ _ _ 237 ls [.int 0] h5 _ _
      refine r_if 244 (q119 (i := 129) rfl) (by decide) (fun _ => ?_) (fun zz => absurd (show (0 : Int32) = 0 from by decide) zz)
      refine r_iconst (v := 0) (q119 (i := 132) rfl) (by decide) ?_
      refine r_istore_n (ls' := lset1 ls 1 (.int 0)) (q119 (i := 133) rfl) (Nat.le_of_ble_eq_true rfl) rfl ?_
      have l2 := lk1 (k := 1) (v := .int 0) l2 (by decide) (Or.inr (by decide))
      have l0 := lk1 (k := 1) (v := .int 0) l0 (by decide) (Or.inl rfl)
      have l1 := lk0 ls 1 (.int 0)
      generalize lset1 ls 1 (.int 0) = ls at l1 l2 l0 ⊢
      refine r_iinc (y := 2) (q119 (i := 134) rfl) (Nat.le_of_ble_eq_true rfl) l2 (by decide) rfl ?_
      have l1 := lk1 (k := 2) (v := .int 2) l1 (by decide) (Or.inl rfl)
      have l0 := lk1 (k := 2) (v := .int 2) l0 (by decide) (Or.inr (by decide))
      have l2 := lk0 ls 2 (.int 2)
      generalize lset1 ls 2 (.int 2) = ls at l2 l1 l0 ⊢
      refine r_goto 44 (q119 (i := 135) rfl) (by decide) ?_
      refine r_iload_n (q119 (i := 22) rfl) l2 ?_
      refine r_iconst (v := 5) (q119 (i := 23) rfl) (by decide) ?_
      refine r_icmp 252 (q119 (i := 24) rfl) (by decide) (fun zz => absurd zz (show ¬ (5 ≤ (2 : Int32)) from by decide)) (fun _ => ?_)
      refine r_iload_n (q119 (i := 25) rfl) l1 ?_
      refine r_if 252 (q119 (i := 26) rfl) (by decide) (fun _ => ?_) (fun zz => absurd (show (0 : Int32) = 0 from by decide) zz)
      exact kk ls l0
  · have er : hdR B z 4 a q = (q, .error (1, a + 1)) := by
      show (if cb B z a = 32 then (if dg B z (a + 1) then _ else _) else _) = _
      rw [if_pos hc, if_neg g]
    rw [er]
    have F1 : FrH h (sI h 1076 1 (nI (a + 1))) := FrH.w (by decide) _ _
    obtain ⟨h2, Rn, st, F2⟩ := sp_mnum (d := d) (h := sI h 1076 1 (nI (a + 1))) (F1.S S) (F1.T T) (t := hft n q) (FTM.to rfl rfl ft) (a := a + 1) ea ha
    rw [if_neg g] at Rn st
    obtain ⟨_, ev, ft2⟩ := st
    have S2 : Sh h2 := F2.S (F1.S S)
    refine ⟨sI h2 1075 1 0, ?_, (F1.tr F2.H).tr (FrH.w (by decide) _ _), fun Q bc bs kk ls l2 l1 l0 => ?_⟩
    · unfold FhT
      rcases hft_lt (n := n) hp (by omega) with ⟨y1, y2⟩ | ⟨p, y1, y2, y3, y4⟩
      · rw [if_neg y2]
        rw [y1] at ft2
        exact ft2
      · rw [if_pos y3]
        rw [y1, ff_hi (e := (2, p)) (Nat.le_of_lt y2), y4] at ft2
        exact ft2
    refine r_iload_n (q119 (i := 22) rfl) l2 ?_
    refine r_iconst (v := 5) (q119 (i := 23) rfl) (by decide) ?_
    refine r_icmp 252 (q119 (i := 24) rfl) (by decide) (fun zz => absurd zz (show ¬ (5 ≤ (1 : Int32)) from by decide)) (fun _ => ?_)
    refine r_iload_n (q119 (i := 25) rfl) l1 ?_
    refine r_if 252 (q119 (i := 26) rfl) (by decide) (fun zz => absurd zz (show ¬ ((1 : Int32) = 0) from by decide)) (fun _ => ?_)
    refine r_aload_n (q119 (i := 27) rfl) l0 ?_
    refine r_getR (b := 1076) (q119 (i := 28) rfl) rfl (by decide) (k_47 S) (fun _ _ _ => rfl) (r_47_31 S) ?_
    refine r_iload_n (q119 (i := 29) rfl) l2 ?_
    refine r_aload_n (q119 (i := 30) rfl) l0 ?_
    refine r_getI (x := nI (a + 1)) (q119 (i := 31) rfl) rfl (by decide) (k_47 S) (fun _ _ _ => rfl) ea ?_
    refine r_iastore (q119 (i := 32) rfl) (k_1076 S) (vp_in_nI (n := 1) (by decide) (by decide)) ?_
    show Wp _ _ _ _ _ _ (sI h 1076 1 (nI (a + 1))) _ _
    refine r_aload_n (q119 (i := 33) rfl) l0 ?_
    refine r_cV (d := _) (q119 (i := 34) rfl) rfl rfl rfl (k_47 S) (Nat.le_of_ble_eq_true rfl) (Nat.zero_le _) (Nat.zero_le _) Rn ?_
    show Wp _ _ _ 67 ls [.int 0] h2 _ _
    refine r_istore_n (ls' := lset1 ls 1 (.int 0)) (q119 (i := 35) rfl) (Nat.le_of_ble_eq_true rfl) rfl ?_
    have l2 := lk1 (k := 1) (v := .int 0) l2 (by decide) (Or.inr (by decide))
    have l0 := lk1 (k := 1) (v := .int 0) l0 (by decide) (Or.inl rfl)
    have l1 := lk0 ls 1 (.int 0)
    generalize lset1 ls 1 (.int 0) = ls at l1 l2 l0 ⊢
    refine r_aload_n (q119 (i := 36) rfl) l0 ?_
    refine r_getR (b := 1075) (q119 (i := 37) rfl) rfl (by decide) (k_47 S2) (fun _ _ _ => rfl) (r_47_30 S2) ?_
    refine r_iload_n (q119 (i := 38) rfl) l2 ?_
    refine r_aload_n (q119 (i := 39) rfl) l0 ?_
    refine r_getI (x := 0) (q119 (i := 40) rfl) rfl (by decide) (k_47 S2) (fun _ _ _ => rfl) ev ?_
    refine r_iastore (q119 (i := 41) rfl) (k_1075 S2) (vp_in_nI (n := 1) (by decide) (by decide)) ?_
    show Wp _ _ _ _ _ _ (sI h2 1075 1 0) _ _
    refine r_iload_n (q119 (i := 42) rfl) l1 ?_
    refine r_if 156 (q119 (i := 43) rfl) (by decide) (fun _ => ?_) (fun zz => absurd (show (0 : Int32) = 0 from by decide) zz)
    refine r_iconst (v := 0) (q119 (i := 80) rfl) (by decide) ?_
    refine r_istore_n (ls' := lset1 ls 3 (.int 0)) (q119 (i := 81) rfl) (Nat.le_of_ble_eq_true rfl) rfl ?_
    have l1 := lk1 (k := 3) (v := .int 0) l1 (by decide) (Or.inr (by decide))
    have l2 := lk1 (k := 3) (v := .int 0) l2 (by decide) (Or.inl rfl)
    have l0 := lk1 (k := 3) (v := .int 0) l0 (by decide) (Or.inr (by decide))
    have l3 := lk0 ls 3 (.int 0)
    generalize lset1 ls 3 (.int 0) = ls at l3 l1 l2 l0 ⊢
    refine r_iload_n (q119 (i := 82) rfl) l3 ?_
    refine r_if 174 (q119 (i := 83) rfl) (by decide) (fun _ => ?_) (fun zz => absurd (show (0 : Int32) = 0 from by decide) zz)
    refine r_iload_n (q119 (i := 92) rfl) l1 ?_
    refine r_if 217 (q119 (i := 93) rfl) (by decide) (fun _ => ?_) (fun zz => absurd (show (0 : Int32) = 0 from by decide) zz)
    refine r_iload_n (q119 (i := 119) rfl) l1 ?_
    refine r_if 244 (q119 (i := 120) rfl) (by decide) (fun _ => ?_) (fun zz => absurd (show (0 : Int32) = 0 from by decide) zz)
    refine r_iconst (v := 0) (q119 (i := 132) rfl) (by decide) ?_
    refine r_istore_n (ls' := lset1 ls 1 (.int 0)) (q119 (i := 133) rfl) (Nat.le_of_ble_eq_true rfl) rfl ?_
    have l3 := lk1 (k := 1) (v := .int 0) l3 (by decide) (Or.inr (by decide))
    have l2 := lk1 (k := 1) (v := .int 0) l2 (by decide) (Or.inr (by decide))
    have l0 := lk1 (k := 1) (v := .int 0) l0 (by decide) (Or.inl rfl)
    have l1 := lk0 ls 1 (.int 0)
    generalize lset1 ls 1 (.int 0) = ls at l1 l3 l2 l0 ⊢
    refine r_iinc (y := 2) (q119 (i := 134) rfl) (Nat.le_of_ble_eq_true rfl) l2 (by decide) rfl ?_
    have l1 := lk1 (k := 2) (v := .int 2) l1 (by decide) (Or.inl rfl)
    have l3 := lk1 (k := 2) (v := .int 2) l3 (by decide) (Or.inr (by decide))
    have l0 := lk1 (k := 2) (v := .int 2) l0 (by decide) (Or.inr (by decide))
    have l2 := lk0 ls 2 (.int 2)
    generalize lset1 ls 2 (.int 2) = ls at l2 l1 l3 l0 ⊢
    refine r_goto 44 (q119 (i := 135) rfl) (by decide) ?_
    refine r_iload_n (q119 (i := 22) rfl) l2 ?_
    refine r_iconst (v := 5) (q119 (i := 23) rfl) (by decide) ?_
    refine r_icmp 252 (q119 (i := 24) rfl) (by decide) (fun zz => absurd zz (show ¬ (5 ≤ (2 : Int32)) from by decide)) (fun _ => ?_)
    refine r_iload_n (q119 (i := 25) rfl) l1 ?_
    refine r_if 252 (q119 (i := 26) rfl) (by decide) (fun _ => ?_) (fun zz => absurd (show (0 : Int32) = 0 from by decide) zz)
    exact kk ls l0
set_option maxHeartbeats 2000000 in
set_option maxRecDepth 10000 in
theorem fl_0 {d : Nat} {B : Nat → Int32} {z n : Nat} (hn : n ≤ 12) {h : hp} (S : Sh h) (T : TM h B z) (e1 : hI h 47 1 = nI n) {q : hst} (hq : q.1 = 0) {a : Nat} (ea : hI h 47 27 = nI (a + 1)) (ha : a + 1 ≤ z) (hc : cb B z a = 32) (D : HDM h q (a + 1)) (ft : FTM h (hft n q)) : ∃ h', HE h' z (FhT B z n (hdR B z 5 a q)) ∧ FrH h h' ∧ ∀ (Q : resP) (bc bs : Nat), (∀ ls : List (Nat × Value), ls.lookup 0 = some (.ref 47) → Wp (Ex (d + 2)) 119 Q 252 ls [] h' bc bs) → ∀ ls : List (Nat × Value), ls.lookup 2 = some (.int 0) → ls.lookup 1 = some (.int 1) → ls.lookup 0 = some (.ref 47) → Wp (Ex (d + 2)) 119 Q 44 ls [] h bc bs := by
  have hz := T.2.2.1
  have hp : ∀ i, i < q.1 → q.2.2 i < a + 1 := fun i hi => (D.1 i hi).2.2.2
  by_cases g : dg B z (a + 1) = true
  · obtain ⟨h4, ft4, eb, D4, F4, K4⟩ := flA_0 (d := d) hn S T e1 hq ea ha D ft g
    obtain ⟨n1, n2, n3⟩ := numP_le B z ha
    have S4 := F4.S S
    have T4 := F4.T T
    have er : hdR B z 5 a q = hdR B z 4 (numP B z (a + 1)).2 (qad q (numP B z (a + 1)).1 (a + 1)) := by
      show (if cb B z a = 32 then (if dg B z (a + 1) then _ else _) else _) = _
      rw [if_pos hc, if_pos g]; rfl
    rw [er]
    obtain ⟨b, eq⟩ : ∃ b, b = (numP B z (a + 1)).2 := ⟨_, rfl⟩
    obtain ⟨q', eq'⟩ : ∃ x, x = qad q (numP B z (a + 1)).1 (a + 1) := ⟨_, rfl⟩
    have hq' : q'.1 = 0 + 1 := by rw [eq']; show q.1 + 1 = _; rw [hq]
    rw [← eq'] at ft4 D4 ⊢
    rw [← eq] at eb D4 n1 n2 ⊢
    have hp' : ∀ i, i < q'.1 → q'.2.2 i < b := fun i hi => (D4.1 i hi).2.2.2
    obtain ⟨h5, R5, st5, F5, _⟩ := sp_is (d := d) S4 T4 ft4 eb n2 (c := 32) (by decide)
    have F45 := F4.tr F5.H
    by_cases c5 : cb B z b = 32
    · rw [if_pos c5] at R5 st5
      obtain ⟨ec, hb1, ft5⟩ := st5
      obtain ⟨h6, E6, F6, K5⟩ := fl_1 (d := d) hn (F5.S S4) (F5.T T4) ((F45.2.2 1 (by decide)).trans e1) hq' ec hb1 c5 ⟨fun i hi => by
        rw [F5.2.1 1075 (by decide), F5.2.1 1076 (by decide)]
        obtain ⟨x1, x2, x3, x4⟩ := D4.1 i hi
        exact ⟨x1, x2, x3, by omega⟩, D4.2⟩ ft5
      refine ⟨h6, E6, F45.tr F6, fun Q bc bs kk ls l2 l1 l0 => K4 Q bc bs (fun ls l2 l1 l0 => ?_) ls l2 l1 l0⟩
      refine r_iload_n (q119 (i := 119) rfl) l1 ?_
      refine r_if 244 (q119 (i := 120) rfl) (by decide) (fun zz => absurd zz (show ¬ ((1 : Int32) = 0) from by decide)) (fun _ => ?_)
      refine r_aload_n (q119 (i := 121) rfl) l0 ?_
      refine r_iload_n (q119 (i := 122) rfl) l2 ?_
      refine r_iconst (v := 4) (q119 (i := 123) rfl) (by decide) ?_
      refine r_icmp 232 (q119 (i := 124) rfl) (by decide) (fun zz => absurd zz (show ¬ (4 ≤ (0 : Int32)) from by decide)) (fun _ => ?_)
      refine r_bipush (v := nI 32) (q119 (i := 125) rfl) (by decide) ?_
      refine r_goto 234 (q119 (i := 126) rfl) (by decide) ?_
      refine r_cV (d := _) (q119 (i := 128) rfl) rfl rfl rfl (k_47 S4) (Nat.le_of_ble_eq_true rfl) (Nat.zero_le _) (Nat.zero_le _) R5 ?_
      show Wp _ _ _ 237 ls [.int 1] h5 _ _
      refine r_if 244 (q119 (i := 129) rfl) (by decide) (fun zz => absurd zz (show ¬ ((1 : Int32) = 0) from by decide)) (fun _ => ?_)
      refine r_iconst (v := 1) (q119 (i := 130) rfl) (by decide) ?_
      refine r_goto 245 (q119 (i := 131) rfl) (by decide) ?_
      refine r_istore_n (ls' := lset1 ls 1 (.int 1)) (q119 (i := 133) rfl) (Nat.le_of_ble_eq_true rfl) rfl ?_
      have l2 := lk1 (k := 1) (v := .int 1) l2 (by decide) (Or.inr (by decide))
      have l0 := lk1 (k := 1) (v := .int 1) l0 (by decide) (Or.inl rfl)
      have l1 := lk0 ls 1 (.int 1)
      generalize lset1 ls 1 (.int 1) = ls at l1 l2 l0 ⊢
      refine r_iinc (y := 1) (q119 (i := 134) rfl) (Nat.le_of_ble_eq_true rfl) l2 (by decide) rfl ?_
      have l1 := lk1 (k := 2) (v := .int 1) l1 (by decide) (Or.inl rfl)
      have l0 := lk1 (k := 2) (v := .int 1) l0 (by decide) (Or.inr (by decide))
      have l2 := lk0 ls 2 (.int 1)
      generalize lset1 ls 2 (.int 1) = ls at l2 l1 l0 ⊢
      refine r_goto 44 (q119 (i := 135) rfl) (by decide) ?_
      exact K5 Q bc bs kk ls l2 l1 l0
    · rw [if_neg c5] at R5 st5
      have er2 : hdR B z 4 b q' = (q', .error (1, b)) := by
        show (if cb B z b = 32 then _ else _) = _
        rw [if_neg c5]
      rw [er2]
      refine ⟨h5, ?_, F45, fun Q bc bs kk ls l2 l1 l0 => K4 Q bc bs (fun ls l2 l1 l0 => ?_) ls l2 l1 l0⟩
      · unfold FhT
        rcases hft_lt (n := n) hp' (by omega) with ⟨y1, y2⟩ | ⟨p, y1, y2, y3, y4⟩
        · rw [if_neg y2]
          have := st5.2
          rw [y1] at this
          exact this
        · rw [if_pos y3]
          have := st5.2
          rw [y1, ff_hi (e := (2, p)) (Nat.le_of_lt y2), y4] at this
          exact this
      refine r_iload_n (q119 (i := 119) rfl) l1 ?_
      refine r_if 244 (q119 (i := 120) rfl) (by decide) (fun zz => absurd zz (show ¬ ((1 : Int32) = 0) from by decide)) (fun _ => ?_)
      refine r_aload_n (q119 (i := 121) rfl) l0 ?_
      refine r_iload_n (q119 (i := 122) rfl) l2 ?_
      refine r_iconst (v := 4) (q119 (i := 123) rfl) (by decide) ?_
      refine r_icmp 232 (q119 (i := 124) rfl) (by decide) (fun zz => absurd zz (show ¬ (4 ≤ (0 : Int32)) from by decide)) (fun _ => ?_)
      refine r_bipush (v := nI 32) (q119 (i := 125) rfl) (by decide) ?_
      refine r_goto 234 (q119 (i := 126) rfl) (by decide) ?_
      refine r_cV (d := _) (q119 (i := 128) rfl) rfl rfl rfl (k_47 S4) (Nat.le_of_ble_eq_true rfl) (Nat.zero_le _) (Nat.zero_le _) R5 ?_
      show Wp _ _ _ 237 ls [.int 0] h5 _ _
      refine r_if 244 (q119 (i := 129) rfl) (by decide) (fun _ => ?_) (fun zz => absurd (show (0 : Int32) = 0 from by decide) zz)
      refine r_iconst (v := 0) (q119 (i := 132) rfl) (by decide) ?_
      refine r_istore_n (ls' := lset1 ls 1 (.int 0)) (q119 (i := 133) rfl) (Nat.le_of_ble_eq_true rfl) rfl ?_
      have l2 := lk1 (k := 1) (v := .int 0) l2 (by decide) (Or.inr (by decide))
      have l0 := lk1 (k := 1) (v := .int 0) l0 (by decide) (Or.inl rfl)
      have l1 := lk0 ls 1 (.int 0)
      generalize lset1 ls 1 (.int 0) = ls at l1 l2 l0 ⊢
      refine r_iinc (y := 1) (q119 (i := 134) rfl) (Nat.le_of_ble_eq_true rfl) l2 (by decide) rfl ?_
      have l1 := lk1 (k := 2) (v := .int 1) l1 (by decide) (Or.inl rfl)
      have l0 := lk1 (k := 2) (v := .int 1) l0 (by decide) (Or.inr (by decide))
      have l2 := lk0 ls 2 (.int 1)
      generalize lset1 ls 2 (.int 1) = ls at l2 l1 l0 ⊢
      refine r_goto 44 (q119 (i := 135) rfl) (by decide) ?_
      refine r_iload_n (q119 (i := 22) rfl) l2 ?_
      refine r_iconst (v := 5) (q119 (i := 23) rfl) (by decide) ?_
      refine r_icmp 252 (q119 (i := 24) rfl) (by decide) (fun zz => absurd zz (show ¬ (5 ≤ (1 : Int32)) from by decide)) (fun _ => ?_)
      refine r_iload_n (q119 (i := 25) rfl) l1 ?_
      refine r_if 252 (q119 (i := 26) rfl) (by decide) (fun _ => ?_) (fun zz => absurd (show (0 : Int32) = 0 from by decide) zz)
      exact kk ls l0
  · have er : hdR B z 5 a q = (q, .error (1, a + 1)) := by
      show (if cb B z a = 32 then (if dg B z (a + 1) then _ else _) else _) = _
      rw [if_pos hc, if_neg g]
    rw [er]
    have F1 : FrH h (sI h 1076 0 (nI (a + 1))) := FrH.w (by decide) _ _
    obtain ⟨h2, Rn, st, F2⟩ := sp_mnum (d := d) (h := sI h 1076 0 (nI (a + 1))) (F1.S S) (F1.T T) (t := hft n q) (FTM.to rfl rfl ft) (a := a + 1) ea ha
    rw [if_neg g] at Rn st
    obtain ⟨_, ev, ft2⟩ := st
    have S2 : Sh h2 := F2.S (F1.S S)
    refine ⟨sI h2 1075 0 0, ?_, (F1.tr F2.H).tr (FrH.w (by decide) _ _), fun Q bc bs kk ls l2 l1 l0 => ?_⟩
    · unfold FhT
      rcases hft_lt (n := n) hp (by omega) with ⟨y1, y2⟩ | ⟨p, y1, y2, y3, y4⟩
      · rw [if_neg y2]
        rw [y1] at ft2
        exact ft2
      · rw [if_pos y3]
        rw [y1, ff_hi (e := (2, p)) (Nat.le_of_lt y2), y4] at ft2
        exact ft2
    refine r_iload_n (q119 (i := 22) rfl) l2 ?_
    refine r_iconst (v := 5) (q119 (i := 23) rfl) (by decide) ?_
    refine r_icmp 252 (q119 (i := 24) rfl) (by decide) (fun zz => absurd zz (show ¬ (5 ≤ (0 : Int32)) from by decide)) (fun _ => ?_)
    refine r_iload_n (q119 (i := 25) rfl) l1 ?_
    refine r_if 252 (q119 (i := 26) rfl) (by decide) (fun zz => absurd zz (show ¬ ((1 : Int32) = 0) from by decide)) (fun _ => ?_)
    refine r_aload_n (q119 (i := 27) rfl) l0 ?_
    refine r_getR (b := 1076) (q119 (i := 28) rfl) rfl (by decide) (k_47 S) (fun _ _ _ => rfl) (r_47_31 S) ?_
    refine r_iload_n (q119 (i := 29) rfl) l2 ?_
    refine r_aload_n (q119 (i := 30) rfl) l0 ?_
    refine r_getI (x := nI (a + 1)) (q119 (i := 31) rfl) rfl (by decide) (k_47 S) (fun _ _ _ => rfl) ea ?_
    refine r_iastore (q119 (i := 32) rfl) (k_1076 S) (vp_in_nI (n := 0) (by decide) (by decide)) ?_
    show Wp _ _ _ _ _ _ (sI h 1076 0 (nI (a + 1))) _ _
    refine r_aload_n (q119 (i := 33) rfl) l0 ?_
    refine r_cV (d := _) (q119 (i := 34) rfl) rfl rfl rfl (k_47 S) (Nat.le_of_ble_eq_true rfl) (Nat.zero_le _) (Nat.zero_le _) Rn ?_
    show Wp _ _ _ 67 ls [.int 0] h2 _ _
    refine r_istore_n (ls' := lset1 ls 1 (.int 0)) (q119 (i := 35) rfl) (Nat.le_of_ble_eq_true rfl) rfl ?_
    have l2 := lk1 (k := 1) (v := .int 0) l2 (by decide) (Or.inr (by decide))
    have l0 := lk1 (k := 1) (v := .int 0) l0 (by decide) (Or.inl rfl)
    have l1 := lk0 ls 1 (.int 0)
    generalize lset1 ls 1 (.int 0) = ls at l1 l2 l0 ⊢
    refine r_aload_n (q119 (i := 36) rfl) l0 ?_
    refine r_getR (b := 1075) (q119 (i := 37) rfl) rfl (by decide) (k_47 S2) (fun _ _ _ => rfl) (r_47_30 S2) ?_
    refine r_iload_n (q119 (i := 38) rfl) l2 ?_
    refine r_aload_n (q119 (i := 39) rfl) l0 ?_
    refine r_getI (x := 0) (q119 (i := 40) rfl) rfl (by decide) (k_47 S2) (fun _ _ _ => rfl) ev ?_
    refine r_iastore (q119 (i := 41) rfl) (k_1075 S2) (vp_in_nI (n := 0) (by decide) (by decide)) ?_
    show Wp _ _ _ _ _ _ (sI h2 1075 0 0) _ _
    refine r_iload_n (q119 (i := 42) rfl) l1 ?_
    refine r_if 156 (q119 (i := 43) rfl) (by decide) (fun _ => ?_) (fun zz => absurd (show (0 : Int32) = 0 from by decide) zz)
    refine r_iconst (v := 0) (q119 (i := 80) rfl) (by decide) ?_
    refine r_istore_n (ls' := lset1 ls 3 (.int 0)) (q119 (i := 81) rfl) (Nat.le_of_ble_eq_true rfl) rfl ?_
    have l1 := lk1 (k := 3) (v := .int 0) l1 (by decide) (Or.inr (by decide))
    have l2 := lk1 (k := 3) (v := .int 0) l2 (by decide) (Or.inl rfl)
    have l0 := lk1 (k := 3) (v := .int 0) l0 (by decide) (Or.inr (by decide))
    have l3 := lk0 ls 3 (.int 0)
    generalize lset1 ls 3 (.int 0) = ls at l3 l1 l2 l0 ⊢
    refine r_iload_n (q119 (i := 82) rfl) l3 ?_
    refine r_if 174 (q119 (i := 83) rfl) (by decide) (fun _ => ?_) (fun zz => absurd (show (0 : Int32) = 0 from by decide) zz)
    refine r_iload_n (q119 (i := 92) rfl) l1 ?_
    refine r_if 217 (q119 (i := 93) rfl) (by decide) (fun _ => ?_) (fun zz => absurd (show (0 : Int32) = 0 from by decide) zz)
    refine r_iload_n (q119 (i := 119) rfl) l1 ?_
    refine r_if 244 (q119 (i := 120) rfl) (by decide) (fun _ => ?_) (fun zz => absurd (show (0 : Int32) = 0 from by decide) zz)
    refine r_iconst (v := 0) (q119 (i := 132) rfl) (by decide) ?_
    refine r_istore_n (ls' := lset1 ls 1 (.int 0)) (q119 (i := 133) rfl) (Nat.le_of_ble_eq_true rfl) rfl ?_
    have l3 := lk1 (k := 1) (v := .int 0) l3 (by decide) (Or.inr (by decide))
    have l2 := lk1 (k := 1) (v := .int 0) l2 (by decide) (Or.inr (by decide))
    have l0 := lk1 (k := 1) (v := .int 0) l0 (by decide) (Or.inl rfl)
    have l1 := lk0 ls 1 (.int 0)
    generalize lset1 ls 1 (.int 0) = ls at l1 l3 l2 l0 ⊢
    refine r_iinc (y := 1) (q119 (i := 134) rfl) (Nat.le_of_ble_eq_true rfl) l2 (by decide) rfl ?_
    have l1 := lk1 (k := 2) (v := .int 1) l1 (by decide) (Or.inl rfl)
    have l3 := lk1 (k := 2) (v := .int 1) l3 (by decide) (Or.inr (by decide))
    have l0 := lk1 (k := 2) (v := .int 1) l0 (by decide) (Or.inr (by decide))
    have l2 := lk0 ls 2 (.int 1)
    generalize lset1 ls 2 (.int 1) = ls at l2 l1 l3 l0 ⊢
    refine r_goto 44 (q119 (i := 135) rfl) (by decide) ?_
    refine r_iload_n (q119 (i := 22) rfl) l2 ?_
    refine r_iconst (v := 5) (q119 (i := 23) rfl) (by decide) ?_
    refine r_icmp 252 (q119 (i := 24) rfl) (by decide) (fun zz => absurd zz (show ¬ (5 ≤ (1 : Int32)) from by decide)) (fun _ => ?_)
    refine r_iload_n (q119 (i := 25) rfl) l1 ?_
    refine r_if 252 (q119 (i := 26) rfl) (by decide) (fun _ => ?_) (fun zz => absurd (show (0 : Int32) = 0 from by decide) zz)
    exact kk ls l0
set_option maxHeartbeats 2000000 in
set_option maxRecDepth 10000 in
theorem sp_fl {d : Nat} {B : Nat → Int32} {z n : Nat} (hn : n ≤ 12) {h : hp} (S : Sh h) (T : TM h B z) (e1 : hI h 47 1 = nI n) (ea : hI h 47 27 = 0) (ft : FTM h none) : ∃ h', Run (d + 2 + 1) 119 [.ref 47] h 0 0 (some (.int (match Fhead B z n with
    | .error _ => 0
    | .ok _ => 1))) h' ∧ HE h' z (Fhead B z n) ∧ FrH h h' := by
  have hz := T.2.2.1
  have fin : ∀ (h' : hp) (r : Except (Nat × Nat) (Nat × (Nat → Nat))), Sh h' → HE h' z r → ∀ (Q : resP), Q (some (.int (match r with
    | .error _ => 0
    | .ok _ => 1))) h' → ∀ ls : List (Nat × Value), ls.lookup 0 = some (.ref 47) → Wp (Ex (d + 2)) 119 Q 252 ls [] h' 0 0 := fun h' r S' E Q hQ ls l0 => by
    cases r with
    | error e =>
      have E1 : hI h' 47 28 = nI e.1 := E.1
      have E2 := E.2.2.1
      refine r_aload_n (q119 (i := 136) rfl) l0 ?_
      refine r_getI (x := nI e.1) (q119 (i := 137) rfl) rfl (by decide) (k_47 S') (fun _ _ _ => rfl) E1 ?_
      refine r_if 263 (q119 (i := 138) rfl) (by decide) (fun _ => ?_) (fun zz => absurd (show ¬ nI e.1 = 0 from nI_ne0 E2.1 (by omega)) zz)
      refine r_iconst (v := 0) (q119 (i := 141) rfl) (by decide) ?_
      exact r_zret (q119 (i := 142) rfl) rfl (by decide) hQ
    | ok q =>
      have E1 : hI h' 47 28 = 0 := E.1.1
      refine r_aload_n (q119 (i := 136) rfl) l0 ?_
      refine r_getI (x := 0) (q119 (i := 137) rfl) rfl (by decide) (k_47 S') (fun _ _ _ => rfl) E1 ?_
      refine r_if 263 (q119 (i := 138) rfl) (by decide) (fun zz => absurd zz (show ¬ (¬ (0 : Int32) = 0) from by decide)) (fun _ => ?_)
      refine r_iconst (v := 1) (q119 (i := 139) rfl) (by decide) ?_
      refine r_goto 264 (q119 (i := 140) rfl) (by decide) ?_
      exact r_zret (q119 (i := 142) rfl) rfl (by decide) hQ
  obtain ⟨h1, R1, st1, F1, _⟩ := sp_is (d := d) S T (t := none) ft (a := 0) ea (Nat.zero_le _) (c := 97) (by decide)
  have S1 := F1.S S
  unfold Fhead
  by_cases c1 : cb B z 0 = 97
  · rw [if_pos c1] at R1 st1 ⊢
    obtain ⟨a1, b1, f1⟩ := st1
    obtain ⟨h2, R2, st2, F2, _⟩ := sp_is (d := d) S1 (F1.T T) (t := none) f1 a1 b1 (c := 97) (by decide)
    have S2 := F2.S S1
    have F12 := F1.tr F2
    by_cases c2 : cb B z 1 = 97
    · rw [if_pos c2] at R2 st2 ⊢
      obtain ⟨a2, b2, f2⟩ := st2
      obtain ⟨h3, R3, st3, F3, _⟩ := sp_is (d := d) S2 (F12.T T) (t := none) f2 a2 b2 (c := 103) (by decide)
      have S3 := F3.S S2
      have F13 := F12.tr F3
      by_cases c3 : cb B z 2 = 103
      · rw [if_pos c3] at R3 st3 ⊢
        obtain ⟨a3, b3, f3⟩ := st3
        obtain ⟨h4, R4, st4, F4, _⟩ := sp_is (d := d) S3 (F13.T T) (t := none) f3 a3 b3 (c := 32) (by decide)
        have S4 := F4.S S3
        have F14 := F13.tr F4
        show ∃ h', Run (d + 2 + 1) 119 [.ref 47] h 0 0 (some (.int (match FhT B z n (hdR B z 5 3 h00) with
          | .error _ => 0
          | .ok _ => 1))) h' ∧ HE h' z (FhT B z n (hdR B z 5 3 h00)) ∧ FrH h h'
        by_cases c4 : cb B z 3 = 32
        · rw [if_pos c4] at R4 st4
          obtain ⟨a4, b4, f4⟩ := st4
          obtain ⟨h5, E5, F5, K⟩ := fl_0 (d := d) hn S4 (F14.T T) ((F14.2.2 1 (by decide)).trans e1) (q := h00) rfl a4 b4 c4 ⟨fun i hi => absurd hi (Nat.not_lt_zero i), fun i j _ hj => absurd hj (Nat.not_lt_zero j)⟩ f4
          refine ⟨h5, ?_, E5, F14.H.tr F5⟩
          refine Run.of (d := d + 2) (Nat.le_of_ble_eq_true rfl) (fun Q hQ => ?_)
          show Wp (Ex (d + 2)) 119 Q 0 [(0, .ref 47)] [] h 0 0
          have T252 := fin h5 _ (F5.S S4) E5 Q hQ
          refine r_aload_n (q119 (i := 0) rfl) rfl ?_
          refine r_bipush (v := nI 97) (q119 (i := 1) rfl) (by decide) ?_
          refine r_cV (d := _) (q119 (i := 2) rfl) rfl rfl rfl (k_47 S) (Nat.le_of_ble_eq_true rfl) (Nat.zero_le _) (Nat.zero_le _) R1 ?_
          show Wp _ _ _ 6 [(0, .ref 47)] [.int 1] h1 _ _
          refine r_if 40 (q119 (i := 3) rfl) (by decide) (fun zz => absurd zz (show ¬ ((1 : Int32) = 0) from by decide)) (fun _ => ?_)
          refine r_aload_n (q119 (i := 4) rfl) rfl ?_
          refine r_bipush (v := nI 97) (q119 (i := 5) rfl) (by decide) ?_
          refine r_cV (d := _) (q119 (i := 6) rfl) rfl rfl rfl (k_47 S1) (Nat.le_of_ble_eq_true rfl) (Nat.zero_le _) (Nat.zero_le _) R2 ?_
          show Wp _ _ _ 15 [(0, .ref 47)] [.int 1] h2 _ _
          refine r_if 40 (q119 (i := 7) rfl) (by decide) (fun zz => absurd zz (show ¬ ((1 : Int32) = 0) from by decide)) (fun _ => ?_)
          refine r_aload_n (q119 (i := 8) rfl) rfl ?_
          refine r_bipush (v := nI 103) (q119 (i := 9) rfl) (by decide) ?_
          refine r_cV (d := _) (q119 (i := 10) rfl) rfl rfl rfl (k_47 S2) (Nat.le_of_ble_eq_true rfl) (Nat.zero_le _) (Nat.zero_le _) R3 ?_
          show Wp _ _ _ 24 [(0, .ref 47)] [.int 1] h3 _ _
          refine r_if 40 (q119 (i := 11) rfl) (by decide) (fun zz => absurd zz (show ¬ ((1 : Int32) = 0) from by decide)) (fun _ => ?_)
          refine r_aload_n (q119 (i := 12) rfl) rfl ?_
          refine r_bipush (v := nI 32) (q119 (i := 13) rfl) (by decide) ?_
          refine r_cV (d := _) (q119 (i := 14) rfl) rfl rfl rfl (k_47 S3) (Nat.le_of_ble_eq_true rfl) (Nat.zero_le _) (Nat.zero_le _) R4 ?_
          show Wp _ _ _ 33 [(0, .ref 47)] [.int 1] h4 _ _
          refine r_if 40 (q119 (i := 15) rfl) (by decide) (fun zz => absurd zz (show ¬ ((1 : Int32) = 0) from by decide)) (fun _ => ?_)
          refine r_iconst (v := 1) (q119 (i := 16) rfl) (by decide) ?_
          refine r_goto 41 (q119 (i := 17) rfl) (by decide) ?_
          refine r_istore_n (ls' := [(1, .int 1), (0, .ref 47)]) (q119 (i := 19) rfl) (Nat.le_of_ble_eq_true rfl) rfl ?_
          refine r_iconst (v := 0) (q119 (i := 20) rfl) (by decide) ?_
          refine r_istore_n (ls' := [(2, .int 0), (1, .int 1), (0, .ref 47)]) (q119 (i := 21) rfl) (Nat.le_of_ble_eq_true rfl) rfl ?_
          exact K Q 0 0 T252 _ rfl rfl rfl
        · rw [if_neg c4] at R4 st4
          have er : FhT B z n (hdR B z 5 3 h00) = .error (1, 3) := by
            have e2 : hdR B z 5 3 h00 = (h00, .error (1, 3)) := by
              show (if cb B z 3 = 32 then _ else _) = _
              rw [if_neg c4]
            rw [e2]
            unfold FhT
            exact if_neg (Nat.not_lt_zero _)
          rw [er]
          refine ⟨h4, ?_, st4.2, F14.H⟩
          refine Run.of (d := d + 2) (Nat.le_of_ble_eq_true rfl) (fun Q hQ => ?_)
          show Wp (Ex (d + 2)) 119 Q 0 [(0, .ref 47)] [] h 0 0
          have T252 := fin h4 (.error (1, 3)) S4 st4.2 Q hQ
          refine r_aload_n (q119 (i := 0) rfl) rfl ?_
          refine r_bipush (v := nI 97) (q119 (i := 1) rfl) (by decide) ?_
          refine r_cV (d := _) (q119 (i := 2) rfl) rfl rfl rfl (k_47 S) (Nat.le_of_ble_eq_true rfl) (Nat.zero_le _) (Nat.zero_le _) R1 ?_
          show Wp _ _ _ 6 [(0, .ref 47)] [.int 1] h1 _ _
          refine r_if 40 (q119 (i := 3) rfl) (by decide) (fun zz => absurd zz (show ¬ ((1 : Int32) = 0) from by decide)) (fun _ => ?_)
          refine r_aload_n (q119 (i := 4) rfl) rfl ?_
          refine r_bipush (v := nI 97) (q119 (i := 5) rfl) (by decide) ?_
          refine r_cV (d := _) (q119 (i := 6) rfl) rfl rfl rfl (k_47 S1) (Nat.le_of_ble_eq_true rfl) (Nat.zero_le _) (Nat.zero_le _) R2 ?_
          show Wp _ _ _ 15 [(0, .ref 47)] [.int 1] h2 _ _
          refine r_if 40 (q119 (i := 7) rfl) (by decide) (fun zz => absurd zz (show ¬ ((1 : Int32) = 0) from by decide)) (fun _ => ?_)
          refine r_aload_n (q119 (i := 8) rfl) rfl ?_
          refine r_bipush (v := nI 103) (q119 (i := 9) rfl) (by decide) ?_
          refine r_cV (d := _) (q119 (i := 10) rfl) rfl rfl rfl (k_47 S2) (Nat.le_of_ble_eq_true rfl) (Nat.zero_le _) (Nat.zero_le _) R3 ?_
          show Wp _ _ _ 24 [(0, .ref 47)] [.int 1] h3 _ _
          refine r_if 40 (q119 (i := 11) rfl) (by decide) (fun zz => absurd zz (show ¬ ((1 : Int32) = 0) from by decide)) (fun _ => ?_)
          refine r_aload_n (q119 (i := 12) rfl) rfl ?_
          refine r_bipush (v := nI 32) (q119 (i := 13) rfl) (by decide) ?_
          refine r_cV (d := _) (q119 (i := 14) rfl) rfl rfl rfl (k_47 S3) (Nat.le_of_ble_eq_true rfl) (Nat.zero_le _) (Nat.zero_le _) R4 ?_
          show Wp _ _ _ 33 [(0, .ref 47)] [.int 0] h4 _ _
          refine r_if 40 (q119 (i := 15) rfl) (by decide) (fun _ => ?_) (fun zz => absurd (show (0 : Int32) = 0 from by decide) zz)
          refine r_iconst (v := 0) (q119 (i := 18) rfl) (by decide) ?_
          refine r_istore_n (ls' := [(1, .int 0), (0, .ref 47)]) (q119 (i := 19) rfl) (Nat.le_of_ble_eq_true rfl) rfl ?_
          refine r_iconst (v := 0) (q119 (i := 20) rfl) (by decide) ?_
          refine r_istore_n (ls' := [(2, .int 0), (1, .int 0), (0, .ref 47)]) (q119 (i := 21) rfl) (Nat.le_of_ble_eq_true rfl) rfl ?_
          refine r_iload_n (q119 (i := 22) rfl) rfl ?_
          refine r_iconst (v := 5) (q119 (i := 23) rfl) (by decide) ?_
          refine r_icmp 252 (q119 (i := 24) rfl) (by decide) (fun zz => absurd zz (show ¬ (5 ≤ (0 : Int32)) from by decide)) (fun _ => ?_)
          refine r_iload_n (q119 (i := 25) rfl) rfl ?_
          refine r_if 252 (q119 (i := 26) rfl) (by decide) (fun _ => ?_) (fun zz => absurd (show (0 : Int32) = 0 from by decide) zz)
          exact T252 _ rfl
      · rw [if_neg c3] at R3 st3 ⊢
        refine ⟨h3, ?_, st3.2, F13.H⟩
        refine Run.of (d := d + 2) (Nat.le_of_ble_eq_true rfl) (fun Q hQ => ?_)
        show Wp (Ex (d + 2)) 119 Q 0 [(0, .ref 47)] [] h 0 0
        have T252 := fin h3 (.error (1, 2)) S3 st3.2 Q hQ
        refine r_aload_n (q119 (i := 0) rfl) rfl ?_
        refine r_bipush (v := nI 97) (q119 (i := 1) rfl) (by decide) ?_
        refine r_cV (d := _) (q119 (i := 2) rfl) rfl rfl rfl (k_47 S) (Nat.le_of_ble_eq_true rfl) (Nat.zero_le _) (Nat.zero_le _) R1 ?_
        show Wp _ _ _ 6 [(0, .ref 47)] [.int 1] h1 _ _
        refine r_if 40 (q119 (i := 3) rfl) (by decide) (fun zz => absurd zz (show ¬ ((1 : Int32) = 0) from by decide)) (fun _ => ?_)
        refine r_aload_n (q119 (i := 4) rfl) rfl ?_
        refine r_bipush (v := nI 97) (q119 (i := 5) rfl) (by decide) ?_
        refine r_cV (d := _) (q119 (i := 6) rfl) rfl rfl rfl (k_47 S1) (Nat.le_of_ble_eq_true rfl) (Nat.zero_le _) (Nat.zero_le _) R2 ?_
        show Wp _ _ _ 15 [(0, .ref 47)] [.int 1] h2 _ _
        refine r_if 40 (q119 (i := 7) rfl) (by decide) (fun zz => absurd zz (show ¬ ((1 : Int32) = 0) from by decide)) (fun _ => ?_)
        refine r_aload_n (q119 (i := 8) rfl) rfl ?_
        refine r_bipush (v := nI 103) (q119 (i := 9) rfl) (by decide) ?_
        refine r_cV (d := _) (q119 (i := 10) rfl) rfl rfl rfl (k_47 S2) (Nat.le_of_ble_eq_true rfl) (Nat.zero_le _) (Nat.zero_le _) R3 ?_
        show Wp _ _ _ 24 [(0, .ref 47)] [.int 0] h3 _ _
        refine r_if 40 (q119 (i := 11) rfl) (by decide) (fun _ => ?_) (fun zz => absurd (show (0 : Int32) = 0 from by decide) zz)
        refine r_iconst (v := 0) (q119 (i := 18) rfl) (by decide) ?_
        refine r_istore_n (ls' := [(1, .int 0), (0, .ref 47)]) (q119 (i := 19) rfl) (Nat.le_of_ble_eq_true rfl) rfl ?_
        refine r_iconst (v := 0) (q119 (i := 20) rfl) (by decide) ?_
        refine r_istore_n (ls' := [(2, .int 0), (1, .int 0), (0, .ref 47)]) (q119 (i := 21) rfl) (Nat.le_of_ble_eq_true rfl) rfl ?_
        refine r_iload_n (q119 (i := 22) rfl) rfl ?_
        refine r_iconst (v := 5) (q119 (i := 23) rfl) (by decide) ?_
        refine r_icmp 252 (q119 (i := 24) rfl) (by decide) (fun zz => absurd zz (show ¬ (5 ≤ (0 : Int32)) from by decide)) (fun _ => ?_)
        refine r_iload_n (q119 (i := 25) rfl) rfl ?_
        refine r_if 252 (q119 (i := 26) rfl) (by decide) (fun _ => ?_) (fun zz => absurd (show (0 : Int32) = 0 from by decide) zz)
        exact T252 _ rfl
    · rw [if_neg c2] at R2 st2 ⊢
      refine ⟨h2, ?_, st2.2, F12.H⟩
      refine Run.of (d := d + 2) (Nat.le_of_ble_eq_true rfl) (fun Q hQ => ?_)
      show Wp (Ex (d + 2)) 119 Q 0 [(0, .ref 47)] [] h 0 0
      have T252 := fin h2 (.error (1, 1)) S2 st2.2 Q hQ
      refine r_aload_n (q119 (i := 0) rfl) rfl ?_
      refine r_bipush (v := nI 97) (q119 (i := 1) rfl) (by decide) ?_
      refine r_cV (d := _) (q119 (i := 2) rfl) rfl rfl rfl (k_47 S) (Nat.le_of_ble_eq_true rfl) (Nat.zero_le _) (Nat.zero_le _) R1 ?_
      show Wp _ _ _ 6 [(0, .ref 47)] [.int 1] h1 _ _
      refine r_if 40 (q119 (i := 3) rfl) (by decide) (fun zz => absurd zz (show ¬ ((1 : Int32) = 0) from by decide)) (fun _ => ?_)
      refine r_aload_n (q119 (i := 4) rfl) rfl ?_
      refine r_bipush (v := nI 97) (q119 (i := 5) rfl) (by decide) ?_
      refine r_cV (d := _) (q119 (i := 6) rfl) rfl rfl rfl (k_47 S1) (Nat.le_of_ble_eq_true rfl) (Nat.zero_le _) (Nat.zero_le _) R2 ?_
      show Wp _ _ _ 15 [(0, .ref 47)] [.int 0] h2 _ _
      refine r_if 40 (q119 (i := 7) rfl) (by decide) (fun _ => ?_) (fun zz => absurd (show (0 : Int32) = 0 from by decide) zz)
      refine r_iconst (v := 0) (q119 (i := 18) rfl) (by decide) ?_
      refine r_istore_n (ls' := [(1, .int 0), (0, .ref 47)]) (q119 (i := 19) rfl) (Nat.le_of_ble_eq_true rfl) rfl ?_
      refine r_iconst (v := 0) (q119 (i := 20) rfl) (by decide) ?_
      refine r_istore_n (ls' := [(2, .int 0), (1, .int 0), (0, .ref 47)]) (q119 (i := 21) rfl) (Nat.le_of_ble_eq_true rfl) rfl ?_
      refine r_iload_n (q119 (i := 22) rfl) rfl ?_
      refine r_iconst (v := 5) (q119 (i := 23) rfl) (by decide) ?_
      refine r_icmp 252 (q119 (i := 24) rfl) (by decide) (fun zz => absurd zz (show ¬ (5 ≤ (0 : Int32)) from by decide)) (fun _ => ?_)
      refine r_iload_n (q119 (i := 25) rfl) rfl ?_
      refine r_if 252 (q119 (i := 26) rfl) (by decide) (fun _ => ?_) (fun zz => absurd (show (0 : Int32) = 0 from by decide) zz)
      exact T252 _ rfl
  · rw [if_neg c1] at R1 st1 ⊢
    refine ⟨h1, ?_, st1.2, F1.H⟩
    refine Run.of (d := d + 2) (Nat.le_of_ble_eq_true rfl) (fun Q hQ => ?_)
    show Wp (Ex (d + 2)) 119 Q 0 [(0, .ref 47)] [] h 0 0
    have T252 := fin h1 (.error (1, 0)) S1 st1.2 Q hQ
    refine r_aload_n (q119 (i := 0) rfl) rfl ?_
    refine r_bipush (v := nI 97) (q119 (i := 1) rfl) (by decide) ?_
    refine r_cV (d := _) (q119 (i := 2) rfl) rfl rfl rfl (k_47 S) (Nat.le_of_ble_eq_true rfl) (Nat.zero_le _) (Nat.zero_le _) R1 ?_
    show Wp _ _ _ 6 [(0, .ref 47)] [.int 0] h1 _ _
    refine r_if 40 (q119 (i := 3) rfl) (by decide) (fun _ => ?_) (fun zz => absurd (show (0 : Int32) = 0 from by decide) zz)
    refine r_iconst (v := 0) (q119 (i := 18) rfl) (by decide) ?_
    refine r_istore_n (ls' := [(1, .int 0), (0, .ref 47)]) (q119 (i := 19) rfl) (Nat.le_of_ble_eq_true rfl) rfl ?_
    refine r_iconst (v := 0) (q119 (i := 20) rfl) (by decide) ?_
    refine r_istore_n (ls' := [(2, .int 0), (1, .int 0), (0, .ref 47)]) (q119 (i := 21) rfl) (Nat.le_of_ble_eq_true rfl) rfl ?_
    refine r_iload_n (q119 (i := 22) rfl) rfl ?_
    refine r_iconst (v := 5) (q119 (i := 23) rfl) (by decide) ?_
    refine r_icmp 252 (q119 (i := 24) rfl) (by decide) (fun zz => absurd zz (show ¬ (5 ≤ (0 : Int32)) from by decide)) (fun _ => ?_)
    refine r_iload_n (q119 (i := 25) rfl) rfl ?_
    refine r_if 252 (q119 (i := 26) rfl) (by decide) (fun _ => ?_) (fun zz => absurd (show (0 : Int32) = 0 from by decide) zz)
    exact T252 _ rfl
