/-! ===== fill ===== -/
def addg (c : cir) (g : Nat) (kd a b e : Int32) : cir := (u1 c.1 g kd, u1 c.2.1 g a, u1 c.2.2.1 g b, u1 c.2.2.2 g e)
def k0 (K : Bool) : Nat := if K then 1 else 0
def flA (t : txt) (K : Bool) (o : ost) : Nat → Nat → cir → cir
  | 0, _, c => c
  | m + 1, i, c => flA t K o m (i + 1) (addg c (k0 K + i) 0 (sg t K o.2 (sid t (o.1 i) 0)) (sg t K o.2 (sid t (o.1 i) 1)) 0)
def flO (t : txt) (K : Bool) (o : ost) : Nat → Nat → (Nat → Int32) → (Nat → Int32)
  | 0, _, c => c
  | m + 1, i, c => flO t K o m (i + 1) (u1 c i (sg t K o.2 (tU t i)))
def fl0 (K : Bool) (c : cir) : cir := if K then addg c 0 8 0 0 0 else c
/-- everything that fill reads of the text and of the order -/
def FT (h : hp) (t : txt) (K : Bool) (o : ost) : Prop := XT h t ∧ hI h 35 13 = (if K then 1 else 0) ∧ OR h (tN t) o
def fok (t : txt) (o : ost) : Prop := (∀ k, k < tN t → (o.2 k).isSome = true) ∧ (∀ j, j < tN t → o.1 j < tN t) ∧ ∀ i, i < tO t + 2 * tN t → tU t i / 2 = 0 ∨ tD t (tU t i / 2) ≠ 0
theorem FT.to {h h' : hp} {t : txt} {K : Bool} {o : ost} (F : FT h t K o) (e : ∀ k, 35 ≤ k → k ≤ 46 → hI h' k = hI h k) : FT h' t K o := by
  unfold FT XT OR RK at *
  rw [e 35 (by decide) (by decide), e 38 (by decide) (by decide), e 39 (by decide) (by decide), e 43 (by decide) (by decide), e 44 (by decide) (by decide)]
  exact F
def FrF_3 (h h' : hp) : Prop := h'.2 = h.2 ∧ (∀ k, (k < 3 ∨ 8 < k) → hI h' k = hI h k) ∧ hI h' 3 6 = hI h 3 6
theorem FrF_3.rf (h : hp) : FrF_3 h h := ⟨rfl, fun _ _ => rfl, rfl⟩
theorem FrF_3.tr {h h' h'' : hp} (a : FrF_3 h h') (b : FrF_3 h' h'') : FrF_3 h h'' := ⟨b.1.trans a.1, fun k x => (b.2.1 k x).trans (a.2.1 k x), b.2.2.trans a.2.2⟩
theorem FrF_3.S {h h' : hp} (F : FrF_3 h h') (S : Sh h) : Sh h' := S.to (by rw [F.1])
theorem FrF_3.F {h h' : hp} (F : FrF_3 h h') {t : txt} {K : Bool} {o : ost} (T : FT h t K o) : FT h' t K o := T.to (fun k x y => F.2.1 k (by omega))
def adH_3 (h : hp) (g : Nat) (kd a b e : Int32) : hp := sI (sI (sI (sI (sI h 4 g kd) 5 g a) 6 g b) 7 g e) 3 7 (nI (g + 1))
theorem adH_3_F (h : hp) (g : Nat) (kd a b e : Int32) : FrF_3 h (adH_3 h g kd a b e) := ⟨rfl, fun k x => by
  show u2 (u2 (u2 (u2 (u2 h.1 4 _ _) 5 _ _) 6 _ _) 7 _ _) 3 _ _ k = _
  rw [u2_n (by omega), u2_n (by omega), u2_n (by omega), u2_n (by omega), u2_n (by omega)], rfl⟩
/-- the circuit in the heap: its gates, their count, its outs, their count -/
def CH_3 (h : hp) (c : cir) (g : Nat) (w : Nat → Int32) (k : Nat) : Prop := cirH h 3 = c ∧ hI h 3 7 = nI g ∧ hI h 8 = w ∧ hI h 3 8 = nI k
theorem CH_3_g {h : hp} {c : cir} {g : Nat} {w : Nat → Int32} {k : Nat} (C : CH_3 h c g w k) (kd a b e : Int32) : CH_3 (adH_3 h g kd a b e) (addg c g kd a b e) (g + 1) w k := by
  obtain ⟨c1, c2, c3, c4⟩ := C
  subst c1
  exact ⟨rfl, rfl, c3, c4⟩
set_option maxHeartbeats 2000000 in
set_option maxRecDepth 10000 in
theorem lp_flA_3 {d : Nat} {t : txt} {K : Bool} {o : ost} (fo : fok t o) {w : Nat → Int32} {k : Nat} : ∀ (m i : Nat) (c : cir) (h : hp), i + m = tN t → Sh h → FT h t K o → CH_3 h c (k0 K + i) w k → ∃ h', CH_3 h' (flA t K o m i c) (k0 K + tN t) w k ∧ FrF_3 h h' ∧ ∀ (Q : resP) (bc bs : Nat), (∀ ls : List (Nat × Value), ls.lookup 0 = some (.ref 42) → ls.lookup 1 = some (.ref 3) → Wp (Ex (d + 2)) 23 Q 87 ls [] h' bc bs) → ∀ (ls : List (Nat × Value)), ls.lookup 2 = some (.int (nI i)) → ls.lookup 0 = some (.ref 42) → ls.lookup 1 = some (.ref 3) → Wp (Ex (d + 2)) 23 Q 22 ls [] h bc bs := by
  intro m
  induction m with
  | zero =>
    intro i c h hm S T C
    have e : i = tN t := by omega
    subst e
    have h10 := T.1.2.2.1.2.2
    refine ⟨h, C, FrF_3.rf h, ?_⟩
    intro Q bc bs hk ls l2 l0 l1
    refine r_iload_n (q23 (i := 13) rfl) l2 ?_
    refine r_aload_n (q23 (i := 14) rfl) l0 ?_
    refine r_getR (b := 35) (q23 (i := 15) rfl) rfl (by decide) (k_42 S) (fun _ _ _ => rfl) (r_42_0 S) ?_
    refine r_getI (x := nI (tN t)) (q23 (i := 16) rfl) rfl (by decide) (k_35 S) (fun _ _ _ => rfl) h10 ?_
    refine r_icmp 87 (q23 (i := 17) rfl) (by decide) (fun _ => ?_) (fun zz => absurd (show nI (tN t) ≤ nI (tN t) from Int32.le_refl _) zz)
    exact hk ls l0 l1
  | succ m ih =>
    intro i c h hm S T C
    obtain ⟨X, hK, OK⟩ := id T
    have h10 := X.2.2.1.2.2
    have hN := X.2.2.2.2.2
    have hoi := fo.2.1 i (by omega)
    have oi := OK.2 i (by omega)
    have hk1 : k0 K ≤ 1 := by cases K <;> decide
    have s0 := sid_le X hoi (show 0 ≤ 1 by decide)
    have s1 := sid_le X hoi (show 1 ≤ 1 by decide)
    have R1 := sp_sideOf (d := d + 1) S X hoi (show 0 ≤ 1 by decide)
    have R2 := sp_signalOf (d := d) S X hK OK.1 fo.1 s0.2 (fo.2.2 _ (by omega))
    have R3 := sp_sideOf (d := d + 1) S X hoi (show 1 ≤ 1 by decide)
    have R4 := sp_signalOf (d := d) S X hK OK.1 fo.1 s1.2 (fo.2.2 _ (by omega))
    have R5 := sp_addGate_3 (d := d + 1) S C.2.1 (by omega) 0 (sg t K o.2 (sid t (o.1 i) 0)) (sg t K o.2 (sid t (o.1 i) 1)) 0
    have F1 := adH_3_F h (k0 K + i) 0 (sg t K o.2 (sid t (o.1 i) 0)) (sg t K o.2 (sid t (o.1 i) 1)) 0
    obtain ⟨h', C', F', hk⟩ := ih (i + 1) _ (adH_3 h (k0 K + i) 0 (sg t K o.2 (sid t (o.1 i) 0)) (sg t K o.2 (sid t (o.1 i) 1)) 0) (by omega) (F1.S S) (F1.F T) (CH_3_g C _ _ _ _)
    refine ⟨h', C', F1.tr F', ?_⟩
    intro Q bc bs hkk ls l2 l0 l1
    refine r_iload_n (q23 (i := 13) rfl) l2 ?_
    refine r_aload_n (q23 (i := 14) rfl) l0 ?_
    refine r_getR (b := 35) (q23 (i := 15) rfl) rfl (by decide) (k_42 S) (fun _ _ _ => rfl) (r_42_0 S) ?_
    refine r_getI (x := nI (tN t)) (q23 (i := 16) rfl) rfl (by decide) (k_35 S) (fun _ _ _ => rfl) h10 ?_
    refine r_icmp 87 (q23 (i := 17) rfl) (by decide) (fun zz => absurd zz (show ¬ (nI (tN t) ≤ nI i) from nI_ge (by omega) (by omega))) (fun _ => ?_)
    refine r_aload_n (q23 (i := 18) rfl) l0 ?_
    refine r_getR (b := 43) (q23 (i := 19) rfl) rfl (by decide) (k_42 S) (fun _ _ _ => rfl) (r_42_1 S) ?_
    refine r_iload_n (q23 (i := 20) rfl) l2 ?_
    refine r_iaN (x := nI (o.1 i)) (q23 (i := 21) rfl) (k_43 S) (by omega) (by decide) oi ?_
    refine r_istore_n (ls' := lset1 ls 3 (.int (nI (o.1 i)))) (q23 (i := 22) rfl) (Nat.le_of_ble_eq_true rfl) rfl ?_
    have l2 := lk1 (k := 3) (v := .int (nI (o.1 i))) l2 (by decide) (Or.inl rfl)
    have l0 := lk1 (k := 3) (v := .int (nI (o.1 i))) l0 (by decide) (Or.inr (by decide))
    have l1 := lk1 (k := 3) (v := .int (nI (o.1 i))) l1 (by decide) (Or.inr (by decide))
    have l3 := lk0 ls 3 (.int (nI (o.1 i)))
    generalize lset1 ls 3 (.int (nI (o.1 i))) = ls at l3 l2 l0 l1 ⊢
    refine r_aload_n (q23 (i := 23) rfl) l0 ?_
    refine r_aload_n (q23 (i := 24) rfl) l0 ?_
    refine r_getR (b := 35) (q23 (i := 25) rfl) rfl (by decide) (k_42 S) (fun _ _ _ => rfl) (r_42_0 S) ?_
    refine r_iload_n (q23 (i := 26) rfl) l3 ?_
    refine r_iconst (v := nI 0) (q23 (i := 27) rfl) (by decide) ?_
    refine r_cV (d := _) (q23 (i := 28) rfl) rfl rfl rfl (k_35 S) (Nat.le_of_ble_eq_true rfl) (Nat.zero_le _) (Nat.zero_le _) R1 ?_
    show Wp _ _ _ 50 ls [.int (nI (sid t (o.1 i) 0)), .ref 42] h _ _
    refine r_cV (d := _) (q23 (i := 29) rfl) rfl rfl rfl (k_42 S) (Nat.le_of_ble_eq_true rfl) (Nat.zero_le _) (Nat.zero_le _) R2 ?_
    show Wp _ _ _ 53 ls [.int (sg t K o.2 (sid t (o.1 i) 0))] h _ _
    refine r_istore (ls' := lset1 ls 4 (.int (sg t K o.2 (sid t (o.1 i) 0)))) (q23 (i := 30) rfl) (Nat.le_of_ble_eq_true rfl) rfl ?_
    have l3 := lk1 (k := 4) (v := .int (sg t K o.2 (sid t (o.1 i) 0))) l3 (by decide) (Or.inl rfl)
    have l2 := lk1 (k := 4) (v := .int (sg t K o.2 (sid t (o.1 i) 0))) l2 (by decide) (Or.inr (by decide))
    have l0 := lk1 (k := 4) (v := .int (sg t K o.2 (sid t (o.1 i) 0))) l0 (by decide) (Or.inr (by decide))
    have l1 := lk1 (k := 4) (v := .int (sg t K o.2 (sid t (o.1 i) 0))) l1 (by decide) (Or.inr (by decide))
    have l4 := lk0 ls 4 (.int (sg t K o.2 (sid t (o.1 i) 0)))
    generalize lset1 ls 4 (.int (sg t K o.2 (sid t (o.1 i) 0))) = ls at l4 l3 l2 l0 l1 ⊢
    refine r_aload_n (q23 (i := 31) rfl) l0 ?_
    refine r_aload_n (q23 (i := 32) rfl) l0 ?_
    refine r_getR (b := 35) (q23 (i := 33) rfl) rfl (by decide) (k_42 S) (fun _ _ _ => rfl) (r_42_0 S) ?_
    refine r_iload_n (q23 (i := 34) rfl) l3 ?_
    refine r_iconst (v := nI 1) (q23 (i := 35) rfl) (by decide) ?_
    refine r_cV (d := _) (q23 (i := 36) rfl) rfl rfl rfl (k_35 S) (Nat.le_of_ble_eq_true rfl) (Nat.zero_le _) (Nat.zero_le _) R3 ?_
    show Wp _ _ _ 65 ls [.int (nI (sid t (o.1 i) 1)), .ref 42] h _ _
    refine r_cV (d := _) (q23 (i := 37) rfl) rfl rfl rfl (k_42 S) (Nat.le_of_ble_eq_true rfl) (Nat.zero_le _) (Nat.zero_le _) R4 ?_
    show Wp _ _ _ 68 ls [.int (sg t K o.2 (sid t (o.1 i) 1))] h _ _
    refine r_istore (ls' := lset1 ls 5 (.int (sg t K o.2 (sid t (o.1 i) 1)))) (q23 (i := 38) rfl) (Nat.le_of_ble_eq_true rfl) rfl ?_
    have l4 := lk1 (k := 5) (v := .int (sg t K o.2 (sid t (o.1 i) 1))) l4 (by decide) (Or.inl rfl)
    have l3 := lk1 (k := 5) (v := .int (sg t K o.2 (sid t (o.1 i) 1))) l3 (by decide) (Or.inr (by decide))
    have l2 := lk1 (k := 5) (v := .int (sg t K o.2 (sid t (o.1 i) 1))) l2 (by decide) (Or.inr (by decide))
    have l0 := lk1 (k := 5) (v := .int (sg t K o.2 (sid t (o.1 i) 1))) l0 (by decide) (Or.inr (by decide))
    have l1 := lk1 (k := 5) (v := .int (sg t K o.2 (sid t (o.1 i) 1))) l1 (by decide) (Or.inr (by decide))
    have l5 := lk0 ls 5 (.int (sg t K o.2 (sid t (o.1 i) 1)))
    generalize lset1 ls 5 (.int (sg t K o.2 (sid t (o.1 i) 1))) = ls at l5 l4 l3 l2 l0 l1 ⊢
    refine r_aload_n (q23 (i := 39) rfl) l1 ?_
    refine r_iconst (v := 0) (q23 (i := 40) rfl) (by decide) ?_
    refine r_iload (q23 (i := 41) rfl) l4 ?_
    refine r_iload (q23 (i := 42) rfl) l5 ?_
    refine r_iconst (v := 0) (q23 (i := 43) rfl) (by decide) ?_
    refine r_cV (d := _) (q23 (i := 44) rfl) rfl rfl rfl (k_3 S) (Nat.le_of_ble_eq_true rfl) (Nat.zero_le _) (Nat.zero_le _) R5 ?_
    show Wp _ _ _ 80 ls [.int (hI h 3 6 + nI (k0 K + i + 1) - 1)] (adH_3 h (k0 K + i) 0 (sg t K o.2 (sid t (o.1 i) 0)) (sg t K o.2 (sid t (o.1 i) 1)) 0) _ _
    refine r_pop (q23 (i := 45) rfl) rfl ?_
    refine r_iinc (y := nI (i + 1)) (q23 (i := 46) rfl) (Nat.le_of_ble_eq_true rfl) l2 (nI_1 i) rfl ?_
    have l5 := lk1 (k := 2) (v := .int (nI (i + 1))) l5 (by decide) (Or.inr (by decide))
    have l4 := lk1 (k := 2) (v := .int (nI (i + 1))) l4 (by decide) (Or.inr (by decide))
    have l3 := lk1 (k := 2) (v := .int (nI (i + 1))) l3 (by decide) (Or.inr (by decide))
    have l0 := lk1 (k := 2) (v := .int (nI (i + 1))) l0 (by decide) (Or.inr (by decide))
    have l1 := lk1 (k := 2) (v := .int (nI (i + 1))) l1 (by decide) (Or.inl rfl)
    have l2 := lk0 ls 2 (.int (nI (i + 1)))
    generalize lset1 ls 2 (.int (nI (i + 1))) = ls at l2 l5 l4 l3 l0 l1 ⊢
    refine r_goto 22 (q23 (i := 47) rfl) (by decide) ?_
    exact hk Q bc bs hkk ls l2 l0 l1
set_option maxHeartbeats 2000000 in
set_option maxRecDepth 10000 in
theorem lp_flO_3 {d : Nat} {t : txt} {K : Bool} {o : ost} (fo : fok t o) {c : cir} {g : Nat} : ∀ (m i : Nat) (w : Nat → Int32) (h : hp), i + m = tO t → Sh h → FT h t K o → CH_3 h c g w i → ∃ h', CH_3 h' c g (flO t K o m i w) (tO t) ∧ FrF_3 h h' ∧ ∀ (Q : resP), Q none h' → ∀ (bc bs : Nat) (ls : List (Nat × Value)), ls.lookup 2 = some (.int (nI i)) → ls.lookup 0 = some (.ref 42) → ls.lookup 1 = some (.ref 3) → Wp (Ex (d + 2)) 23 Q 89 ls [] h bc bs := by
  intro m
  induction m with
  | zero =>
    intro i w h hm S T C
    have e : i = tO t := by omega
    subst e
    have h9 := T.1.2.2.1.2.1
    refine ⟨h, C, FrF_3.rf h, ?_⟩
    intro Q hQ bc bs ls l2 l0 l1
    refine r_iload_n (q23 (i := 50) rfl) l2 ?_
    refine r_aload_n (q23 (i := 51) rfl) l0 ?_
    refine r_getR (b := 35) (q23 (i := 52) rfl) rfl (by decide) (k_42 S) (fun _ _ _ => rfl) (r_42_0 S) ?_
    refine r_getI (x := nI (tO t)) (q23 (i := 53) rfl) rfl (by decide) (k_35 S) (fun _ _ _ => rfl) h9 ?_
    refine r_icmp 124 (q23 (i := 54) rfl) (by decide) (fun _ => ?_) (fun zz => absurd (show nI (tO t) ≤ nI (tO t) from Int32.le_refl _) zz)
    exact r_vret (q23 (i := 67) rfl) rfl hQ
  | succ m ih =>
    intro i w h hm S T C
    obtain ⟨X, hK, OK⟩ := id T
    have h9 := X.2.2.1.2.1
    have hO := X.2.2.2
    obtain ⟨u1', u2'⟩ := X.2.1 i (by omega)
    have R1 := sp_signalOf (d := d) S X hK OK.1 fo.1 u2' (fo.2.2 _ (by omega))
    have R2 := sp_addOut_3 (d := d + 1) S C.2.2.2 (by omega) (sg t K o.2 (tU t i))
    have F1 : FrF_3 h (sI (sI h 8 i (sg t K o.2 (tU t i))) 3 8 (nI (i + 1))) := ⟨rfl, fun k x => by
      show u2 (u2 h.1 8 _ _) 3 _ _ k = _
      rw [u2_n (by omega), u2_n (by omega)], rfl⟩
    have C1 : CH_3 (sI (sI h 8 i (sg t K o.2 (tU t i))) 3 8 (nI (i + 1))) c g (u1 w i (sg t K o.2 (tU t i))) (i + 1) := by
      obtain ⟨c1, c2, c3, c4⟩ := C
      subst c1 c3
      exact ⟨rfl, c2, rfl, rfl⟩
    obtain ⟨h', C', F', hk⟩ := ih (i + 1) _ _ (by omega) (F1.S S) (F1.F T) C1
    refine ⟨h', C', F1.tr F', ?_⟩
    intro Q hQ bc bs ls l2 l0 l1
    refine r_iload_n (q23 (i := 50) rfl) l2 ?_
    refine r_aload_n (q23 (i := 51) rfl) l0 ?_
    refine r_getR (b := 35) (q23 (i := 52) rfl) rfl (by decide) (k_42 S) (fun _ _ _ => rfl) (r_42_0 S) ?_
    refine r_getI (x := nI (tO t)) (q23 (i := 53) rfl) rfl (by decide) (k_35 S) (fun _ _ _ => rfl) h9 ?_
    refine r_icmp 124 (q23 (i := 54) rfl) (by decide) (fun zz => absurd zz (show ¬ (nI (tO t) ≤ nI i) from nI_ge (by omega) (by omega))) (fun _ => ?_)
    refine r_aload_n (q23 (i := 55) rfl) l1 ?_
    refine r_aload_n (q23 (i := 56) rfl) l0 ?_
    refine r_aload_n (q23 (i := 57) rfl) l0 ?_
    refine r_getR (b := 35) (q23 (i := 58) rfl) rfl (by decide) (k_42 S) (fun _ _ _ => rfl) (r_42_0 S) ?_
    refine r_getR (b := 39) (q23 (i := 59) rfl) rfl (by decide) (k_35 S) (fun _ _ _ => rfl) (r_35_4 S) ?_
    refine r_iload_n (q23 (i := 60) rfl) l2 ?_
    refine r_iaN (x := nI (tU t i)) (q23 (i := 61) rfl) (k_39 S) (by omega) (by decide) u1' ?_
    refine r_cV (d := _) (q23 (i := 62) rfl) rfl rfl rfl (k_42 S) (Nat.le_of_ble_eq_true rfl) (Nat.zero_le _) (Nat.zero_le _) R1 ?_
    show Wp _ _ _ 114 ls [.int (sg t K o.2 (tU t i)), .ref 3] h _ _
    refine r_cV (d := _) (q23 (i := 63) rfl) rfl rfl rfl (k_3 S) (Nat.le_of_ble_eq_true rfl) (Nat.zero_le _) (Nat.zero_le _) R2 ?_
    show Wp _ _ _ 117 ls [.int (nI (i + 1) - 1)] (sI (sI h 8 i (sg t K o.2 (tU t i))) 3 8 (nI (i + 1))) _ _
    refine r_pop (q23 (i := 64) rfl) rfl ?_
    refine r_iinc (y := nI (i + 1)) (q23 (i := 65) rfl) (Nat.le_of_ble_eq_true rfl) l2 (nI_1 i) rfl ?_
    have l0 := lk1 (k := 2) (v := .int (nI (i + 1))) l0 (by decide) (Or.inr (by decide))
    have l1 := lk1 (k := 2) (v := .int (nI (i + 1))) l1 (by decide) (Or.inl rfl)
    have l2 := lk0 ls 2 (.int (nI (i + 1)))
    generalize lset1 ls 2 (.int (nI (i + 1))) = ls at l2 l0 l1 ⊢
    refine r_goto 89 (q23 (i := 66) rfl) (by decide) ?_
    exact hk Q hQ bc bs ls l2 l0 l1
set_option maxHeartbeats 2000000 in
set_option maxRecDepth 10000 in
theorem sp_fill_3 {d : Nat} {t : txt} {K : Bool} {o : ost} (fo : fok t o) {c : cir} {w : Nat → Int32} {h : hp} (S : Sh h) (T : FT h t K o) (C : CH_3 h c 0 w 0) : ∃ h', Run (d + 2 + 1) 23 [.ref 42, .ref 3] h 0 0 none h' ∧ CH_3 h' (flA t K o (tN t) 0 (fl0 K c)) (k0 K + tN t) (flO t K o (tO t) 0 w) (tO t) ∧ FrF_3 h h' := by
  have h1 : ∃ h1, CH_3 h1 (fl0 K c) (k0 K + 0) w 0 ∧ FrF_3 h h1 ∧ ∀ (Q : resP) (bc bs : Nat), (∀ ls : List (Nat × Value), ls.lookup 2 = some (.int (nI 0)) → ls.lookup 0 = some (.ref 42) → ls.lookup 1 = some (.ref 3) → Wp (Ex (d + 2)) 23 Q 22 ls [] h1 bc bs) → Wp (Ex (d + 2)) 23 Q 0 [(0, .ref 42), (1, .ref 3)] [] h bc bs := by
    have hK := T.2.1
    cases K with
    | true =>
      have R1 := sp_addGate_3 (d := d + 1) S C.2.1 (by decide) 8 0 0 0
      refine ⟨adH_3 h 0 8 0 0 0, CH_3_g C 8 0 0 0, adH_3_F _ _ _ _ _ _, ?_⟩
      intro Q bc bs hk
      refine r_aload_n (q23 (i := 0) rfl) rfl ?_
      refine r_getR (b := 35) (q23 (i := 1) rfl) rfl (by decide) (k_42 S) (fun _ _ _ => rfl) (r_42_0 S) ?_
      refine r_getI (x := 1) (q23 (i := 2) rfl) rfl (by decide) (k_35 S) (fun _ _ _ => rfl) hK ?_
      refine r_if 20 (q23 (i := 3) rfl) (by decide) (fun zz => absurd zz (show ¬ ((1 : Int32) = 0) from by decide)) (fun _ => ?_)
      refine r_aload_n (q23 (i := 4) rfl) rfl ?_
      refine r_bipush (v := 8) (q23 (i := 5) rfl) (by decide) ?_
      refine r_iconst (v := 0) (q23 (i := 6) rfl) (by decide) ?_
      refine r_iconst (v := 0) (q23 (i := 7) rfl) (by decide) ?_
      refine r_iconst (v := 0) (q23 (i := 8) rfl) (by decide) ?_
      refine r_cV (d := _) (q23 (i := 9) rfl) rfl rfl rfl (k_3 S) (Nat.le_of_ble_eq_true rfl) (Nat.zero_le _) (Nat.zero_le _) R1 ?_
      show Wp _ _ _ 19 [(0, .ref 42), (1, .ref 3)] [.int (hI h 3 6 + nI (0 + 1) - 1)] (adH_3 h 0 8 0 0 0) _ _
      refine r_pop (q23 (i := 10) rfl) rfl ?_
      refine r_iconst (v := 0) (q23 (i := 11) rfl) (by decide) ?_
      refine r_istore_n (ls' := [(2, .int 0), (0, .ref 42), (1, .ref 3)]) (q23 (i := 12) rfl) (Nat.le_of_ble_eq_true rfl) rfl ?_
      exact hk _ rfl rfl rfl
    | false =>
      refine ⟨h, C, FrF_3.rf h, ?_⟩
      intro Q bc bs hk
      refine r_aload_n (q23 (i := 0) rfl) rfl ?_
      refine r_getR (b := 35) (q23 (i := 1) rfl) rfl (by decide) (k_42 S) (fun _ _ _ => rfl) (r_42_0 S) ?_
      refine r_getI (x := 0) (q23 (i := 2) rfl) rfl (by decide) (k_35 S) (fun _ _ _ => rfl) hK ?_
      refine r_if 20 (q23 (i := 3) rfl) (by decide) (fun _ => ?_) (fun zz => absurd (show (0 : Int32) = 0 from by decide) zz)
      refine r_iconst (v := 0) (q23 (i := 11) rfl) (by decide) ?_
      refine r_istore_n (ls' := [(2, .int 0), (0, .ref 42), (1, .ref 3)]) (q23 (i := 12) rfl) (Nat.le_of_ble_eq_true rfl) rfl ?_
      exact hk _ rfl rfl rfl
  obtain ⟨h1, C1, F1, K1⟩ := h1
  obtain ⟨h2, C2, F2, K2⟩ := lp_flA_3 (d := d) fo (tN t) 0 _ h1 (Nat.zero_add _) (F1.S S) (F1.F T) C1
  have F12 := F1.tr F2
  obtain ⟨h3, C3, F3, K3⟩ := lp_flO_3 (d := d) fo (tO t) 0 _ h2 (Nat.zero_add _) (F12.S S) (F12.F T) C2
  refine ⟨h3, ?_, C3, F12.tr F3⟩
  refine Run.of (Nat.le_of_ble_eq_true rfl) (fun Q hQ => ?_)
  show Wp (Ex (d + 2)) 23 Q 0 [(0, .ref 42), (1, .ref 3)] [] h 0 0
  refine K1 Q 0 0 (fun ls l2 l0 l1 => K2 Q 0 0 (fun ls l0 l1 => ?_) ls l2 l0 l1)
  refine r_iconst (v := 0) (q23 (i := 48) rfl) (by decide) ?_
  refine r_istore_n (ls' := lset1 ls 2 (.int 0)) (q23 (i := 49) rfl) (Nat.le_of_ble_eq_true rfl) rfl ?_
  have l0 := lk1 (k := 2) (v := .int 0) l0 (by decide) (Or.inr (by decide))
  have l1 := lk1 (k := 2) (v := .int 0) l1 (by decide) (Or.inl rfl)
  have l2 := lk0 ls 2 (.int 0)
  generalize lset1 ls 2 (.int 0) = ls at l2 l0 l1 ⊢
  exact K3 Q hQ _ _ ls l2 l0 l1
def FrF_10 (h h' : hp) : Prop := h'.2 = h.2 ∧ (∀ k, (k < 10 ∨ 15 < k) → hI h' k = hI h k) ∧ hI h' 10 6 = hI h 10 6
theorem FrF_10.rf (h : hp) : FrF_10 h h := ⟨rfl, fun _ _ => rfl, rfl⟩
theorem FrF_10.tr {h h' h'' : hp} (a : FrF_10 h h') (b : FrF_10 h' h'') : FrF_10 h h'' := ⟨b.1.trans a.1, fun k x => (b.2.1 k x).trans (a.2.1 k x), b.2.2.trans a.2.2⟩
theorem FrF_10.S {h h' : hp} (F : FrF_10 h h') (S : Sh h) : Sh h' := S.to (by rw [F.1])
theorem FrF_10.F {h h' : hp} (F : FrF_10 h h') {t : txt} {K : Bool} {o : ost} (T : FT h t K o) : FT h' t K o := T.to (fun k x y => F.2.1 k (by omega))
def adH_10 (h : hp) (g : Nat) (kd a b e : Int32) : hp := sI (sI (sI (sI (sI h 11 g kd) 12 g a) 13 g b) 14 g e) 10 7 (nI (g + 1))
theorem adH_10_F (h : hp) (g : Nat) (kd a b e : Int32) : FrF_10 h (adH_10 h g kd a b e) := ⟨rfl, fun k x => by
  show u2 (u2 (u2 (u2 (u2 h.1 11 _ _) 12 _ _) 13 _ _) 14 _ _) 10 _ _ k = _
  rw [u2_n (by omega), u2_n (by omega), u2_n (by omega), u2_n (by omega), u2_n (by omega)], rfl⟩
/-- the circuit in the heap: its gates, their count, its outs, their count -/
def CH_10 (h : hp) (c : cir) (g : Nat) (w : Nat → Int32) (k : Nat) : Prop := cirH h 10 = c ∧ hI h 10 7 = nI g ∧ hI h 15 = w ∧ hI h 10 8 = nI k
theorem CH_10_g {h : hp} {c : cir} {g : Nat} {w : Nat → Int32} {k : Nat} (C : CH_10 h c g w k) (kd a b e : Int32) : CH_10 (adH_10 h g kd a b e) (addg c g kd a b e) (g + 1) w k := by
  obtain ⟨c1, c2, c3, c4⟩ := C
  subst c1
  exact ⟨rfl, rfl, c3, c4⟩
set_option maxHeartbeats 2000000 in
set_option maxRecDepth 10000 in
theorem lp_flA_10 {d : Nat} {t : txt} {K : Bool} {o : ost} (fo : fok t o) {w : Nat → Int32} {k : Nat} : ∀ (m i : Nat) (c : cir) (h : hp), i + m = tN t → Sh h → FT h t K o → CH_10 h c (k0 K + i) w k → ∃ h', CH_10 h' (flA t K o m i c) (k0 K + tN t) w k ∧ FrF_10 h h' ∧ ∀ (Q : resP) (bc bs : Nat), (∀ ls : List (Nat × Value), ls.lookup 0 = some (.ref 42) → ls.lookup 1 = some (.ref 10) → Wp (Ex (d + 2)) 23 Q 87 ls [] h' bc bs) → ∀ (ls : List (Nat × Value)), ls.lookup 2 = some (.int (nI i)) → ls.lookup 0 = some (.ref 42) → ls.lookup 1 = some (.ref 10) → Wp (Ex (d + 2)) 23 Q 22 ls [] h bc bs := by
  intro m
  induction m with
  | zero =>
    intro i c h hm S T C
    have e : i = tN t := by omega
    subst e
    have h10 := T.1.2.2.1.2.2
    refine ⟨h, C, FrF_10.rf h, ?_⟩
    intro Q bc bs hk ls l2 l0 l1
    refine r_iload_n (q23 (i := 13) rfl) l2 ?_
    refine r_aload_n (q23 (i := 14) rfl) l0 ?_
    refine r_getR (b := 35) (q23 (i := 15) rfl) rfl (by decide) (k_42 S) (fun _ _ _ => rfl) (r_42_0 S) ?_
    refine r_getI (x := nI (tN t)) (q23 (i := 16) rfl) rfl (by decide) (k_35 S) (fun _ _ _ => rfl) h10 ?_
    refine r_icmp 87 (q23 (i := 17) rfl) (by decide) (fun _ => ?_) (fun zz => absurd (show nI (tN t) ≤ nI (tN t) from Int32.le_refl _) zz)
    exact hk ls l0 l1
  | succ m ih =>
    intro i c h hm S T C
    obtain ⟨X, hK, OK⟩ := id T
    have h10 := X.2.2.1.2.2
    have hN := X.2.2.2.2.2
    have hoi := fo.2.1 i (by omega)
    have oi := OK.2 i (by omega)
    have hk1 : k0 K ≤ 1 := by cases K <;> decide
    have s0 := sid_le X hoi (show 0 ≤ 1 by decide)
    have s1 := sid_le X hoi (show 1 ≤ 1 by decide)
    have R1 := sp_sideOf (d := d + 1) S X hoi (show 0 ≤ 1 by decide)
    have R2 := sp_signalOf (d := d) S X hK OK.1 fo.1 s0.2 (fo.2.2 _ (by omega))
    have R3 := sp_sideOf (d := d + 1) S X hoi (show 1 ≤ 1 by decide)
    have R4 := sp_signalOf (d := d) S X hK OK.1 fo.1 s1.2 (fo.2.2 _ (by omega))
    have R5 := sp_addGate_10 (d := d + 1) S C.2.1 (by omega) 0 (sg t K o.2 (sid t (o.1 i) 0)) (sg t K o.2 (sid t (o.1 i) 1)) 0
    have F1 := adH_10_F h (k0 K + i) 0 (sg t K o.2 (sid t (o.1 i) 0)) (sg t K o.2 (sid t (o.1 i) 1)) 0
    obtain ⟨h', C', F', hk⟩ := ih (i + 1) _ (adH_10 h (k0 K + i) 0 (sg t K o.2 (sid t (o.1 i) 0)) (sg t K o.2 (sid t (o.1 i) 1)) 0) (by omega) (F1.S S) (F1.F T) (CH_10_g C _ _ _ _)
    refine ⟨h', C', F1.tr F', ?_⟩
    intro Q bc bs hkk ls l2 l0 l1
    refine r_iload_n (q23 (i := 13) rfl) l2 ?_
    refine r_aload_n (q23 (i := 14) rfl) l0 ?_
    refine r_getR (b := 35) (q23 (i := 15) rfl) rfl (by decide) (k_42 S) (fun _ _ _ => rfl) (r_42_0 S) ?_
    refine r_getI (x := nI (tN t)) (q23 (i := 16) rfl) rfl (by decide) (k_35 S) (fun _ _ _ => rfl) h10 ?_
    refine r_icmp 87 (q23 (i := 17) rfl) (by decide) (fun zz => absurd zz (show ¬ (nI (tN t) ≤ nI i) from nI_ge (by omega) (by omega))) (fun _ => ?_)
    refine r_aload_n (q23 (i := 18) rfl) l0 ?_
    refine r_getR (b := 43) (q23 (i := 19) rfl) rfl (by decide) (k_42 S) (fun _ _ _ => rfl) (r_42_1 S) ?_
    refine r_iload_n (q23 (i := 20) rfl) l2 ?_
    refine r_iaN (x := nI (o.1 i)) (q23 (i := 21) rfl) (k_43 S) (by omega) (by decide) oi ?_
    refine r_istore_n (ls' := lset1 ls 3 (.int (nI (o.1 i)))) (q23 (i := 22) rfl) (Nat.le_of_ble_eq_true rfl) rfl ?_
    have l2 := lk1 (k := 3) (v := .int (nI (o.1 i))) l2 (by decide) (Or.inl rfl)
    have l0 := lk1 (k := 3) (v := .int (nI (o.1 i))) l0 (by decide) (Or.inr (by decide))
    have l1 := lk1 (k := 3) (v := .int (nI (o.1 i))) l1 (by decide) (Or.inr (by decide))
    have l3 := lk0 ls 3 (.int (nI (o.1 i)))
    generalize lset1 ls 3 (.int (nI (o.1 i))) = ls at l3 l2 l0 l1 ⊢
    refine r_aload_n (q23 (i := 23) rfl) l0 ?_
    refine r_aload_n (q23 (i := 24) rfl) l0 ?_
    refine r_getR (b := 35) (q23 (i := 25) rfl) rfl (by decide) (k_42 S) (fun _ _ _ => rfl) (r_42_0 S) ?_
    refine r_iload_n (q23 (i := 26) rfl) l3 ?_
    refine r_iconst (v := nI 0) (q23 (i := 27) rfl) (by decide) ?_
    refine r_cV (d := _) (q23 (i := 28) rfl) rfl rfl rfl (k_35 S) (Nat.le_of_ble_eq_true rfl) (Nat.zero_le _) (Nat.zero_le _) R1 ?_
    show Wp _ _ _ 50 ls [.int (nI (sid t (o.1 i) 0)), .ref 42] h _ _
    refine r_cV (d := _) (q23 (i := 29) rfl) rfl rfl rfl (k_42 S) (Nat.le_of_ble_eq_true rfl) (Nat.zero_le _) (Nat.zero_le _) R2 ?_
    show Wp _ _ _ 53 ls [.int (sg t K o.2 (sid t (o.1 i) 0))] h _ _
    refine r_istore (ls' := lset1 ls 4 (.int (sg t K o.2 (sid t (o.1 i) 0)))) (q23 (i := 30) rfl) (Nat.le_of_ble_eq_true rfl) rfl ?_
    have l3 := lk1 (k := 4) (v := .int (sg t K o.2 (sid t (o.1 i) 0))) l3 (by decide) (Or.inl rfl)
    have l2 := lk1 (k := 4) (v := .int (sg t K o.2 (sid t (o.1 i) 0))) l2 (by decide) (Or.inr (by decide))
    have l0 := lk1 (k := 4) (v := .int (sg t K o.2 (sid t (o.1 i) 0))) l0 (by decide) (Or.inr (by decide))
    have l1 := lk1 (k := 4) (v := .int (sg t K o.2 (sid t (o.1 i) 0))) l1 (by decide) (Or.inr (by decide))
    have l4 := lk0 ls 4 (.int (sg t K o.2 (sid t (o.1 i) 0)))
    generalize lset1 ls 4 (.int (sg t K o.2 (sid t (o.1 i) 0))) = ls at l4 l3 l2 l0 l1 ⊢
    refine r_aload_n (q23 (i := 31) rfl) l0 ?_
    refine r_aload_n (q23 (i := 32) rfl) l0 ?_
    refine r_getR (b := 35) (q23 (i := 33) rfl) rfl (by decide) (k_42 S) (fun _ _ _ => rfl) (r_42_0 S) ?_
    refine r_iload_n (q23 (i := 34) rfl) l3 ?_
    refine r_iconst (v := nI 1) (q23 (i := 35) rfl) (by decide) ?_
    refine r_cV (d := _) (q23 (i := 36) rfl) rfl rfl rfl (k_35 S) (Nat.le_of_ble_eq_true rfl) (Nat.zero_le _) (Nat.zero_le _) R3 ?_
    show Wp _ _ _ 65 ls [.int (nI (sid t (o.1 i) 1)), .ref 42] h _ _
    refine r_cV (d := _) (q23 (i := 37) rfl) rfl rfl rfl (k_42 S) (Nat.le_of_ble_eq_true rfl) (Nat.zero_le _) (Nat.zero_le _) R4 ?_
    show Wp _ _ _ 68 ls [.int (sg t K o.2 (sid t (o.1 i) 1))] h _ _
    refine r_istore (ls' := lset1 ls 5 (.int (sg t K o.2 (sid t (o.1 i) 1)))) (q23 (i := 38) rfl) (Nat.le_of_ble_eq_true rfl) rfl ?_
    have l4 := lk1 (k := 5) (v := .int (sg t K o.2 (sid t (o.1 i) 1))) l4 (by decide) (Or.inl rfl)
    have l3 := lk1 (k := 5) (v := .int (sg t K o.2 (sid t (o.1 i) 1))) l3 (by decide) (Or.inr (by decide))
    have l2 := lk1 (k := 5) (v := .int (sg t K o.2 (sid t (o.1 i) 1))) l2 (by decide) (Or.inr (by decide))
    have l0 := lk1 (k := 5) (v := .int (sg t K o.2 (sid t (o.1 i) 1))) l0 (by decide) (Or.inr (by decide))
    have l1 := lk1 (k := 5) (v := .int (sg t K o.2 (sid t (o.1 i) 1))) l1 (by decide) (Or.inr (by decide))
    have l5 := lk0 ls 5 (.int (sg t K o.2 (sid t (o.1 i) 1)))
    generalize lset1 ls 5 (.int (sg t K o.2 (sid t (o.1 i) 1))) = ls at l5 l4 l3 l2 l0 l1 ⊢
    refine r_aload_n (q23 (i := 39) rfl) l1 ?_
    refine r_iconst (v := 0) (q23 (i := 40) rfl) (by decide) ?_
    refine r_iload (q23 (i := 41) rfl) l4 ?_
    refine r_iload (q23 (i := 42) rfl) l5 ?_
    refine r_iconst (v := 0) (q23 (i := 43) rfl) (by decide) ?_
    refine r_cV (d := _) (q23 (i := 44) rfl) rfl rfl rfl (k_10 S) (Nat.le_of_ble_eq_true rfl) (Nat.zero_le _) (Nat.zero_le _) R5 ?_
    show Wp _ _ _ 80 ls [.int (hI h 10 6 + nI (k0 K + i + 1) - 1)] (adH_10 h (k0 K + i) 0 (sg t K o.2 (sid t (o.1 i) 0)) (sg t K o.2 (sid t (o.1 i) 1)) 0) _ _
    refine r_pop (q23 (i := 45) rfl) rfl ?_
    refine r_iinc (y := nI (i + 1)) (q23 (i := 46) rfl) (Nat.le_of_ble_eq_true rfl) l2 (nI_1 i) rfl ?_
    have l5 := lk1 (k := 2) (v := .int (nI (i + 1))) l5 (by decide) (Or.inr (by decide))
    have l4 := lk1 (k := 2) (v := .int (nI (i + 1))) l4 (by decide) (Or.inr (by decide))
    have l3 := lk1 (k := 2) (v := .int (nI (i + 1))) l3 (by decide) (Or.inr (by decide))
    have l0 := lk1 (k := 2) (v := .int (nI (i + 1))) l0 (by decide) (Or.inr (by decide))
    have l1 := lk1 (k := 2) (v := .int (nI (i + 1))) l1 (by decide) (Or.inl rfl)
    have l2 := lk0 ls 2 (.int (nI (i + 1)))
    generalize lset1 ls 2 (.int (nI (i + 1))) = ls at l2 l5 l4 l3 l0 l1 ⊢
    refine r_goto 22 (q23 (i := 47) rfl) (by decide) ?_
    exact hk Q bc bs hkk ls l2 l0 l1
set_option maxHeartbeats 2000000 in
set_option maxRecDepth 10000 in
theorem lp_flO_10 {d : Nat} {t : txt} {K : Bool} {o : ost} (fo : fok t o) {c : cir} {g : Nat} : ∀ (m i : Nat) (w : Nat → Int32) (h : hp), i + m = tO t → Sh h → FT h t K o → CH_10 h c g w i → ∃ h', CH_10 h' c g (flO t K o m i w) (tO t) ∧ FrF_10 h h' ∧ ∀ (Q : resP), Q none h' → ∀ (bc bs : Nat) (ls : List (Nat × Value)), ls.lookup 2 = some (.int (nI i)) → ls.lookup 0 = some (.ref 42) → ls.lookup 1 = some (.ref 10) → Wp (Ex (d + 2)) 23 Q 89 ls [] h bc bs := by
  intro m
  induction m with
  | zero =>
    intro i w h hm S T C
    have e : i = tO t := by omega
    subst e
    have h9 := T.1.2.2.1.2.1
    refine ⟨h, C, FrF_10.rf h, ?_⟩
    intro Q hQ bc bs ls l2 l0 l1
    refine r_iload_n (q23 (i := 50) rfl) l2 ?_
    refine r_aload_n (q23 (i := 51) rfl) l0 ?_
    refine r_getR (b := 35) (q23 (i := 52) rfl) rfl (by decide) (k_42 S) (fun _ _ _ => rfl) (r_42_0 S) ?_
    refine r_getI (x := nI (tO t)) (q23 (i := 53) rfl) rfl (by decide) (k_35 S) (fun _ _ _ => rfl) h9 ?_
    refine r_icmp 124 (q23 (i := 54) rfl) (by decide) (fun _ => ?_) (fun zz => absurd (show nI (tO t) ≤ nI (tO t) from Int32.le_refl _) zz)
    exact r_vret (q23 (i := 67) rfl) rfl hQ
  | succ m ih =>
    intro i w h hm S T C
    obtain ⟨X, hK, OK⟩ := id T
    have h9 := X.2.2.1.2.1
    have hO := X.2.2.2
    obtain ⟨u1', u2'⟩ := X.2.1 i (by omega)
    have R1 := sp_signalOf (d := d) S X hK OK.1 fo.1 u2' (fo.2.2 _ (by omega))
    have R2 := sp_addOut_10 (d := d + 1) S C.2.2.2 (by omega) (sg t K o.2 (tU t i))
    have F1 : FrF_10 h (sI (sI h 15 i (sg t K o.2 (tU t i))) 10 8 (nI (i + 1))) := ⟨rfl, fun k x => by
      show u2 (u2 h.1 15 _ _) 10 _ _ k = _
      rw [u2_n (by omega), u2_n (by omega)], rfl⟩
    have C1 : CH_10 (sI (sI h 15 i (sg t K o.2 (tU t i))) 10 8 (nI (i + 1))) c g (u1 w i (sg t K o.2 (tU t i))) (i + 1) := by
      obtain ⟨c1, c2, c3, c4⟩ := C
      subst c1 c3
      exact ⟨rfl, c2, rfl, rfl⟩
    obtain ⟨h', C', F', hk⟩ := ih (i + 1) _ _ (by omega) (F1.S S) (F1.F T) C1
    refine ⟨h', C', F1.tr F', ?_⟩
    intro Q hQ bc bs ls l2 l0 l1
    refine r_iload_n (q23 (i := 50) rfl) l2 ?_
    refine r_aload_n (q23 (i := 51) rfl) l0 ?_
    refine r_getR (b := 35) (q23 (i := 52) rfl) rfl (by decide) (k_42 S) (fun _ _ _ => rfl) (r_42_0 S) ?_
    refine r_getI (x := nI (tO t)) (q23 (i := 53) rfl) rfl (by decide) (k_35 S) (fun _ _ _ => rfl) h9 ?_
    refine r_icmp 124 (q23 (i := 54) rfl) (by decide) (fun zz => absurd zz (show ¬ (nI (tO t) ≤ nI i) from nI_ge (by omega) (by omega))) (fun _ => ?_)
    refine r_aload_n (q23 (i := 55) rfl) l1 ?_
    refine r_aload_n (q23 (i := 56) rfl) l0 ?_
    refine r_aload_n (q23 (i := 57) rfl) l0 ?_
    refine r_getR (b := 35) (q23 (i := 58) rfl) rfl (by decide) (k_42 S) (fun _ _ _ => rfl) (r_42_0 S) ?_
    refine r_getR (b := 39) (q23 (i := 59) rfl) rfl (by decide) (k_35 S) (fun _ _ _ => rfl) (r_35_4 S) ?_
    refine r_iload_n (q23 (i := 60) rfl) l2 ?_
    refine r_iaN (x := nI (tU t i)) (q23 (i := 61) rfl) (k_39 S) (by omega) (by decide) u1' ?_
    refine r_cV (d := _) (q23 (i := 62) rfl) rfl rfl rfl (k_42 S) (Nat.le_of_ble_eq_true rfl) (Nat.zero_le _) (Nat.zero_le _) R1 ?_
    show Wp _ _ _ 114 ls [.int (sg t K o.2 (tU t i)), .ref 10] h _ _
    refine r_cV (d := _) (q23 (i := 63) rfl) rfl rfl rfl (k_10 S) (Nat.le_of_ble_eq_true rfl) (Nat.zero_le _) (Nat.zero_le _) R2 ?_
    show Wp _ _ _ 117 ls [.int (nI (i + 1) - 1)] (sI (sI h 15 i (sg t K o.2 (tU t i))) 10 8 (nI (i + 1))) _ _
    refine r_pop (q23 (i := 64) rfl) rfl ?_
    refine r_iinc (y := nI (i + 1)) (q23 (i := 65) rfl) (Nat.le_of_ble_eq_true rfl) l2 (nI_1 i) rfl ?_
    have l0 := lk1 (k := 2) (v := .int (nI (i + 1))) l0 (by decide) (Or.inr (by decide))
    have l1 := lk1 (k := 2) (v := .int (nI (i + 1))) l1 (by decide) (Or.inl rfl)
    have l2 := lk0 ls 2 (.int (nI (i + 1)))
    generalize lset1 ls 2 (.int (nI (i + 1))) = ls at l2 l0 l1 ⊢
    refine r_goto 89 (q23 (i := 66) rfl) (by decide) ?_
    exact hk Q hQ bc bs ls l2 l0 l1
set_option maxHeartbeats 2000000 in
set_option maxRecDepth 10000 in
theorem sp_fill_10 {d : Nat} {t : txt} {K : Bool} {o : ost} (fo : fok t o) {c : cir} {w : Nat → Int32} {h : hp} (S : Sh h) (T : FT h t K o) (C : CH_10 h c 0 w 0) : ∃ h', Run (d + 2 + 1) 23 [.ref 42, .ref 10] h 0 0 none h' ∧ CH_10 h' (flA t K o (tN t) 0 (fl0 K c)) (k0 K + tN t) (flO t K o (tO t) 0 w) (tO t) ∧ FrF_10 h h' := by
  have h1 : ∃ h1, CH_10 h1 (fl0 K c) (k0 K + 0) w 0 ∧ FrF_10 h h1 ∧ ∀ (Q : resP) (bc bs : Nat), (∀ ls : List (Nat × Value), ls.lookup 2 = some (.int (nI 0)) → ls.lookup 0 = some (.ref 42) → ls.lookup 1 = some (.ref 10) → Wp (Ex (d + 2)) 23 Q 22 ls [] h1 bc bs) → Wp (Ex (d + 2)) 23 Q 0 [(0, .ref 42), (1, .ref 10)] [] h bc bs := by
    have hK := T.2.1
    cases K with
    | true =>
      have R1 := sp_addGate_10 (d := d + 1) S C.2.1 (by decide) 8 0 0 0
      refine ⟨adH_10 h 0 8 0 0 0, CH_10_g C 8 0 0 0, adH_10_F _ _ _ _ _ _, ?_⟩
      intro Q bc bs hk
      refine r_aload_n (q23 (i := 0) rfl) rfl ?_
      refine r_getR (b := 35) (q23 (i := 1) rfl) rfl (by decide) (k_42 S) (fun _ _ _ => rfl) (r_42_0 S) ?_
      refine r_getI (x := 1) (q23 (i := 2) rfl) rfl (by decide) (k_35 S) (fun _ _ _ => rfl) hK ?_
      refine r_if 20 (q23 (i := 3) rfl) (by decide) (fun zz => absurd zz (show ¬ ((1 : Int32) = 0) from by decide)) (fun _ => ?_)
      refine r_aload_n (q23 (i := 4) rfl) rfl ?_
      refine r_bipush (v := 8) (q23 (i := 5) rfl) (by decide) ?_
      refine r_iconst (v := 0) (q23 (i := 6) rfl) (by decide) ?_
      refine r_iconst (v := 0) (q23 (i := 7) rfl) (by decide) ?_
      refine r_iconst (v := 0) (q23 (i := 8) rfl) (by decide) ?_
      refine r_cV (d := _) (q23 (i := 9) rfl) rfl rfl rfl (k_10 S) (Nat.le_of_ble_eq_true rfl) (Nat.zero_le _) (Nat.zero_le _) R1 ?_
      show Wp _ _ _ 19 [(0, .ref 42), (1, .ref 10)] [.int (hI h 10 6 + nI (0 + 1) - 1)] (adH_10 h 0 8 0 0 0) _ _
      refine r_pop (q23 (i := 10) rfl) rfl ?_
      refine r_iconst (v := 0) (q23 (i := 11) rfl) (by decide) ?_
      refine r_istore_n (ls' := [(2, .int 0), (0, .ref 42), (1, .ref 10)]) (q23 (i := 12) rfl) (Nat.le_of_ble_eq_true rfl) rfl ?_
      exact hk _ rfl rfl rfl
    | false =>
      refine ⟨h, C, FrF_10.rf h, ?_⟩
      intro Q bc bs hk
      refine r_aload_n (q23 (i := 0) rfl) rfl ?_
      refine r_getR (b := 35) (q23 (i := 1) rfl) rfl (by decide) (k_42 S) (fun _ _ _ => rfl) (r_42_0 S) ?_
      refine r_getI (x := 0) (q23 (i := 2) rfl) rfl (by decide) (k_35 S) (fun _ _ _ => rfl) hK ?_
      refine r_if 20 (q23 (i := 3) rfl) (by decide) (fun _ => ?_) (fun zz => absurd (show (0 : Int32) = 0 from by decide) zz)
      refine r_iconst (v := 0) (q23 (i := 11) rfl) (by decide) ?_
      refine r_istore_n (ls' := [(2, .int 0), (0, .ref 42), (1, .ref 10)]) (q23 (i := 12) rfl) (Nat.le_of_ble_eq_true rfl) rfl ?_
      exact hk _ rfl rfl rfl
  obtain ⟨h1, C1, F1, K1⟩ := h1
  obtain ⟨h2, C2, F2, K2⟩ := lp_flA_10 (d := d) fo (tN t) 0 _ h1 (Nat.zero_add _) (F1.S S) (F1.F T) C1
  have F12 := F1.tr F2
  obtain ⟨h3, C3, F3, K3⟩ := lp_flO_10 (d := d) fo (tO t) 0 _ h2 (Nat.zero_add _) (F12.S S) (F12.F T) C2
  refine ⟨h3, ?_, C3, F12.tr F3⟩
  refine Run.of (Nat.le_of_ble_eq_true rfl) (fun Q hQ => ?_)
  show Wp (Ex (d + 2)) 23 Q 0 [(0, .ref 42), (1, .ref 10)] [] h 0 0
  refine K1 Q 0 0 (fun ls l2 l0 l1 => K2 Q 0 0 (fun ls l0 l1 => ?_) ls l2 l0 l1)
  refine r_iconst (v := 0) (q23 (i := 48) rfl) (by decide) ?_
  refine r_istore_n (ls' := lset1 ls 2 (.int 0)) (q23 (i := 49) rfl) (Nat.le_of_ble_eq_true rfl) rfl ?_
  have l0 := lk1 (k := 2) (v := .int 0) l0 (by decide) (Or.inr (by decide))
  have l1 := lk1 (k := 2) (v := .int 0) l1 (by decide) (Or.inl rfl)
  have l2 := lk0 ls 2 (.int 0)
  generalize lset1 ls 2 (.int 0) = ls at l2 l0 l1 ⊢
  exact K3 Q hQ _ _ ls l2 l0 l1
