/-! ===== two more facts of a good text ===== -/
def PZ (s : pst) : Prop := s.2.1 0 = 0 ∧ (s.2.2.2.1 = true → ∃ i, i < s.2.2.1.2.2 ∧ s.2.2.1.1 i < 2)
theorem PZ.ex {B : Nat → Int32} {z c : Nat} {s s' : pst} (P : PZ s) (h : Fex B z c s = .ok s') : PZ s' := by
  have e := Fex_ok h
  unfold PZ at *
  rw [e]; exact P
theorem PZ.df {B : Nat → Int32} {z H j : Nat} {s s' : pst} (P : PZ s) (h : Fdef B z H j s = .ok s') : PZ s' := by
  unfold Fdef at h
  split at h
  · split at h
    · cases h
    · rename_i q
      injection h with h
      subst h
      refine ⟨?_, P.2⟩
      show u1 s.2.1 _ j 0 = 0
      rw [u1_n (fun y => q (Or.inr (Or.inl (by omega))))]
      exact P.1
  · cases h
theorem PZ.us {B : Nat → Int32} {z H : Nat} {s s' : pst} (P : PZ s) (h : Fuse B z H s = .ok s') : PZ s' := by
  unfold Fuse at h
  split at h
  · split at h
    · cases h
    · injection h with h
      subst h
      refine ⟨P.1, fun k => ?_⟩
      have k : (s.2.2.2.1 || decide ((numP B z s.1).1 < 2)) = true := k
      show ∃ i, i < s.2.2.1.2.2 + 1 ∧ u1 s.2.2.1.1 s.2.2.1.2.2 _ i < 2
      rw [Bool.or_eq_true] at k
      rcases k with k | k
      · obtain ⟨i, a, b⟩ := P.2 k
        exact ⟨i, by omega, by rw [u1_n (by omega)]; exact b⟩
      · exact ⟨s.2.2.1.2.2, Nat.lt_succ_self _, by rw [u1_s]; exact of_decide_eq_true k⟩
  · cases h
theorem PZ.ins {B : Nat → Int32} {z H : Nat} : ∀ (m i : Nat) (s s' : pst), Fins B z H m i s = .ok s' → PZ s → PZ s'
  | 0, _, s, s', h, P => by
    have h : (Except.ok s : pres) = .ok s' := h
    injection h with h
    subst h; exact P
  | m + 1, i, s, s', h, P => by
    obtain ⟨a, h1, h2⟩ := bind_ok h
    obtain ⟨b, h3, h4⟩ := bind_ok h1
    exact PZ.ins m (i + 1) a s' h2 ((P.df h3).ex h4)
theorem PZ.outs {B : Nat → Int32} {z H : Nat} : ∀ (m : Nat) (s s' : pst), Fouts B z H m s = .ok s' → PZ s → PZ s'
  | 0, s, s', h, P => by
    have h : (Except.ok s : pres) = .ok s' := h
    injection h with h
    subst h; exact P
  | m + 1, s, s', h, P => by
    obtain ⟨a, h1, h2⟩ := bind_ok h
    obtain ⟨b, h3, h4⟩ := bind_ok h1
    exact PZ.outs m a s' h2 ((P.us h3).ex h4)
theorem PZ.ands {B : Nat → Int32} {z H n : Nat} : ∀ (m : Nat) (s s' : pst), Fands B z H n m s = .ok s' → PZ s → PZ s'
  | 0, s, s', h, P => by
    have h : (Except.ok s : pres) = .ok s' := h
    injection h with h
    subst h; exact P
  | m + 1, s, s', h, P => by
    obtain ⟨a, h0, h9⟩ := bind_ok h
    obtain ⟨a5, h5, k6⟩ := bind_ok h0
    obtain ⟨a4, h4, k5⟩ := bind_ok h5
    obtain ⟨a3, h3, k4⟩ := bind_ok h4
    obtain ⟨a2, h2, k3⟩ := bind_ok h3
    obtain ⟨a1, h1, k2⟩ := bind_ok h2
    have P0 : PZ (Fap s) := P
    exact PZ.ands m a s' h9 ((((((P0.df h1).ex k2).us k3).ex k4).us k5).ex k6)
theorem body_pz {B : Nat → Int32} {z n a : Nat} {hv : Nat → Nat} {s : pst} (h : Fbody B z n hv (a, s00.2) = .ok s) : PZ s := by
  obtain ⟨s4, h4, k5⟩ := bind_ok h
  obtain ⟨s3, h3, k4⟩ := bind_ok h4
  obtain ⟨s2, h2, k3⟩ := bind_ok h3
  obtain ⟨s1, h1, k2⟩ := bind_ok h2
  have P0 : PZ (a, s00.2) := ⟨rfl, fun k => absurd (show (false : Bool) = true from k) (by decide)⟩
  have P3 := PZ.ands _ _ _ k3 (PZ.outs _ _ _ k2 (PZ.ins n 0 _ _ h1 P0))
  rw [(Fnd_ok _ _ _ _ k5).1, Fend_ok k4]
  exact P3
/-! ===== what needs itself, in the reference ===== -/
/-- a good text in the reference's cells -/
def XTm (h : hp) (t : txt) : Prop := (Sh h ∧ hI h 1075 3 = nI (tO t) ∧ hI h 1075 4 = nI (tN t)) ∧ DM h (tn t) (tD t) ∧ (∀ i, i < tN t → ∀ j, j < 2 → hI h (1080 + i) (1 + j) = nI (sid t i j) ∧ sid t i j ≤ 2001) ∧ (tD t 0 = 0 ∧ (∀ v, tD t v ≤ tn t + tN t)) ∧ (tn t ≤ 12 ∧ tO t ≤ 10 ∧ tN t ≤ 119)
def RM (h : hp) (N : Nat) (R : Nat → Bool) : Prop := ∀ i, i < N → hI h 1323 i = bI (R i)
def FrR (h h' : hp) : Prop := h'.2 = h.2 ∧ ∀ k, k ≠ 1323 → hI h' k = hI h k
theorem FrR.rf (h : hp) : FrR h h := ⟨rfl, fun _ _ => rfl⟩
theorem FrR.tr {h h' h'' : hp} (a : FrR h h') (b : FrR h' h'') : FrR h h'' := ⟨b.1.trans a.1, fun k x => (b.2 k x).trans (a.2 k x)⟩
theorem FrR.w {h : hp} (i : Nat) (v : Int32) : FrR h (sI h 1323 i v) := ⟨rfl, fun k x => by
  show u2 h.1 1323 _ _ k = _
  rw [u2_n x]⟩
theorem FrR.X {h h' : hp} (F : FrR h h') {t : txt} (X : XTm h t) : XTm h' t := by
  obtain ⟨⟨a1, a2, a3⟩, b, c, d⟩ := X
  refine ⟨⟨a1.to (by rw [F.1]), by rw [F.2 1075 (by decide)]; exact a2, by rw [F.2 1075 (by decide)]; exact a3⟩, fun v hv => by rw [F.2 1077 (by decide), F.2 1078 (by decide)]; exact b v hv, fun i hi j hj => ?_, d⟩
  rw [F.2 (1080 + i) (by have := d.2.2.2; omega)]
  exact c i hi j hj
def mk1 (R : Nat → Bool) (o : Option Nat) : Nat → Bool := match o with
  | none => R
  | some b => u1 R b true
def nw (R : Nat → Bool) (o : Option Nat) : Bool := match o with
  | none => false
  | some b => !R b
theorem RM_u {h : hp} {N b : Nat} {R : Nat → Bool} (r : RM h N R) : RM (sI h 1323 b 1) N (u1 R b true) := fun i hi => by
  show u1 (hI h 1323) b _ i = bI (u1 R b true i)
  by_cases e : i = b
  · rw [e, u1_s, u1_s]; rfl
  · rw [u1_n e, u1_n e]; exact r i hi
theorem u1_true {R : Nat → Bool} {b : Nat} (h : R b = true) : u1 R b true = R := by
  funext i
  by_cases e : i = b
  · rw [e, u1_s, h]
  · rw [u1_n e]
set_option maxHeartbeats 2000000 in
set_option maxRecDepth 10000 in
theorem mk_0 {d : Nat} {t : txt} {h : hp} (X : XTm h t) {a : Nat} (ha : a < tN t) {R : Nat → Bool} (r : RM h (tN t) R) (m : Int32) : ∃ h', RM h' (tN t) (mk1 R (sAO t a 0)) ∧ FrR h h' ∧ ∀ (Q : resP) (bc bs : Nat), (∀ ls : List (Nat × Value), ls.lookup 3 = some (.int 2) → ls.lookup 2 = some (.int (if nw R (sAO t a 0) then 1 else m)) → ls.lookup 1 = some (.int (nI a)) → ls.lookup 0 = some (.ref 47) → Wp (Ex d) 127 Q 4 ls [] h' bc bs) → ∀ ls : List (Nat × Value), ls.lookup 3 = some (.int 1) → ls.lookup 2 = some (.int m) → ls.lookup 1 = some (.int (nI a)) → ls.lookup 0 = some (.ref 47) → Wp (Ex d) 127 Q 4 ls [] h bc bs := by
  have S := X.1.1
  have hN := X.2.2.2.2.2.2
  obtain ⟨x1, x2⟩ := X.2.2.1 a ha 0 (by decide)
  have hD := X.2.2.2.1.2
  unfold sAO
  obtain ⟨lit, el⟩ : ∃ x, x = sid t a 0 := ⟨_, rfl⟩
  rw [← el] at x1 x2 ⊢
  by_cases q : tn t < tD t (lit / 2)
  · have eo : AO (tD t) (tn t) lit = some (tD t (lit / 2) - tn t - 1) := if_pos q
    rw [eo]
    have hv : 0 < lit / 2 := by
      rcases Nat.eq_zero_or_pos (lit / 2) with y | y
      · rw [y, X.2.2.2.1.1] at q; omega
      · exact y
    have hb := hD (lit / 2)
    obtain ⟨b, ebb⟩ : ∃ x, x = tD t (lit / 2) - tn t - 1 := ⟨_, rfl⟩
    rw [← ebb]
    obtain ⟨d1, d2⟩ := X.2.1 (lit / 2) (by omega)
    rw [if_neg (by omega), if_neg (by omega)] at d1
    have d2 := d2 (by omega)
    rw [if_neg (by omega), ← ebb] at d2
    have d1 : hI h 1077 (lit / 2) = 2 := d1
    have rb := r b (by omega)
    cases eR : R b with
    | true =>
      rw [eR] at rb
      have rb : hI h 1323 b = 1 := rb
      refine ⟨h, by show RM h _ (u1 R b true); rw [u1_true eR]; exact r, FrR.rf h, fun Q bc bs kk ls l3 l2 l1 l0 => ?_⟩
      rw [show nw R (some b) = false by show (!R b) = false; rw [eR]; rfl, if_neg (by decide)] at kk
      refine r_iload_n (q127 (i := 4) rfl) l3 ?_
      refine r_iconst (v := 3) (q127 (i := 5) rfl) (by decide) ?_
      refine r_icmp 73 (q127 (i := 6) rfl) (by decide) (fun zz => absurd zz (show ¬ (3 ≤ (1 : Int32)) from by decide)) (fun _ => ?_)
      refine r_aload_n (q127 (i := 7) rfl) l0 ?_
      refine r_getR (b := 1079) (q127 (i := 8) rfl) rfl (by decide) (k_47 S) (fun _ _ _ => rfl) (r_47_34 S) ?_
      refine r_iload_n (q127 (i := 9) rfl) l1 ?_
      refine r_aa5N (q127 (i := 10) rfl) (k_1079 S) (by omega) (by decide) (rAnd S (by omega)) ?_
      refine r_iload_n (q127 (i := 11) rfl) l3 ?_
      refine r_iaload (x := nI lit) (q127 (i := 12) rfl) (kAnd S (x := a) (by omega)) (vp_in_nI (n := 1) (by decide) (by decide)) x1 ?_
      refine r_iconst (v := 2) (q127 (i := 13) rfl) (by decide) ?_
      refine r_idiv (q127 (i := 14) rfl) (by decide) ?_
      rw [show ((nI lit) / 2 : Int32) = nI (lit / 2) from div2 (by omega)]
      refine r_istore (ls' := lset1 ls 4 (.int (nI (lit / 2)))) (q127 (i := 15) rfl) (Nat.le_of_ble_eq_true rfl) rfl ?_
      have l3 := lk1 (k := 4) (v := .int (nI (lit / 2))) l3 (by decide) (Or.inl rfl)
      have l2 := lk1 (k := 4) (v := .int (nI (lit / 2))) l2 (by decide) (Or.inr (by decide))
      have l1 := lk1 (k := 4) (v := .int (nI (lit / 2))) l1 (by decide) (Or.inr (by decide))
      have l0 := lk1 (k := 4) (v := .int (nI (lit / 2))) l0 (by decide) (Or.inr (by decide))
      have l4 := lk0 ls 4 (.int (nI (lit / 2)))
      generalize lset1 ls 4 (.int (nI (lit / 2))) = ls at l4 l3 l2 l1 l0 ⊢
      refine r_iload (q127 (i := 16) rfl) l4 ?_
      refine r_if 67 (q127 (i := 17) rfl) (by decide) (fun zz => absurd zz (show ¬ (nI (lit / 2) ≤ 0) from nI_nle (by omega) (by omega))) (fun _ => ?_)
      refine r_aload_n (q127 (i := 18) rfl) l0 ?_
      refine r_getR (b := 1077) (q127 (i := 19) rfl) rfl (by decide) (k_47 S) (fun _ _ _ => rfl) (r_47_32 S) ?_
      refine r_iload (q127 (i := 20) rfl) l4 ?_
      refine r_iaN (x := 2) (q127 (i := 21) rfl) (k_1077 S) (by omega) (by decide) d1 ?_
      refine r_iconst (v := 2) (q127 (i := 22) rfl) (by decide) ?_
      refine r_icmp 67 (q127 (i := 23) rfl) (by decide) (fun zz => absurd zz (show ¬ (¬ (2 : Int32) = 2) from by decide)) (fun _ => ?_)
      refine r_aload_n (q127 (i := 24) rfl) l0 ?_
      refine r_getR (b := 1323) (q127 (i := 25) rfl) rfl (by decide) (k_47 S) (fun _ _ _ => rfl) (r_47_38 S) ?_
      refine r_aload_n (q127 (i := 26) rfl) l0 ?_
      refine r_getR (b := 1078) (q127 (i := 27) rfl) rfl (by decide) (k_47 S) (fun _ _ _ => rfl) (r_47_33 S) ?_
      refine r_iload (q127 (i := 28) rfl) l4 ?_
      refine r_iaN (x := nI b) (q127 (i := 29) rfl) (k_1078 S) (by omega) (by decide) d2 ?_
      refine r_zaN (x := 1) (q127 (i := 30) rfl) (k_1323 S) (by omega) (by decide) rb ?_
      refine r_if 67 (q127 (i := 31) rfl) (by decide) (fun _ => ?_) (fun zz => absurd (show ¬ (1 : Int32) = 0 from by decide) zz)
      refine r_iinc (y := 2) (q127 (i := 42) rfl) (Nat.le_of_ble_eq_true rfl) l3 (by decide) rfl ?_
      have l4 := lk1 (k := 3) (v := .int 2) l4 (by decide) (Or.inr (by decide))
      have l2 := lk1 (k := 3) (v := .int 2) l2 (by decide) (Or.inl rfl)
      have l1 := lk1 (k := 3) (v := .int 2) l1 (by decide) (Or.inr (by decide))
      have l0 := lk1 (k := 3) (v := .int 2) l0 (by decide) (Or.inr (by decide))
      have l3 := lk0 ls 3 (.int 2)
      generalize lset1 ls 3 (.int 2) = ls at l3 l4 l2 l1 l0 ⊢
      refine r_goto 4 (q127 (i := 43) rfl) (by decide) ?_
      exact kk ls l3 l2 l1 l0
    | false =>
      rw [eR] at rb
      have rb : hI h 1323 b = 0 := rb
      refine ⟨sI h 1323 b 1, RM_u r, FrR.w _ _, fun Q bc bs kk ls l3 l2 l1 l0 => ?_⟩
      rw [show nw R (some b) = true by show (!R b) = true; rw [eR]; rfl, if_pos rfl] at kk
      refine r_iload_n (q127 (i := 4) rfl) l3 ?_
      refine r_iconst (v := 3) (q127 (i := 5) rfl) (by decide) ?_
      refine r_icmp 73 (q127 (i := 6) rfl) (by decide) (fun zz => absurd zz (show ¬ (3 ≤ (1 : Int32)) from by decide)) (fun _ => ?_)
      refine r_aload_n (q127 (i := 7) rfl) l0 ?_
      refine r_getR (b := 1079) (q127 (i := 8) rfl) rfl (by decide) (k_47 S) (fun _ _ _ => rfl) (r_47_34 S) ?_
      refine r_iload_n (q127 (i := 9) rfl) l1 ?_
      refine r_aa5N (q127 (i := 10) rfl) (k_1079 S) (by omega) (by decide) (rAnd S (by omega)) ?_
      refine r_iload_n (q127 (i := 11) rfl) l3 ?_
      refine r_iaload (x := nI lit) (q127 (i := 12) rfl) (kAnd S (x := a) (by omega)) (vp_in_nI (n := 1) (by decide) (by decide)) x1 ?_
      refine r_iconst (v := 2) (q127 (i := 13) rfl) (by decide) ?_
      refine r_idiv (q127 (i := 14) rfl) (by decide) ?_
      rw [show ((nI lit) / 2 : Int32) = nI (lit / 2) from div2 (by omega)]
      refine r_istore (ls' := lset1 ls 4 (.int (nI (lit / 2)))) (q127 (i := 15) rfl) (Nat.le_of_ble_eq_true rfl) rfl ?_
      have l3 := lk1 (k := 4) (v := .int (nI (lit / 2))) l3 (by decide) (Or.inl rfl)
      have l2 := lk1 (k := 4) (v := .int (nI (lit / 2))) l2 (by decide) (Or.inr (by decide))
      have l1 := lk1 (k := 4) (v := .int (nI (lit / 2))) l1 (by decide) (Or.inr (by decide))
      have l0 := lk1 (k := 4) (v := .int (nI (lit / 2))) l0 (by decide) (Or.inr (by decide))
      have l4 := lk0 ls 4 (.int (nI (lit / 2)))
      generalize lset1 ls 4 (.int (nI (lit / 2))) = ls at l4 l3 l2 l1 l0 ⊢
      refine r_iload (q127 (i := 16) rfl) l4 ?_
      refine r_if 67 (q127 (i := 17) rfl) (by decide) (fun zz => absurd zz (show ¬ (nI (lit / 2) ≤ 0) from nI_nle (by omega) (by omega))) (fun _ => ?_)
      refine r_aload_n (q127 (i := 18) rfl) l0 ?_
      refine r_getR (b := 1077) (q127 (i := 19) rfl) rfl (by decide) (k_47 S) (fun _ _ _ => rfl) (r_47_32 S) ?_
      refine r_iload (q127 (i := 20) rfl) l4 ?_
      refine r_iaN (x := 2) (q127 (i := 21) rfl) (k_1077 S) (by omega) (by decide) d1 ?_
      refine r_iconst (v := 2) (q127 (i := 22) rfl) (by decide) ?_
      refine r_icmp 67 (q127 (i := 23) rfl) (by decide) (fun zz => absurd zz (show ¬ (¬ (2 : Int32) = 2) from by decide)) (fun _ => ?_)
      refine r_aload_n (q127 (i := 24) rfl) l0 ?_
      refine r_getR (b := 1323) (q127 (i := 25) rfl) rfl (by decide) (k_47 S) (fun _ _ _ => rfl) (r_47_38 S) ?_
      refine r_aload_n (q127 (i := 26) rfl) l0 ?_
      refine r_getR (b := 1078) (q127 (i := 27) rfl) rfl (by decide) (k_47 S) (fun _ _ _ => rfl) (r_47_33 S) ?_
      refine r_iload (q127 (i := 28) rfl) l4 ?_
      refine r_iaN (x := nI b) (q127 (i := 29) rfl) (k_1078 S) (by omega) (by decide) d2 ?_
      refine r_zaN (x := 0) (q127 (i := 30) rfl) (k_1323 S) (by omega) (by decide) rb ?_
      refine r_if 67 (q127 (i := 31) rfl) (by decide) (fun zz => absurd zz (show ¬ (¬ (0 : Int32) = 0) from by decide)) (fun _ => ?_)
      refine r_aload_n (q127 (i := 32) rfl) l0 ?_
      refine r_getR (b := 1323) (q127 (i := 33) rfl) rfl (by decide) (k_47 S) (fun _ _ _ => rfl) (r_47_38 S) ?_
      refine r_aload_n (q127 (i := 34) rfl) l0 ?_
      refine r_getR (b := 1078) (q127 (i := 35) rfl) rfl (by decide) (k_47 S) (fun _ _ _ => rfl) (r_47_33 S) ?_
      refine r_iload (q127 (i := 36) rfl) l4 ?_
      refine r_iaN (x := nI b) (q127 (i := 37) rfl) (k_1078 S) (by omega) (by decide) d2 ?_
      refine r_iconst (v := 1) (q127 (i := 38) rfl) (by decide) ?_
      refine r_zasN (y := 1) (q127 (i := 39) rfl) (k_1323 S) (by omega) (by decide) nb1 ?_
      refine r_iconst (v := 1) (q127 (i := 40) rfl) (by decide) ?_
      refine r_istore_n (ls' := lset1 ls 2 (.int 1)) (q127 (i := 41) rfl) (Nat.le_of_ble_eq_true rfl) rfl ?_
      have l4 := lk1 (k := 2) (v := .int 1) l4 (by decide) (Or.inr (by decide))
      have l3 := lk1 (k := 2) (v := .int 1) l3 (by decide) (Or.inr (by decide))
      have l1 := lk1 (k := 2) (v := .int 1) l1 (by decide) (Or.inl rfl)
      have l0 := lk1 (k := 2) (v := .int 1) l0 (by decide) (Or.inr (by decide))
      have l2 := lk0 ls 2 (.int 1)
      generalize lset1 ls 2 (.int 1) = ls at l2 l4 l3 l1 l0 ⊢
      refine r_iinc (y := 2) (q127 (i := 42) rfl) (Nat.le_of_ble_eq_true rfl) l3 (by decide) rfl ?_
      have l2 := lk1 (k := 3) (v := .int 2) l2 (by decide) (Or.inl rfl)
      have l4 := lk1 (k := 3) (v := .int 2) l4 (by decide) (Or.inr (by decide))
      have l1 := lk1 (k := 3) (v := .int 2) l1 (by decide) (Or.inr (by decide))
      have l0 := lk1 (k := 3) (v := .int 2) l0 (by decide) (Or.inr (by decide))
      have l3 := lk0 ls 3 (.int 2)
      generalize lset1 ls 3 (.int 2) = ls at l3 l2 l4 l1 l0 ⊢
      refine r_goto 4 (q127 (i := 43) rfl) (by decide) ?_
      exact kk ls l3 l2 l1 l0
  · have eo : AO (tD t) (tn t) lit = none := if_neg q
    rw [eo]
    refine ⟨h, r, FrR.rf h, fun Q bc bs kk ls l3 l2 l1 l0 => ?_⟩
    rw [show nw R none = false from rfl, if_neg (by decide)] at kk
    refine r_iload_n (q127 (i := 4) rfl) l3 ?_
    refine r_iconst (v := 3) (q127 (i := 5) rfl) (by decide) ?_
    refine r_icmp 73 (q127 (i := 6) rfl) (by decide) (fun zz => absurd zz (show ¬ (3 ≤ (1 : Int32)) from by decide)) (fun _ => ?_)
    refine r_aload_n (q127 (i := 7) rfl) l0 ?_
    refine r_getR (b := 1079) (q127 (i := 8) rfl) rfl (by decide) (k_47 S) (fun _ _ _ => rfl) (r_47_34 S) ?_
    refine r_iload_n (q127 (i := 9) rfl) l1 ?_
    refine r_aa5N (q127 (i := 10) rfl) (k_1079 S) (by omega) (by decide) (rAnd S (by omega)) ?_
    refine r_iload_n (q127 (i := 11) rfl) l3 ?_
    refine r_iaload (x := nI lit) (q127 (i := 12) rfl) (kAnd S (x := a) (by omega)) (vp_in_nI (n := 1) (by decide) (by decide)) x1 ?_
    refine r_iconst (v := 2) (q127 (i := 13) rfl) (by decide) ?_
    refine r_idiv (q127 (i := 14) rfl) (by decide) ?_
    rw [show ((nI lit) / 2 : Int32) = nI (lit / 2) from div2 (by omega)]
    refine r_istore (ls' := lset1 ls 4 (.int (nI (lit / 2)))) (q127 (i := 15) rfl) (Nat.le_of_ble_eq_true rfl) rfl ?_
    have l3 := lk1 (k := 4) (v := .int (nI (lit / 2))) l3 (by decide) (Or.inl rfl)
    have l2 := lk1 (k := 4) (v := .int (nI (lit / 2))) l2 (by decide) (Or.inr (by decide))
    have l1 := lk1 (k := 4) (v := .int (nI (lit / 2))) l1 (by decide) (Or.inr (by decide))
    have l0 := lk1 (k := 4) (v := .int (nI (lit / 2))) l0 (by decide) (Or.inr (by decide))
    have l4 := lk0 ls 4 (.int (nI (lit / 2)))
    generalize lset1 ls 4 (.int (nI (lit / 2))) = ls at l4 l3 l2 l1 l0 ⊢
    refine r_iload (q127 (i := 16) rfl) l4 ?_
    refine r_if 67 (q127 (i := 17) rfl) (by decide) (fun c23 => ?_) (fun c23 => ?_)
    · have c23 : nI (lit / 2) ≤ 0 := c23
      refine r_iinc (y := 2) (q127 (i := 42) rfl) (Nat.le_of_ble_eq_true rfl) l3 (by decide) rfl ?_
      have l4 := lk1 (k := 3) (v := .int 2) l4 (by decide) (Or.inr (by decide))
      have l2 := lk1 (k := 3) (v := .int 2) l2 (by decide) (Or.inl rfl)
      have l1 := lk1 (k := 3) (v := .int 2) l1 (by decide) (Or.inr (by decide))
      have l0 := lk1 (k := 3) (v := .int 2) l0 (by decide) (Or.inr (by decide))
      have l3 := lk0 ls 3 (.int 2)
      generalize lset1 ls 3 (.int 2) = ls at l3 l4 l2 l1 l0 ⊢
      refine r_goto 4 (q127 (i := 43) rfl) (by decide) ?_
      exact kk ls l3 l2 l1 l0
    · have c23 : ¬ (nI (lit / 2) ≤ 0) := c23
      refine r_aload_n (q127 (i := 18) rfl) l0 ?_
      refine r_getR (b := 1077) (q127 (i := 19) rfl) rfl (by decide) (k_47 S) (fun _ _ _ => rfl) (r_47_32 S) ?_
      refine r_iload (q127 (i := 20) rfl) l4 ?_
      refine r_iaN (x := nI (if tD t (lit / 2) = 0 then 0 else if tD t (lit / 2) ≤ tn t then 1 else 2)) (q127 (i := 21) rfl) (k_1077 S) (by omega) (by decide) ((X.2.1 (lit / 2) (by omega)).1) ?_
      refine r_iconst (v := 2) (q127 (i := 22) rfl) (by decide) ?_
      refine r_icmp 67 (q127 (i := 23) rfl) (by decide) (fun _ => ?_) (fun zz => absurd (show ¬ nI (if tD t (lit / 2) = 0 then 0 else if tD t (lit / 2) ≤ tn t then 1 else 2) = 2 from fun y => by split at y; exact absurd y (by decide); split at y; exact absurd y (by decide); omega) zz)
      refine r_iinc (y := 2) (q127 (i := 42) rfl) (Nat.le_of_ble_eq_true rfl) l3 (by decide) rfl ?_
      have l4 := lk1 (k := 3) (v := .int 2) l4 (by decide) (Or.inr (by decide))
      have l2 := lk1 (k := 3) (v := .int 2) l2 (by decide) (Or.inl rfl)
      have l1 := lk1 (k := 3) (v := .int 2) l1 (by decide) (Or.inr (by decide))
      have l0 := lk1 (k := 3) (v := .int 2) l0 (by decide) (Or.inr (by decide))
      have l3 := lk0 ls 3 (.int 2)
      generalize lset1 ls 3 (.int 2) = ls at l3 l4 l2 l1 l0 ⊢
      refine r_goto 4 (q127 (i := 43) rfl) (by decide) ?_
      exact kk ls l3 l2 l1 l0
set_option maxHeartbeats 2000000 in
set_option maxRecDepth 10000 in
theorem mk_1 {d : Nat} {t : txt} {h : hp} (X : XTm h t) {a : Nat} (ha : a < tN t) {R : Nat → Bool} (r : RM h (tN t) R) (m : Int32) : ∃ h', RM h' (tN t) (mk1 R (sAO t a 1)) ∧ FrR h h' ∧ ∀ (Q : resP) (bc bs : Nat), (∀ ls : List (Nat × Value), ls.lookup 3 = some (.int 3) → ls.lookup 2 = some (.int (if nw R (sAO t a 1) then 1 else m)) → ls.lookup 1 = some (.int (nI a)) → ls.lookup 0 = some (.ref 47) → Wp (Ex d) 127 Q 4 ls [] h' bc bs) → ∀ ls : List (Nat × Value), ls.lookup 3 = some (.int 2) → ls.lookup 2 = some (.int m) → ls.lookup 1 = some (.int (nI a)) → ls.lookup 0 = some (.ref 47) → Wp (Ex d) 127 Q 4 ls [] h bc bs := by
  have S := X.1.1
  have hN := X.2.2.2.2.2.2
  obtain ⟨x1, x2⟩ := X.2.2.1 a ha 1 (by decide)
  have hD := X.2.2.2.1.2
  unfold sAO
  obtain ⟨lit, el⟩ : ∃ x, x = sid t a 1 := ⟨_, rfl⟩
  rw [← el] at x1 x2 ⊢
  by_cases q : tn t < tD t (lit / 2)
  · have eo : AO (tD t) (tn t) lit = some (tD t (lit / 2) - tn t - 1) := if_pos q
    rw [eo]
    have hv : 0 < lit / 2 := by
      rcases Nat.eq_zero_or_pos (lit / 2) with y | y
      · rw [y, X.2.2.2.1.1] at q; omega
      · exact y
    have hb := hD (lit / 2)
    obtain ⟨b, ebb⟩ : ∃ x, x = tD t (lit / 2) - tn t - 1 := ⟨_, rfl⟩
    rw [← ebb]
    obtain ⟨d1, d2⟩ := X.2.1 (lit / 2) (by omega)
    rw [if_neg (by omega), if_neg (by omega)] at d1
    have d2 := d2 (by omega)
    rw [if_neg (by omega), ← ebb] at d2
    have d1 : hI h 1077 (lit / 2) = 2 := d1
    have rb := r b (by omega)
    cases eR : R b with
    | true =>
      rw [eR] at rb
      have rb : hI h 1323 b = 1 := rb
      refine ⟨h, by show RM h _ (u1 R b true); rw [u1_true eR]; exact r, FrR.rf h, fun Q bc bs kk ls l3 l2 l1 l0 => ?_⟩
      rw [show nw R (some b) = false by show (!R b) = false; rw [eR]; rfl, if_neg (by decide)] at kk
      refine r_iload_n (q127 (i := 4) rfl) l3 ?_
      refine r_iconst (v := 3) (q127 (i := 5) rfl) (by decide) ?_
      refine r_icmp 73 (q127 (i := 6) rfl) (by decide) (fun zz => absurd zz (show ¬ (3 ≤ (2 : Int32)) from by decide)) (fun _ => ?_)
      refine r_aload_n (q127 (i := 7) rfl) l0 ?_
      refine r_getR (b := 1079) (q127 (i := 8) rfl) rfl (by decide) (k_47 S) (fun _ _ _ => rfl) (r_47_34 S) ?_
      refine r_iload_n (q127 (i := 9) rfl) l1 ?_
      refine r_aa5N (q127 (i := 10) rfl) (k_1079 S) (by omega) (by decide) (rAnd S (by omega)) ?_
      refine r_iload_n (q127 (i := 11) rfl) l3 ?_
      refine r_iaload (x := nI lit) (q127 (i := 12) rfl) (kAnd S (x := a) (by omega)) (vp_in_nI (n := 2) (by decide) (by decide)) x1 ?_
      refine r_iconst (v := 2) (q127 (i := 13) rfl) (by decide) ?_
      refine r_idiv (q127 (i := 14) rfl) (by decide) ?_
      rw [show ((nI lit) / 2 : Int32) = nI (lit / 2) from div2 (by omega)]
      refine r_istore (ls' := lset1 ls 4 (.int (nI (lit / 2)))) (q127 (i := 15) rfl) (Nat.le_of_ble_eq_true rfl) rfl ?_
      have l3 := lk1 (k := 4) (v := .int (nI (lit / 2))) l3 (by decide) (Or.inl rfl)
      have l2 := lk1 (k := 4) (v := .int (nI (lit / 2))) l2 (by decide) (Or.inr (by decide))
      have l1 := lk1 (k := 4) (v := .int (nI (lit / 2))) l1 (by decide) (Or.inr (by decide))
      have l0 := lk1 (k := 4) (v := .int (nI (lit / 2))) l0 (by decide) (Or.inr (by decide))
      have l4 := lk0 ls 4 (.int (nI (lit / 2)))
      generalize lset1 ls 4 (.int (nI (lit / 2))) = ls at l4 l3 l2 l1 l0 ⊢
      refine r_iload (q127 (i := 16) rfl) l4 ?_
      refine r_if 67 (q127 (i := 17) rfl) (by decide) (fun zz => absurd zz (show ¬ (nI (lit / 2) ≤ 0) from nI_nle (by omega) (by omega))) (fun _ => ?_)
      refine r_aload_n (q127 (i := 18) rfl) l0 ?_
      refine r_getR (b := 1077) (q127 (i := 19) rfl) rfl (by decide) (k_47 S) (fun _ _ _ => rfl) (r_47_32 S) ?_
      refine r_iload (q127 (i := 20) rfl) l4 ?_
      refine r_iaN (x := 2) (q127 (i := 21) rfl) (k_1077 S) (by omega) (by decide) d1 ?_
      refine r_iconst (v := 2) (q127 (i := 22) rfl) (by decide) ?_
      refine r_icmp 67 (q127 (i := 23) rfl) (by decide) (fun zz => absurd zz (show ¬ (¬ (2 : Int32) = 2) from by decide)) (fun _ => ?_)
      refine r_aload_n (q127 (i := 24) rfl) l0 ?_
      refine r_getR (b := 1323) (q127 (i := 25) rfl) rfl (by decide) (k_47 S) (fun _ _ _ => rfl) (r_47_38 S) ?_
      refine r_aload_n (q127 (i := 26) rfl) l0 ?_
      refine r_getR (b := 1078) (q127 (i := 27) rfl) rfl (by decide) (k_47 S) (fun _ _ _ => rfl) (r_47_33 S) ?_
      refine r_iload (q127 (i := 28) rfl) l4 ?_
      refine r_iaN (x := nI b) (q127 (i := 29) rfl) (k_1078 S) (by omega) (by decide) d2 ?_
      refine r_zaN (x := 1) (q127 (i := 30) rfl) (k_1323 S) (by omega) (by decide) rb ?_
      refine r_if 67 (q127 (i := 31) rfl) (by decide) (fun _ => ?_) (fun zz => absurd (show ¬ (1 : Int32) = 0 from by decide) zz)
      refine r_iinc (y := 3) (q127 (i := 42) rfl) (Nat.le_of_ble_eq_true rfl) l3 (by decide) rfl ?_
      have l4 := lk1 (k := 3) (v := .int 3) l4 (by decide) (Or.inr (by decide))
      have l2 := lk1 (k := 3) (v := .int 3) l2 (by decide) (Or.inl rfl)
      have l1 := lk1 (k := 3) (v := .int 3) l1 (by decide) (Or.inr (by decide))
      have l0 := lk1 (k := 3) (v := .int 3) l0 (by decide) (Or.inr (by decide))
      have l3 := lk0 ls 3 (.int 3)
      generalize lset1 ls 3 (.int 3) = ls at l3 l4 l2 l1 l0 ⊢
      refine r_goto 4 (q127 (i := 43) rfl) (by decide) ?_
      exact kk ls l3 l2 l1 l0
    | false =>
      rw [eR] at rb
      have rb : hI h 1323 b = 0 := rb
      refine ⟨sI h 1323 b 1, RM_u r, FrR.w _ _, fun Q bc bs kk ls l3 l2 l1 l0 => ?_⟩
      rw [show nw R (some b) = true by show (!R b) = true; rw [eR]; rfl, if_pos rfl] at kk
      refine r_iload_n (q127 (i := 4) rfl) l3 ?_
      refine r_iconst (v := 3) (q127 (i := 5) rfl) (by decide) ?_
      refine r_icmp 73 (q127 (i := 6) rfl) (by decide) (fun zz => absurd zz (show ¬ (3 ≤ (2 : Int32)) from by decide)) (fun _ => ?_)
      refine r_aload_n (q127 (i := 7) rfl) l0 ?_
      refine r_getR (b := 1079) (q127 (i := 8) rfl) rfl (by decide) (k_47 S) (fun _ _ _ => rfl) (r_47_34 S) ?_
      refine r_iload_n (q127 (i := 9) rfl) l1 ?_
      refine r_aa5N (q127 (i := 10) rfl) (k_1079 S) (by omega) (by decide) (rAnd S (by omega)) ?_
      refine r_iload_n (q127 (i := 11) rfl) l3 ?_
      refine r_iaload (x := nI lit) (q127 (i := 12) rfl) (kAnd S (x := a) (by omega)) (vp_in_nI (n := 2) (by decide) (by decide)) x1 ?_
      refine r_iconst (v := 2) (q127 (i := 13) rfl) (by decide) ?_
      refine r_idiv (q127 (i := 14) rfl) (by decide) ?_
      rw [show ((nI lit) / 2 : Int32) = nI (lit / 2) from div2 (by omega)]
      refine r_istore (ls' := lset1 ls 4 (.int (nI (lit / 2)))) (q127 (i := 15) rfl) (Nat.le_of_ble_eq_true rfl) rfl ?_
      have l3 := lk1 (k := 4) (v := .int (nI (lit / 2))) l3 (by decide) (Or.inl rfl)
      have l2 := lk1 (k := 4) (v := .int (nI (lit / 2))) l2 (by decide) (Or.inr (by decide))
      have l1 := lk1 (k := 4) (v := .int (nI (lit / 2))) l1 (by decide) (Or.inr (by decide))
      have l0 := lk1 (k := 4) (v := .int (nI (lit / 2))) l0 (by decide) (Or.inr (by decide))
      have l4 := lk0 ls 4 (.int (nI (lit / 2)))
      generalize lset1 ls 4 (.int (nI (lit / 2))) = ls at l4 l3 l2 l1 l0 ⊢
      refine r_iload (q127 (i := 16) rfl) l4 ?_
      refine r_if 67 (q127 (i := 17) rfl) (by decide) (fun zz => absurd zz (show ¬ (nI (lit / 2) ≤ 0) from nI_nle (by omega) (by omega))) (fun _ => ?_)
      refine r_aload_n (q127 (i := 18) rfl) l0 ?_
      refine r_getR (b := 1077) (q127 (i := 19) rfl) rfl (by decide) (k_47 S) (fun _ _ _ => rfl) (r_47_32 S) ?_
      refine r_iload (q127 (i := 20) rfl) l4 ?_
      refine r_iaN (x := 2) (q127 (i := 21) rfl) (k_1077 S) (by omega) (by decide) d1 ?_
      refine r_iconst (v := 2) (q127 (i := 22) rfl) (by decide) ?_
      refine r_icmp 67 (q127 (i := 23) rfl) (by decide) (fun zz => absurd zz (show ¬ (¬ (2 : Int32) = 2) from by decide)) (fun _ => ?_)
      refine r_aload_n (q127 (i := 24) rfl) l0 ?_
      refine r_getR (b := 1323) (q127 (i := 25) rfl) rfl (by decide) (k_47 S) (fun _ _ _ => rfl) (r_47_38 S) ?_
      refine r_aload_n (q127 (i := 26) rfl) l0 ?_
      refine r_getR (b := 1078) (q127 (i := 27) rfl) rfl (by decide) (k_47 S) (fun _ _ _ => rfl) (r_47_33 S) ?_
      refine r_iload (q127 (i := 28) rfl) l4 ?_
      refine r_iaN (x := nI b) (q127 (i := 29) rfl) (k_1078 S) (by omega) (by decide) d2 ?_
      refine r_zaN (x := 0) (q127 (i := 30) rfl) (k_1323 S) (by omega) (by decide) rb ?_
      refine r_if 67 (q127 (i := 31) rfl) (by decide) (fun zz => absurd zz (show ¬ (¬ (0 : Int32) = 0) from by decide)) (fun _ => ?_)
      refine r_aload_n (q127 (i := 32) rfl) l0 ?_
      refine r_getR (b := 1323) (q127 (i := 33) rfl) rfl (by decide) (k_47 S) (fun _ _ _ => rfl) (r_47_38 S) ?_
      refine r_aload_n (q127 (i := 34) rfl) l0 ?_
      refine r_getR (b := 1078) (q127 (i := 35) rfl) rfl (by decide) (k_47 S) (fun _ _ _ => rfl) (r_47_33 S) ?_
      refine r_iload (q127 (i := 36) rfl) l4 ?_
      refine r_iaN (x := nI b) (q127 (i := 37) rfl) (k_1078 S) (by omega) (by decide) d2 ?_
      refine r_iconst (v := 1) (q127 (i := 38) rfl) (by decide) ?_
      refine r_zasN (y := 1) (q127 (i := 39) rfl) (k_1323 S) (by omega) (by decide) nb1 ?_
      refine r_iconst (v := 1) (q127 (i := 40) rfl) (by decide) ?_
      refine r_istore_n (ls' := lset1 ls 2 (.int 1)) (q127 (i := 41) rfl) (Nat.le_of_ble_eq_true rfl) rfl ?_
      have l4 := lk1 (k := 2) (v := .int 1) l4 (by decide) (Or.inr (by decide))
      have l3 := lk1 (k := 2) (v := .int 1) l3 (by decide) (Or.inr (by decide))
      have l1 := lk1 (k := 2) (v := .int 1) l1 (by decide) (Or.inl rfl)
      have l0 := lk1 (k := 2) (v := .int 1) l0 (by decide) (Or.inr (by decide))
      have l2 := lk0 ls 2 (.int 1)
      generalize lset1 ls 2 (.int 1) = ls at l2 l4 l3 l1 l0 ⊢
      refine r_iinc (y := 3) (q127 (i := 42) rfl) (Nat.le_of_ble_eq_true rfl) l3 (by decide) rfl ?_
      have l2 := lk1 (k := 3) (v := .int 3) l2 (by decide) (Or.inl rfl)
      have l4 := lk1 (k := 3) (v := .int 3) l4 (by decide) (Or.inr (by decide))
      have l1 := lk1 (k := 3) (v := .int 3) l1 (by decide) (Or.inr (by decide))
      have l0 := lk1 (k := 3) (v := .int 3) l0 (by decide) (Or.inr (by decide))
      have l3 := lk0 ls 3 (.int 3)
      generalize lset1 ls 3 (.int 3) = ls at l3 l2 l4 l1 l0 ⊢
      refine r_goto 4 (q127 (i := 43) rfl) (by decide) ?_
      exact kk ls l3 l2 l1 l0
  · have eo : AO (tD t) (tn t) lit = none := if_neg q
    rw [eo]
    refine ⟨h, r, FrR.rf h, fun Q bc bs kk ls l3 l2 l1 l0 => ?_⟩
    rw [show nw R none = false from rfl, if_neg (by decide)] at kk
    refine r_iload_n (q127 (i := 4) rfl) l3 ?_
    refine r_iconst (v := 3) (q127 (i := 5) rfl) (by decide) ?_
    refine r_icmp 73 (q127 (i := 6) rfl) (by decide) (fun zz => absurd zz (show ¬ (3 ≤ (2 : Int32)) from by decide)) (fun _ => ?_)
    refine r_aload_n (q127 (i := 7) rfl) l0 ?_
    refine r_getR (b := 1079) (q127 (i := 8) rfl) rfl (by decide) (k_47 S) (fun _ _ _ => rfl) (r_47_34 S) ?_
    refine r_iload_n (q127 (i := 9) rfl) l1 ?_
    refine r_aa5N (q127 (i := 10) rfl) (k_1079 S) (by omega) (by decide) (rAnd S (by omega)) ?_
    refine r_iload_n (q127 (i := 11) rfl) l3 ?_
    refine r_iaload (x := nI lit) (q127 (i := 12) rfl) (kAnd S (x := a) (by omega)) (vp_in_nI (n := 2) (by decide) (by decide)) x1 ?_
    refine r_iconst (v := 2) (q127 (i := 13) rfl) (by decide) ?_
    refine r_idiv (q127 (i := 14) rfl) (by decide) ?_
    rw [show ((nI lit) / 2 : Int32) = nI (lit / 2) from div2 (by omega)]
    refine r_istore (ls' := lset1 ls 4 (.int (nI (lit / 2)))) (q127 (i := 15) rfl) (Nat.le_of_ble_eq_true rfl) rfl ?_
    have l3 := lk1 (k := 4) (v := .int (nI (lit / 2))) l3 (by decide) (Or.inl rfl)
    have l2 := lk1 (k := 4) (v := .int (nI (lit / 2))) l2 (by decide) (Or.inr (by decide))
    have l1 := lk1 (k := 4) (v := .int (nI (lit / 2))) l1 (by decide) (Or.inr (by decide))
    have l0 := lk1 (k := 4) (v := .int (nI (lit / 2))) l0 (by decide) (Or.inr (by decide))
    have l4 := lk0 ls 4 (.int (nI (lit / 2)))
    generalize lset1 ls 4 (.int (nI (lit / 2))) = ls at l4 l3 l2 l1 l0 ⊢
    refine r_iload (q127 (i := 16) rfl) l4 ?_
    refine r_if 67 (q127 (i := 17) rfl) (by decide) (fun c23 => ?_) (fun c23 => ?_)
    · have c23 : nI (lit / 2) ≤ 0 := c23
      refine r_iinc (y := 3) (q127 (i := 42) rfl) (Nat.le_of_ble_eq_true rfl) l3 (by decide) rfl ?_
      have l4 := lk1 (k := 3) (v := .int 3) l4 (by decide) (Or.inr (by decide))
      have l2 := lk1 (k := 3) (v := .int 3) l2 (by decide) (Or.inl rfl)
      have l1 := lk1 (k := 3) (v := .int 3) l1 (by decide) (Or.inr (by decide))
      have l0 := lk1 (k := 3) (v := .int 3) l0 (by decide) (Or.inr (by decide))
      have l3 := lk0 ls 3 (.int 3)
      generalize lset1 ls 3 (.int 3) = ls at l3 l4 l2 l1 l0 ⊢
      refine r_goto 4 (q127 (i := 43) rfl) (by decide) ?_
      exact kk ls l3 l2 l1 l0
    · have c23 : ¬ (nI (lit / 2) ≤ 0) := c23
      refine r_aload_n (q127 (i := 18) rfl) l0 ?_
      refine r_getR (b := 1077) (q127 (i := 19) rfl) rfl (by decide) (k_47 S) (fun _ _ _ => rfl) (r_47_32 S) ?_
      refine r_iload (q127 (i := 20) rfl) l4 ?_
      refine r_iaN (x := nI (if tD t (lit / 2) = 0 then 0 else if tD t (lit / 2) ≤ tn t then 1 else 2)) (q127 (i := 21) rfl) (k_1077 S) (by omega) (by decide) ((X.2.1 (lit / 2) (by omega)).1) ?_
      refine r_iconst (v := 2) (q127 (i := 22) rfl) (by decide) ?_
      refine r_icmp 67 (q127 (i := 23) rfl) (by decide) (fun _ => ?_) (fun zz => absurd (show ¬ nI (if tD t (lit / 2) = 0 then 0 else if tD t (lit / 2) ≤ tn t then 1 else 2) = 2 from fun y => by split at y; exact absurd y (by decide); split at y; exact absurd y (by decide); omega) zz)
      refine r_iinc (y := 3) (q127 (i := 42) rfl) (Nat.le_of_ble_eq_true rfl) l3 (by decide) rfl ?_
      have l4 := lk1 (k := 3) (v := .int 3) l4 (by decide) (Or.inr (by decide))
      have l2 := lk1 (k := 3) (v := .int 3) l2 (by decide) (Or.inl rfl)
      have l1 := lk1 (k := 3) (v := .int 3) l1 (by decide) (Or.inr (by decide))
      have l0 := lk1 (k := 3) (v := .int 3) l0 (by decide) (Or.inr (by decide))
      have l3 := lk0 ls 3 (.int 3)
      generalize lset1 ls 3 (.int 3) = ls at l3 l4 l2 l1 l0 ⊢
      refine r_goto 4 (q127 (i := 43) rfl) (by decide) ?_
      exact kk ls l3 l2 l1 l0
theorem bIs (a b : Bool) : (if a then (1 : Int32) else if b then 1 else 0) = bI (b || a) := by cases a <;> cases b <;> rfl
set_option maxHeartbeats 2000000 in
set_option maxRecDepth 10000 in
theorem sp_mmark {d : Nat} {t : txt} {h : hp} (X : XTm h t) {a : Nat} (ha : a < tN t) {R : Nat → Bool} (r : RM h (tN t) R) : ∃ h', Run (d + 1) 127 [.ref 47, .int (nI a)] h 0 0 (some (.int (bI (nw R (sAO t a 0) || nw (mk1 R (sAO t a 0)) (sAO t a 1))))) h' ∧ RM h' (tN t) (mk1 (mk1 R (sAO t a 0)) (sAO t a 1)) ∧ FrR h h' := by
  obtain ⟨h1, r1, F1, K1⟩ := mk_0 (d := d) X ha r 0
  obtain ⟨h2, r2, F2, K2⟩ := mk_1 (d := d) (F1.X X) ha r1 (if nw R (sAO t a 0) then 1 else 0)
  refine ⟨h2, ?_, r2, F1.tr F2⟩
  refine Run.of (d := d) (Nat.le_of_ble_eq_true rfl) (fun Q hQ => ?_)
  show Wp (Ex d) 127 Q 0 [(0, .ref 47), (1, .int (nI a))] [] h 0 0
  rw [← bIs] at hQ
  have vz : ∀ x : Int32, (if nw (mk1 R (sAO t a 0)) (sAO t a 1) then (1 : Int32) else if nw R (sAO t a 0) then 1 else 0) = 0 ∨ (if nw (mk1 R (sAO t a 0)) (sAO t a 1) then (1 : Int32) else if nw R (sAO t a 0) then 1 else 0) = 1 := fun _ => by
    split
    · exact Or.inr rfl
    · split
      · exact Or.inr rfl
      · exact Or.inl rfl
  have T : ∀ ls : List (Nat × Value), ls.lookup 3 = some (.int 3) → ls.lookup 2 = some (.int (if nw (mk1 R (sAO t a 0)) (sAO t a 1) then 1 else if nw R (sAO t a 0) then 1 else 0)) → ls.lookup 1 = some (.int (nI a)) → ls.lookup 0 = some (.ref 47) → Wp (Ex d) 127 Q 4 ls [] h2 0 0 := fun ls l3 l2 l1 l0 => by
    refine r_iload_n (q127 (i := 4) rfl) l3 ?_
    refine r_iconst (v := 3) (q127 (i := 5) rfl) (by decide) ?_
    refine r_icmp 73 (q127 (i := 6) rfl) (by decide) (fun _ => ?_) (fun zz => absurd (show 3 ≤ (3 : Int32) from by decide) zz)
    refine r_iload_n (q127 (i := 44) rfl) l2 ?_
    exact r_zret (q127 (i := 45) rfl) rfl (vz 0) hQ
  refine r_iconst (v := 0) (q127 (i := 0) rfl) (by decide) ?_
  refine r_istore_n (ls' := [(2, .int 0), (0, .ref 47), (1, .int (nI a))]) (q127 (i := 1) rfl) (Nat.le_of_ble_eq_true rfl) rfl ?_
  refine r_iconst (v := 1) (q127 (i := 2) rfl) (by decide) ?_
  refine r_istore_n (ls' := [(3, .int 1), (2, .int 0), (0, .ref 47), (1, .int (nI a))]) (q127 (i := 3) rfl) (Nat.le_of_ble_eq_true rfl) rfl ?_
  exact K1 Q 0 0 (fun ls l3 l2 l1 l0 => K2 Q 0 0 (fun ls l3 l2 l1 l0 => T ls l3 l2 l1 l0) ls l3 l2 l1 l0) _ rfl rfl rfl rfl
def mm (t : txt) (R : Nat → Bool) (a : Nat) : Nat → Bool := mk1 (mk1 R (sAO t a 0)) (sAO t a 1)
theorem mk1_i {R : Nat → Bool} {o : Option Nat} {b : Nat} : mk1 R o b = true ↔ R b = true ∨ o = some b := by
  cases o with
  | none => exact ⟨Or.inl, fun y => y.elim id (fun w => by cases w)⟩
  | some c =>
    show u1 R c true b = true ↔ _
    by_cases e : b = c
    · rw [e, u1_s]; exact ⟨fun _ => Or.inr rfl, fun _ => rfl⟩
    · rw [u1_n e]; exact ⟨Or.inl, fun y => y.elim id (fun w => by injection w with w; exact absurd w.symm e)⟩
theorem mm_i {t : txt} {R : Nat → Bool} {a b : Nat} : mm t R a b = true ↔ R b = true ∨ dep t a b := by
  unfold mm
  rw [mk1_i, mk1_i]
  exact ⟨fun y => y.elim (fun w => w.elim Or.inl (fun u => Or.inr (Or.inl u))) (fun w => Or.inr (Or.inr w)), fun y => y.elim (fun w => Or.inl (Or.inl w)) (fun w => w.elim (fun u => Or.inl (Or.inr u)) Or.inr)⟩
theorem nw_f {R : Nat → Bool} {o : Option Nat} (h : nw R o = false) : mk1 R o = R := by
  cases o with
  | none => rfl
  | some b =>
    have h : (!R b) = false := h
    exact u1_true (by cases e : R b with
      | true => rfl
      | false => rw [e] at h; exact absurd h (by decide))
theorem nw_t {R : Nat → Bool} {o : Option Nat} (h : nw R o = true) : ∃ b, o = some b ∧ R b = false := by
  cases o with
  | none => exact absurd (show (false : Bool) = true from h) (by decide)
  | some b =>
    have h : (!R b) = true := h
    refine ⟨b, rfl, ?_⟩
    cases e : R b with
    | true => rw [e] at h; exact absurd h (by decide)
    | false => rfl
theorem mm_f {t : txt} {R : Nat → Bool} {a : Nat} (h : (nw R (sAO t a 0) || nw (mk1 R (sAO t a 0)) (sAO t a 1)) = false) : mm t R a = R ∧ ∀ c, dep t a c → R c = true := by
  rw [Bool.or_eq_false_iff] at h
  have e1 := nw_f h.1
  have e2 := nw_f h.2
  have e : mm t R a = R := by unfold mm; rw [e2, e1]
  exact ⟨e, fun c hc => by rw [← e]; exact mm_i.mpr (Or.inr hc)⟩
theorem mm_t {t : txt} {R : Nat → Bool} {a : Nat} (h : (nw R (sAO t a 0) || nw (mk1 R (sAO t a 0)) (sAO t a 1)) = true) : ∃ b, dep t a b ∧ R b = false := by
  rw [Bool.or_eq_true] at h
  rcases h with h | h
  · obtain ⟨b, e1, e2⟩ := nw_t h
    exact ⟨b, Or.inl e1, e2⟩
  · obtain ⟨b, e1, e2⟩ := nw_t h
    refine ⟨b, Or.inr e1, ?_⟩
    cases e : R b with
    | true => rw [mk1_i.mpr (Or.inl e)] at e2; exact e2
    | false => rfl
theorem cntB_sb {f g : Nat → Bool} (hs : ∀ i, f i = true → g i = true) : ∀ m, cntB f m ≤ cntB g m
  | 0 => Nat.le_refl 0
  | m + 1 => by
    show cntB f m + (if f m then 1 else 0) ≤ cntB g m + (if g m then 1 else 0)
    have := cntB_sb hs m
    by_cases e : f m = true
    · rw [if_pos e, if_pos (hs m e)]; omega
    · rw [if_neg e]; split <;> omega
def IR (t : txt) (k : Nat) (R : Nat → Bool) : Prop := (∀ b, R b = true → rch t k b) ∧ ∀ c, dep t k c → R c = true
set_option maxHeartbeats 2000000 in
set_option maxRecDepth 10000 in
theorem lp_ni {d : Nat} {t : txt} {k : Nat} (hk : k < tN t) : ∀ (m i : Nat) (R : Nat → Bool) (on : Bool) (h : hp), i + m = tN t → XTm h t → RM h (tN t) R → IR t k R → ∃ (R' : Nat → Bool) (h' : hp) (on' : Bool), RM h' (tN t) R' ∧ IR t k R' ∧ FrR h h' ∧ (∀ b, R b = true → R' b = true) ∧ (on' = false → on = false ∧ R' = R ∧ ∀ j, i ≤ j → j < tN t → R j = true → ∀ c, dep t j c → R c = true) ∧ (on' = true → on = true ∨ cntB R (tN t) < cntB R' (tN t)) ∧ ∀ (Q : resP) (bc bs : Nat), (∀ ls : List (Nat × Value), ls.lookup 2 = some (.int (bI on')) → ls.lookup 1 = some (.int (nI k)) → ls.lookup 0 = some (.ref 47) → Wp (Ex (d + 1)) 126 Q 84 ls [] h' bc bs) → ∀ ls : List (Nat × Value), ls.lookup 3 = some (.int (nI i)) → ls.lookup 2 = some (.int (bI on)) → ls.lookup 1 = some (.int (nI k)) → ls.lookup 0 = some (.ref 47) → Wp (Ex (d + 1)) 126 Q 41 ls [] h bc bs := by
  intro m
  induction m with
  | zero =>
    intro i R on h hm X r I
    have S := X.1.1
    have hN := X.2.2.2.2.2.2
    refine ⟨R, h, on, r, I, FrR.rf h, fun _ y => y, fun y => ⟨y, rfl, fun j a b => by omega⟩, fun y => Or.inl y, fun Q bc bs kk ls l3 l2 l1 l0 => ?_⟩
    refine r_iload_n (q126 (i := 27) rfl) l3 ?_
    refine r_aload_n (q126 (i := 28) rfl) l0 ?_
    refine r_getR (b := 1075) (q126 (i := 29) rfl) rfl (by decide) (k_47 S) (fun _ _ _ => rfl) (r_47_30 S) ?_
    refine r_iconst (v := 4) (q126 (i := 30) rfl) (by decide) ?_
    refine r_iaload (x := nI (tN t)) (q126 (i := 31) rfl) (k_1075 S) (vp_in_nI (n := 4) (by decide) (by decide)) X.1.2.2 ?_
    refine r_icmp 84 (q126 (i := 32) rfl) (by decide) (fun _ => ?_) (fun zz => absurd (show nI (tN t) ≤ nI i from nI_le (by omega) (by omega)) zz)
    exact kk ls l2 l1 l0
  | succ m ih =>
    intro i R on h hm X r I
    have S := X.1.1
    have hN := X.2.2.2.2.2.2
    have hD := X.2.2.2.1.2
    have ri := r i (by omega)
    cases eR : R i with
    | false =>
      rw [eR] at ri
      have ri : hI h 1323 i = 0 := ri
      obtain ⟨R', h', on', a1, a2, a3, a4, a5, a6, K⟩ := ih (i + 1) R on h (by omega) X r I
      refine ⟨R', h', on', a1, a2, a3, a4, fun y => ?_, a6, fun Q bc bs kk ls l3 l2 l1 l0 => ?_⟩
      · obtain ⟨b1, b2, b3⟩ := a5 y
        exact ⟨b1, b2, fun j c e f => by
          by_cases w : j = i
          · rw [w, eR] at f; exact absurd f (by decide)
          · exact b3 j (by omega) e f⟩
      cases on with
      | true =>
        have l2 : ls.lookup 2 = some (.int 1) := l2
        refine r_iload_n (q126 (i := 27) rfl) l3 ?_
        refine r_aload_n (q126 (i := 28) rfl) l0 ?_
        refine r_getR (b := 1075) (q126 (i := 29) rfl) rfl (by decide) (k_47 S) (fun _ _ _ => rfl) (r_47_30 S) ?_
        refine r_iconst (v := 4) (q126 (i := 30) rfl) (by decide) ?_
        refine r_iaload (x := nI (tN t)) (q126 (i := 31) rfl) (k_1075 S) (vp_in_nI (n := 4) (by decide) (by decide)) X.1.2.2 ?_
        refine r_icmp 84 (q126 (i := 32) rfl) (by decide) (fun zz => absurd zz (show ¬ (nI (tN t) ≤ nI i) from nI_ge (by omega) (by omega))) (fun _ => ?_)
        refine r_aload_n (q126 (i := 33) rfl) l0 ?_
        refine r_getR (b := 1323) (q126 (i := 34) rfl) rfl (by decide) (k_47 S) (fun _ _ _ => rfl) (r_47_38 S) ?_
        refine r_iload_n (q126 (i := 35) rfl) l3 ?_
        refine r_zaN (x := 0) (q126 (i := 36) rfl) (k_1323 S) (by omega) (by decide) ri ?_
        refine r_if 68 (q126 (i := 37) rfl) (by decide) (fun _ => ?_) (fun zz => absurd (show (0 : Int32) = 0 from by decide) zz)
        refine r_iload_n (q126 (i := 42) rfl) l2 ?_
        refine r_if 76 (q126 (i := 43) rfl) (by decide) (fun zz => absurd zz (show ¬ ((1 : Int32) = 0) from by decide)) (fun _ => ?_)
        refine r_iconst (v := 1) (q126 (i := 44) rfl) (by decide) ?_
        refine r_goto 77 (q126 (i := 45) rfl) (by decide) ?_
        refine r_istore_n (ls' := lset1 ls 2 (.int 1)) (q126 (i := 47) rfl) (Nat.le_of_ble_eq_true rfl) rfl ?_
        have l3 := lk1 (k := 2) (v := .int 1) l3 (by decide) (Or.inr (by decide))
        have l1 := lk1 (k := 2) (v := .int 1) l1 (by decide) (Or.inl rfl)
        have l0 := lk1 (k := 2) (v := .int 1) l0 (by decide) (Or.inr (by decide))
        have l2 := lk0 ls 2 (.int 1)
        generalize lset1 ls 2 (.int 1) = ls at l2 l3 l1 l0 ⊢
        refine r_iinc (y := nI (i + 1)) (q126 (i := 48) rfl) (Nat.le_of_ble_eq_true rfl) l3 (nI_1 i) rfl ?_
        have l2 := lk1 (k := 3) (v := .int (nI (i + 1))) l2 (by decide) (Or.inl rfl)
        have l1 := lk1 (k := 3) (v := .int (nI (i + 1))) l1 (by decide) (Or.inr (by decide))
        have l0 := lk1 (k := 3) (v := .int (nI (i + 1))) l0 (by decide) (Or.inr (by decide))
        have l3 := lk0 ls 3 (.int (nI (i + 1)))
        generalize lset1 ls 3 (.int (nI (i + 1))) = ls at l3 l2 l1 l0 ⊢
        refine r_goto 41 (q126 (i := 49) rfl) (by decide) ?_
        exact K Q bc bs kk ls l3 l2 l1 l0
      | false =>
        have l2 : ls.lookup 2 = some (.int 0) := l2
        refine r_iload_n (q126 (i := 27) rfl) l3 ?_
        refine r_aload_n (q126 (i := 28) rfl) l0 ?_
        refine r_getR (b := 1075) (q126 (i := 29) rfl) rfl (by decide) (k_47 S) (fun _ _ _ => rfl) (r_47_30 S) ?_
        refine r_iconst (v := 4) (q126 (i := 30) rfl) (by decide) ?_
        refine r_iaload (x := nI (tN t)) (q126 (i := 31) rfl) (k_1075 S) (vp_in_nI (n := 4) (by decide) (by decide)) X.1.2.2 ?_
        refine r_icmp 84 (q126 (i := 32) rfl) (by decide) (fun zz => absurd zz (show ¬ (nI (tN t) ≤ nI i) from nI_ge (by omega) (by omega))) (fun _ => ?_)
        refine r_aload_n (q126 (i := 33) rfl) l0 ?_
        refine r_getR (b := 1323) (q126 (i := 34) rfl) rfl (by decide) (k_47 S) (fun _ _ _ => rfl) (r_47_38 S) ?_
        refine r_iload_n (q126 (i := 35) rfl) l3 ?_
        refine r_zaN (x := 0) (q126 (i := 36) rfl) (k_1323 S) (by omega) (by decide) ri ?_
        refine r_if 68 (q126 (i := 37) rfl) (by decide) (fun _ => ?_) (fun zz => absurd (show (0 : Int32) = 0 from by decide) zz)
        refine r_iload_n (q126 (i := 42) rfl) l2 ?_
        refine r_if 76 (q126 (i := 43) rfl) (by decide) (fun _ => ?_) (fun zz => absurd (show (0 : Int32) = 0 from by decide) zz)
        refine r_iconst (v := 0) (q126 (i := 46) rfl) (by decide) ?_
        refine r_istore_n (ls' := lset1 ls 2 (.int 0)) (q126 (i := 47) rfl) (Nat.le_of_ble_eq_true rfl) rfl ?_
        have l3 := lk1 (k := 2) (v := .int 0) l3 (by decide) (Or.inr (by decide))
        have l1 := lk1 (k := 2) (v := .int 0) l1 (by decide) (Or.inl rfl)
        have l0 := lk1 (k := 2) (v := .int 0) l0 (by decide) (Or.inr (by decide))
        have l2 := lk0 ls 2 (.int 0)
        generalize lset1 ls 2 (.int 0) = ls at l2 l3 l1 l0 ⊢
        refine r_iinc (y := nI (i + 1)) (q126 (i := 48) rfl) (Nat.le_of_ble_eq_true rfl) l3 (nI_1 i) rfl ?_
        have l2 := lk1 (k := 3) (v := .int (nI (i + 1))) l2 (by decide) (Or.inl rfl)
        have l1 := lk1 (k := 3) (v := .int (nI (i + 1))) l1 (by decide) (Or.inr (by decide))
        have l0 := lk1 (k := 3) (v := .int (nI (i + 1))) l0 (by decide) (Or.inr (by decide))
        have l3 := lk0 ls 3 (.int (nI (i + 1)))
        generalize lset1 ls 3 (.int (nI (i + 1))) = ls at l3 l2 l1 l0 ⊢
        refine r_goto 41 (q126 (i := 49) rfl) (by decide) ?_
        exact K Q bc bs kk ls l3 l2 l1 l0
    | true =>
      rw [eR] at ri
      have ri : hI h 1323 i = 1 := ri
      obtain ⟨h1, Rm, r1, F1⟩ := sp_mmark (d := d) X (a := i) (by omega) r
      have r1 : RM h1 (tN t) (mm t R i) := r1
      have up : ∀ b, R b = true → mm t R i b = true := fun b y => mm_i.mpr (Or.inl y)
      have I1 : IR t k (mm t R i) := ⟨fun b y => (mm_i.mp y).elim (I.1 b) (fun w => rch_s (I.1 i eR) w), fun c y => up c (I.2 c y)⟩
      cases em : (nw R (sAO t i 0) || nw (mk1 R (sAO t i 0)) (sAO t i 1)) with
      | false =>
        rw [em] at Rm
        have Rm : Run (d + 1) 127 [.ref 47, .int (nI i)] h 0 0 (some (.int 0)) h1 := Rm
        obtain ⟨m1, m2⟩ := mm_f em
        rw [m1] at r1
        obtain ⟨R', h', on', a1, a2, a3, a4, a5, a6, K⟩ := ih (i + 1) R on h1 (by omega) (F1.X X) r1 I
        refine ⟨R', h', on', a1, a2, F1.tr a3, a4, fun y => ?_, a6, fun Q bc bs kk ls l3 l2 l1 l0 => ?_⟩
        · obtain ⟨b1, b2, b3⟩ := a5 y
          exact ⟨b1, b2, fun j c e f => by
            by_cases w : j = i
            · rw [w]; exact m2
            · exact b3 j (by omega) e f⟩
        cases on with
        | true =>
          have l2 : ls.lookup 2 = some (.int 1) := l2
          refine r_iload_n (q126 (i := 27) rfl) l3 ?_
          refine r_aload_n (q126 (i := 28) rfl) l0 ?_
          refine r_getR (b := 1075) (q126 (i := 29) rfl) rfl (by decide) (k_47 S) (fun _ _ _ => rfl) (r_47_30 S) ?_
          refine r_iconst (v := 4) (q126 (i := 30) rfl) (by decide) ?_
          refine r_iaload (x := nI (tN t)) (q126 (i := 31) rfl) (k_1075 S) (vp_in_nI (n := 4) (by decide) (by decide)) X.1.2.2 ?_
          refine r_icmp 84 (q126 (i := 32) rfl) (by decide) (fun zz => absurd zz (show ¬ (nI (tN t) ≤ nI i) from nI_ge (by omega) (by omega))) (fun _ => ?_)
          refine r_aload_n (q126 (i := 33) rfl) l0 ?_
          refine r_getR (b := 1323) (q126 (i := 34) rfl) rfl (by decide) (k_47 S) (fun _ _ _ => rfl) (r_47_38 S) ?_
          refine r_iload_n (q126 (i := 35) rfl) l3 ?_
          refine r_zaN (x := 1) (q126 (i := 36) rfl) (k_1323 S) (by omega) (by decide) ri ?_
          refine r_if 68 (q126 (i := 37) rfl) (by decide) (fun zz => absurd zz (show ¬ ((1 : Int32) = 0) from by decide)) (fun _ => ?_)
          refine r_aload_n (q126 (i := 38) rfl) l0 ?_
          refine r_iload_n (q126 (i := 39) rfl) l3 ?_
          refine r_cV (d := _) (q126 (i := 40) rfl) rfl rfl rfl (k_47 S) (Nat.le_of_ble_eq_true rfl) (Nat.zero_le _) (Nat.zero_le _) Rm ?_
          show Wp _ _ _ 65 ls [.int 0] h1 _ _
          refine r_if 72 (q126 (i := 41) rfl) (by decide) (fun zz => absurd zz (show ¬ (¬ (0 : Int32) = 0) from by decide)) (fun _ => ?_)
          refine r_iload_n (q126 (i := 42) rfl) l2 ?_
          refine r_if 76 (q126 (i := 43) rfl) (by decide) (fun zz => absurd zz (show ¬ ((1 : Int32) = 0) from by decide)) (fun _ => ?_)
          refine r_iconst (v := 1) (q126 (i := 44) rfl) (by decide) ?_
          refine r_goto 77 (q126 (i := 45) rfl) (by decide) ?_
          refine r_istore_n (ls' := lset1 ls 2 (.int 1)) (q126 (i := 47) rfl) (Nat.le_of_ble_eq_true rfl) rfl ?_
          have l3 := lk1 (k := 2) (v := .int 1) l3 (by decide) (Or.inr (by decide))
          have l1 := lk1 (k := 2) (v := .int 1) l1 (by decide) (Or.inl rfl)
          have l0 := lk1 (k := 2) (v := .int 1) l0 (by decide) (Or.inr (by decide))
          have l2 := lk0 ls 2 (.int 1)
          generalize lset1 ls 2 (.int 1) = ls at l2 l3 l1 l0 ⊢
          refine r_iinc (y := nI (i + 1)) (q126 (i := 48) rfl) (Nat.le_of_ble_eq_true rfl) l3 (nI_1 i) rfl ?_
          have l2 := lk1 (k := 3) (v := .int (nI (i + 1))) l2 (by decide) (Or.inl rfl)
          have l1 := lk1 (k := 3) (v := .int (nI (i + 1))) l1 (by decide) (Or.inr (by decide))
          have l0 := lk1 (k := 3) (v := .int (nI (i + 1))) l0 (by decide) (Or.inr (by decide))
          have l3 := lk0 ls 3 (.int (nI (i + 1)))
          generalize lset1 ls 3 (.int (nI (i + 1))) = ls at l3 l2 l1 l0 ⊢
          refine r_goto 41 (q126 (i := 49) rfl) (by decide) ?_
          exact K Q bc bs kk ls l3 l2 l1 l0
        | false =>
          have l2 : ls.lookup 2 = some (.int 0) := l2
          refine r_iload_n (q126 (i := 27) rfl) l3 ?_
          refine r_aload_n (q126 (i := 28) rfl) l0 ?_
          refine r_getR (b := 1075) (q126 (i := 29) rfl) rfl (by decide) (k_47 S) (fun _ _ _ => rfl) (r_47_30 S) ?_
          refine r_iconst (v := 4) (q126 (i := 30) rfl) (by decide) ?_
          refine r_iaload (x := nI (tN t)) (q126 (i := 31) rfl) (k_1075 S) (vp_in_nI (n := 4) (by decide) (by decide)) X.1.2.2 ?_
          refine r_icmp 84 (q126 (i := 32) rfl) (by decide) (fun zz => absurd zz (show ¬ (nI (tN t) ≤ nI i) from nI_ge (by omega) (by omega))) (fun _ => ?_)
          refine r_aload_n (q126 (i := 33) rfl) l0 ?_
          refine r_getR (b := 1323) (q126 (i := 34) rfl) rfl (by decide) (k_47 S) (fun _ _ _ => rfl) (r_47_38 S) ?_
          refine r_iload_n (q126 (i := 35) rfl) l3 ?_
          refine r_zaN (x := 1) (q126 (i := 36) rfl) (k_1323 S) (by omega) (by decide) ri ?_
          refine r_if 68 (q126 (i := 37) rfl) (by decide) (fun zz => absurd zz (show ¬ ((1 : Int32) = 0) from by decide)) (fun _ => ?_)
          refine r_aload_n (q126 (i := 38) rfl) l0 ?_
          refine r_iload_n (q126 (i := 39) rfl) l3 ?_
          refine r_cV (d := _) (q126 (i := 40) rfl) rfl rfl rfl (k_47 S) (Nat.le_of_ble_eq_true rfl) (Nat.zero_le _) (Nat.zero_le _) Rm ?_
          show Wp _ _ _ 65 ls [.int 0] h1 _ _
          refine r_if 72 (q126 (i := 41) rfl) (by decide) (fun zz => absurd zz (show ¬ (¬ (0 : Int32) = 0) from by decide)) (fun _ => ?_)
          refine r_iload_n (q126 (i := 42) rfl) l2 ?_
          refine r_if 76 (q126 (i := 43) rfl) (by decide) (fun _ => ?_) (fun zz => absurd (show (0 : Int32) = 0 from by decide) zz)
          refine r_iconst (v := 0) (q126 (i := 46) rfl) (by decide) ?_
          refine r_istore_n (ls' := lset1 ls 2 (.int 0)) (q126 (i := 47) rfl) (Nat.le_of_ble_eq_true rfl) rfl ?_
          have l3 := lk1 (k := 2) (v := .int 0) l3 (by decide) (Or.inr (by decide))
          have l1 := lk1 (k := 2) (v := .int 0) l1 (by decide) (Or.inl rfl)
          have l0 := lk1 (k := 2) (v := .int 0) l0 (by decide) (Or.inr (by decide))
          have l2 := lk0 ls 2 (.int 0)
          generalize lset1 ls 2 (.int 0) = ls at l2 l3 l1 l0 ⊢
          refine r_iinc (y := nI (i + 1)) (q126 (i := 48) rfl) (Nat.le_of_ble_eq_true rfl) l3 (nI_1 i) rfl ?_
          have l2 := lk1 (k := 3) (v := .int (nI (i + 1))) l2 (by decide) (Or.inl rfl)
          have l1 := lk1 (k := 3) (v := .int (nI (i + 1))) l1 (by decide) (Or.inr (by decide))
          have l0 := lk1 (k := 3) (v := .int (nI (i + 1))) l0 (by decide) (Or.inr (by decide))
          have l3 := lk0 ls 3 (.int (nI (i + 1)))
          generalize lset1 ls 3 (.int (nI (i + 1))) = ls at l3 l2 l1 l0 ⊢
          refine r_goto 41 (q126 (i := 49) rfl) (by decide) ?_
          exact K Q bc bs kk ls l3 l2 l1 l0
      | true =>
        rw [em] at Rm
        have Rm : Run (d + 1) 127 [.ref 47, .int (nI i)] h 0 0 (some (.int 1)) h1 := Rm
        obtain ⟨b, m1, m2⟩ := mm_t em
        have lt : cntB R (tN t) < cntB (mm t R i) (tN t) := cntB_sub up m2 (mm_i.mpr (Or.inr m1)) _ (dep_lt2 hD i b (by omega) m1)
        obtain ⟨R', h', on', a1, a2, a3, a4, a5, a6, K⟩ := ih (i + 1) (mm t R i) true h1 (by omega) (F1.X X) r1 I1
        have le := cntB_sb a4 (tN t)
        refine ⟨R', h', on', a1, a2, F1.tr a3, fun b y => a4 b (up b y), fun y => absurd (a5 y).1 (by decide), fun y => Or.inr (by omega), fun Q bc bs kk ls l3 l2 l1 l0 => ?_⟩
        cases on with
        | true =>
          have l2 : ls.lookup 2 = some (.int 1) := l2
          refine r_iload_n (q126 (i := 27) rfl) l3 ?_
          refine r_aload_n (q126 (i := 28) rfl) l0 ?_
          refine r_getR (b := 1075) (q126 (i := 29) rfl) rfl (by decide) (k_47 S) (fun _ _ _ => rfl) (r_47_30 S) ?_
          refine r_iconst (v := 4) (q126 (i := 30) rfl) (by decide) ?_
          refine r_iaload (x := nI (tN t)) (q126 (i := 31) rfl) (k_1075 S) (vp_in_nI (n := 4) (by decide) (by decide)) X.1.2.2 ?_
          refine r_icmp 84 (q126 (i := 32) rfl) (by decide) (fun zz => absurd zz (show ¬ (nI (tN t) ≤ nI i) from nI_ge (by omega) (by omega))) (fun _ => ?_)
          refine r_aload_n (q126 (i := 33) rfl) l0 ?_
          refine r_getR (b := 1323) (q126 (i := 34) rfl) rfl (by decide) (k_47 S) (fun _ _ _ => rfl) (r_47_38 S) ?_
          refine r_iload_n (q126 (i := 35) rfl) l3 ?_
          refine r_zaN (x := 1) (q126 (i := 36) rfl) (k_1323 S) (by omega) (by decide) ri ?_
          refine r_if 68 (q126 (i := 37) rfl) (by decide) (fun zz => absurd zz (show ¬ ((1 : Int32) = 0) from by decide)) (fun _ => ?_)
          refine r_aload_n (q126 (i := 38) rfl) l0 ?_
          refine r_iload_n (q126 (i := 39) rfl) l3 ?_
          refine r_cV (d := _) (q126 (i := 40) rfl) rfl rfl rfl (k_47 S) (Nat.le_of_ble_eq_true rfl) (Nat.zero_le _) (Nat.zero_le _) Rm ?_
          show Wp _ _ _ 65 ls [.int 1] h1 _ _
          refine r_if 72 (q126 (i := 41) rfl) (by decide) (fun _ => ?_) (fun zz => absurd (show ¬ (1 : Int32) = 0 from by decide) zz)
          refine r_iconst (v := 1) (q126 (i := 44) rfl) (by decide) ?_
          refine r_goto 77 (q126 (i := 45) rfl) (by decide) ?_
          refine r_istore_n (ls' := lset1 ls 2 (.int 1)) (q126 (i := 47) rfl) (Nat.le_of_ble_eq_true rfl) rfl ?_
          have l3 := lk1 (k := 2) (v := .int 1) l3 (by decide) (Or.inr (by decide))
          have l1 := lk1 (k := 2) (v := .int 1) l1 (by decide) (Or.inl rfl)
          have l0 := lk1 (k := 2) (v := .int 1) l0 (by decide) (Or.inr (by decide))
          have l2 := lk0 ls 2 (.int 1)
          generalize lset1 ls 2 (.int 1) = ls at l2 l3 l1 l0 ⊢
          refine r_iinc (y := nI (i + 1)) (q126 (i := 48) rfl) (Nat.le_of_ble_eq_true rfl) l3 (nI_1 i) rfl ?_
          have l2 := lk1 (k := 3) (v := .int (nI (i + 1))) l2 (by decide) (Or.inl rfl)
          have l1 := lk1 (k := 3) (v := .int (nI (i + 1))) l1 (by decide) (Or.inr (by decide))
          have l0 := lk1 (k := 3) (v := .int (nI (i + 1))) l0 (by decide) (Or.inr (by decide))
          have l3 := lk0 ls 3 (.int (nI (i + 1)))
          generalize lset1 ls 3 (.int (nI (i + 1))) = ls at l3 l2 l1 l0 ⊢
          refine r_goto 41 (q126 (i := 49) rfl) (by decide) ?_
          exact K Q bc bs kk ls l3 l2 l1 l0
        | false =>
          have l2 : ls.lookup 2 = some (.int 0) := l2
          refine r_iload_n (q126 (i := 27) rfl) l3 ?_
          refine r_aload_n (q126 (i := 28) rfl) l0 ?_
          refine r_getR (b := 1075) (q126 (i := 29) rfl) rfl (by decide) (k_47 S) (fun _ _ _ => rfl) (r_47_30 S) ?_
          refine r_iconst (v := 4) (q126 (i := 30) rfl) (by decide) ?_
          refine r_iaload (x := nI (tN t)) (q126 (i := 31) rfl) (k_1075 S) (vp_in_nI (n := 4) (by decide) (by decide)) X.1.2.2 ?_
          refine r_icmp 84 (q126 (i := 32) rfl) (by decide) (fun zz => absurd zz (show ¬ (nI (tN t) ≤ nI i) from nI_ge (by omega) (by omega))) (fun _ => ?_)
          refine r_aload_n (q126 (i := 33) rfl) l0 ?_
          refine r_getR (b := 1323) (q126 (i := 34) rfl) rfl (by decide) (k_47 S) (fun _ _ _ => rfl) (r_47_38 S) ?_
          refine r_iload_n (q126 (i := 35) rfl) l3 ?_
          refine r_zaN (x := 1) (q126 (i := 36) rfl) (k_1323 S) (by omega) (by decide) ri ?_
          refine r_if 68 (q126 (i := 37) rfl) (by decide) (fun zz => absurd zz (show ¬ ((1 : Int32) = 0) from by decide)) (fun _ => ?_)
          refine r_aload_n (q126 (i := 38) rfl) l0 ?_
          refine r_iload_n (q126 (i := 39) rfl) l3 ?_
          refine r_cV (d := _) (q126 (i := 40) rfl) rfl rfl rfl (k_47 S) (Nat.le_of_ble_eq_true rfl) (Nat.zero_le _) (Nat.zero_le _) Rm ?_
          show Wp _ _ _ 65 ls [.int 1] h1 _ _
          refine r_if 72 (q126 (i := 41) rfl) (by decide) (fun _ => ?_) (fun zz => absurd (show ¬ (1 : Int32) = 0 from by decide) zz)
          refine r_iconst (v := 1) (q126 (i := 44) rfl) (by decide) ?_
          refine r_goto 77 (q126 (i := 45) rfl) (by decide) ?_
          refine r_istore_n (ls' := lset1 ls 2 (.int 1)) (q126 (i := 47) rfl) (Nat.le_of_ble_eq_true rfl) rfl ?_
          have l3 := lk1 (k := 2) (v := .int 1) l3 (by decide) (Or.inr (by decide))
          have l1 := lk1 (k := 2) (v := .int 1) l1 (by decide) (Or.inl rfl)
          have l0 := lk1 (k := 2) (v := .int 1) l0 (by decide) (Or.inr (by decide))
          have l2 := lk0 ls 2 (.int 1)
          generalize lset1 ls 2 (.int 1) = ls at l2 l3 l1 l0 ⊢
          refine r_iinc (y := nI (i + 1)) (q126 (i := 48) rfl) (Nat.le_of_ble_eq_true rfl) l3 (nI_1 i) rfl ?_
          have l2 := lk1 (k := 3) (v := .int (nI (i + 1))) l2 (by decide) (Or.inl rfl)
          have l1 := lk1 (k := 3) (v := .int (nI (i + 1))) l1 (by decide) (Or.inr (by decide))
          have l0 := lk1 (k := 3) (v := .int (nI (i + 1))) l0 (by decide) (Or.inr (by decide))
          have l3 := lk0 ls 3 (.int (nI (i + 1)))
          generalize lset1 ls 3 (.int (nI (i + 1))) = ls at l3 l2 l1 l0 ⊢
          refine r_goto 41 (q126 (i := 49) rfl) (by decide) ?_
          exact K Q bc bs kk ls l3 l2 l1 l0
theorem bz (b : Bool) : bI b = 0 ∨ bI b = 1 := by cases b; exact Or.inl rfl; exact Or.inr rfl
set_option maxHeartbeats 2000000 in
set_option maxRecDepth 10000 in
theorem lp_no {d : Nat} {t : txt} {k : Nat} (hk : k < tN t) : ∀ (f : Nat) (R : Nat → Bool) (h : hp), tN t - cntB R (tN t) = f → XTm h t → RM h (tN t) R → IR t k R → ∃ h', FrR h h' ∧ ∀ (Q : resP) (bc bs : Nat), Q (some (.int (bI (slf t k)))) h' → ∀ ls : List (Nat × Value), ls.lookup 2 = some (.int 1) → ls.lookup 1 = some (.int (nI k)) → ls.lookup 0 = some (.ref 47) → Wp (Ex (d + 1)) 126 Q 33 ls [] h bc bs := by
  intro f
  induction f using Nat.strongRecOn with
  | ind f ih =>
    intro R h hf X r I
    have S := X.1.1
    have hN := X.2.2.2.2.2.2
    have hD := X.2.2.2.1.2
    obtain ⟨R', h1, on', a1, a2, a3, a4, a5, a6, K1⟩ := lp_ni (d := d) hk (tN t) 0 R false h (Nat.zero_add _) X r I
    have S1 : Sh h1 := S.to (by rw [a3.1])
    cases on' with
    | false =>
      obtain ⟨_, b2, b3⟩ := a5 rfl
      refine ⟨h1, a3, fun Q bc bs hQ ls l2 l1 l0 => ?_⟩
      have rk : hI h1 1323 k = bI (slf t k) := by
        rw [a1 k hk, b2]
        congr 1
        cases e : R k with
        | true => exact (slf_t.mpr (I.1 k e)).symm
        | false =>
          refine (slf_f.mpr (fun y => ?_)).symm
          have := y (fun c => R c = true ∧ c < tN t) (fun c w => ⟨I.2 c w, dep_lt2 hD k c hk w⟩) (fun c e w u => ⟨b3 c (Nat.zero_le _) w.2 w.1 e u, dep_lt2 hD c e w.2 u⟩)
          rw [e] at this
          exact absurd this.1 (by decide)
      have T : ∀ ls : List (Nat × Value), ls.lookup 2 = some (.int (bI false)) → ls.lookup 1 = some (.int (nI k)) → ls.lookup 0 = some (.ref 47) → Wp (Ex (d + 1)) 126 Q 84 ls [] h1 bc bs := fun ls l2 l1 l0 => by
        have l2 : ls.lookup 2 = some (.int 0) := l2
        refine r_goto 33 (q126 (i := 50) rfl) (by decide) ?_
        refine r_iload_n (q126 (i := 21) rfl) l2 ?_
        refine r_if 87 (q126 (i := 22) rfl) (by decide) (fun _ => ?_) (fun zz => absurd (show (0 : Int32) = 0 from by decide) zz)
        refine r_aload_n (q126 (i := 51) rfl) l0 ?_
        refine r_getR (b := 1323) (q126 (i := 52) rfl) rfl (by decide) (k_47 S1) (fun _ _ _ => rfl) (r_47_38 S1) ?_
        refine r_iload_n (q126 (i := 53) rfl) l1 ?_
        refine r_zaN (x := bI (slf t k)) (q126 (i := 54) rfl) (k_1323 S1) (by omega) (by decide) rk ?_
        exact r_zret (q126 (i := 55) rfl) rfl (bz _) hQ
      refine r_iload_n (q126 (i := 21) rfl) l2 ?_
      refine r_if 87 (q126 (i := 22) rfl) (by decide) (fun zz => absurd zz (show ¬ ((1 : Int32) = 0) from by decide)) (fun _ => ?_)
      refine r_iconst (v := 0) (q126 (i := 23) rfl) (by decide) ?_
      refine r_istore_n (ls' := lset1 ls 2 (.int 0)) (q126 (i := 24) rfl) (Nat.le_of_ble_eq_true rfl) rfl ?_
      have l1 := lk1 (k := 2) (v := .int 0) l1 (by decide) (Or.inl rfl)
      have l0 := lk1 (k := 2) (v := .int 0) l0 (by decide) (Or.inr (by decide))
      have l2 := lk0 ls 2 (.int 0)
      generalize lset1 ls 2 (.int 0) = ls at l2 l1 l0 ⊢
      refine r_iconst (v := nI 0) (q126 (i := 25) rfl) (by decide) ?_
      refine r_istore_n (ls' := lset1 ls 3 (.int (nI 0))) (q126 (i := 26) rfl) (Nat.le_of_ble_eq_true rfl) rfl ?_
      have l2 := lk1 (k := 3) (v := .int (nI 0)) l2 (by decide) (Or.inl rfl)
      have l1 := lk1 (k := 3) (v := .int (nI 0)) l1 (by decide) (Or.inr (by decide))
      have l0 := lk1 (k := 3) (v := .int (nI 0)) l0 (by decide) (Or.inr (by decide))
      have l3 := lk0 ls 3 (.int (nI 0))
      generalize lset1 ls 3 (.int (nI 0)) = ls at l3 l2 l1 l0 ⊢
      exact K1 Q bc bs (fun ls l2 l1 l0 => T ls l2 l1 l0) ls l3 l2 l1 l0
    | true =>
      have lt := (a6 rfl).resolve_left (by decide)
      have le := cntB_le R' (tN t)
      obtain ⟨h2, F2, K2⟩ := ih (tN t - cntB R' (tN t)) (by omega) R' h1 rfl (a3.X X) a1 a2
      refine ⟨h2, a3.tr F2, fun Q bc bs hQ ls l2 l1 l0 => ?_⟩
      have T : ∀ ls : List (Nat × Value), ls.lookup 2 = some (.int (bI true)) → ls.lookup 1 = some (.int (nI k)) → ls.lookup 0 = some (.ref 47) → Wp (Ex (d + 1)) 126 Q 84 ls [] h1 bc bs := fun ls l2 l1 l0 => by
        have l2 : ls.lookup 2 = some (.int 1) := l2
        refine r_goto 33 (q126 (i := 50) rfl) (by decide) ?_
        exact K2 Q bc bs hQ ls l2 l1 l0
      refine r_iload_n (q126 (i := 21) rfl) l2 ?_
      refine r_if 87 (q126 (i := 22) rfl) (by decide) (fun zz => absurd zz (show ¬ ((1 : Int32) = 0) from by decide)) (fun _ => ?_)
      refine r_iconst (v := 0) (q126 (i := 23) rfl) (by decide) ?_
      refine r_istore_n (ls' := lset1 ls 2 (.int 0)) (q126 (i := 24) rfl) (Nat.le_of_ble_eq_true rfl) rfl ?_
      have l1 := lk1 (k := 2) (v := .int 0) l1 (by decide) (Or.inl rfl)
      have l0 := lk1 (k := 2) (v := .int 0) l0 (by decide) (Or.inr (by decide))
      have l2 := lk0 ls 2 (.int 0)
      generalize lset1 ls 2 (.int 0) = ls at l2 l1 l0 ⊢
      refine r_iconst (v := nI 0) (q126 (i := 25) rfl) (by decide) ?_
      refine r_istore_n (ls' := lset1 ls 3 (.int (nI 0))) (q126 (i := 26) rfl) (Nat.le_of_ble_eq_true rfl) rfl ?_
      have l2 := lk1 (k := 3) (v := .int (nI 0)) l2 (by decide) (Or.inl rfl)
      have l1 := lk1 (k := 3) (v := .int (nI 0)) l1 (by decide) (Or.inr (by decide))
      have l0 := lk1 (k := 3) (v := .int (nI 0)) l0 (by decide) (Or.inr (by decide))
      have l3 := lk0 ls 3 (.int (nI 0))
      generalize lset1 ls 3 (.int (nI 0)) = ls at l3 l2 l1 l0 ⊢
      exact K1 Q bc bs (fun ls l2 l1 l0 => T ls l2 l1 l0) ls l3 l2 l1 l0
set_option maxHeartbeats 2000000 in
set_option maxRecDepth 10000 in
theorem lp_nic {d : Nat} {h : hp} (S : Sh h) {N k : Nat} (hN : N ≤ 119) (h4 : hI h 1075 4 = nI N) {Q : resP} {bc bs : Nat} (hk : ∀ ls : List (Nat × Value), ls.lookup 1 = some (.int (nI k)) → ls.lookup 0 = some (.ref 47) → Wp (Ex d) 126 Q 25 ls [] (rI h 1323 (filI (hI h 1323) 0 N)) bc bs) : ∀ (m i : Nat), i + m = N → ∀ ls : List (Nat × Value), ls.lookup 2 = some (.int (nI i)) → ls.lookup 1 = some (.int (nI k)) → ls.lookup 0 = some (.ref 47) → Wp (Ex d) 126 Q 2 ls [] (rI h 1323 (filI (hI h 1323) 0 i)) bc bs := by
  intro m
  induction m with
  | zero =>
    intro i hm ls l2 l1 l0
    have e : i = N := by omega
    subst e
    refine r_iload_n (q126 (i := 2) rfl) l2 ?_
    refine r_aload_n (q126 (i := 3) rfl) l0 ?_
    refine r_getR (b := 1075) (q126 (i := 4) rfl) rfl (by decide) (k_47 (S.to rfl)) (fun _ _ _ => rfl) (r_47_30 (S.to rfl)) ?_
    refine r_iconst (v := 4) (q126 (i := 5) rfl) (by decide) ?_
    refine r_iaload (x := nI i) (q126 (i := 6) rfl) (k_1075 (S.to rfl)) (vp_in_nI (n := 4) (by decide) (by decide)) h4 ?_
    refine r_icmp 25 (q126 (i := 7) rfl) (by decide) (fun _ => ?_) (fun zz => absurd (show nI i ≤ nI i from Int32.le_refl _) zz)
    exact hk ls l1 l0
  | succ m ih =>
    intro i hm ls l2 l1 l0
    have S2 : Sh (rI h 1323 (filI (hI h 1323) 0 i)) := S.to rfl
    refine r_iload_n (q126 (i := 2) rfl) l2 ?_
    refine r_aload_n (q126 (i := 3) rfl) l0 ?_
    refine r_getR (b := 1075) (q126 (i := 4) rfl) rfl (by decide) (k_47 S2) (fun _ _ _ => rfl) (r_47_30 S2) ?_
    refine r_iconst (v := 4) (q126 (i := 5) rfl) (by decide) ?_
    refine r_iaload (x := nI N) (q126 (i := 6) rfl) (k_1075 S2) (vp_in_nI (n := 4) (by decide) (by decide)) h4 ?_
    refine r_icmp 25 (q126 (i := 7) rfl) (by decide) (fun zz => absurd zz (show ¬ (nI N ≤ nI i) from nI_ge (by omega) (by omega))) (fun _ => ?_)
    refine r_aload_n (q126 (i := 8) rfl) l0 ?_
    refine r_getR (b := 1323) (q126 (i := 9) rfl) rfl (by decide) (k_47 S2) (fun _ _ _ => rfl) (r_47_38 S2) ?_
    refine r_iload_n (q126 (i := 10) rfl) l2 ?_
    refine r_iconst (v := 0) (q126 (i := 11) rfl) (by decide) ?_
    refine r_zasN (y := 0) (q126 (i := 12) rfl) (k_1323 S2) (by omega) (by decide) nb0 ?_
    refine r_iinc (y := nI (i + 1)) (q126 (i := 13) rfl) (Nat.le_of_ble_eq_true rfl) l2 (nI_1 i) rfl ?_
    have l1 := lk1 (k := 2) (v := .int (nI (i + 1))) l1 (by decide) (Or.inl rfl)
    have l0 := lk1 (k := 2) (v := .int (nI (i + 1))) l0 (by decide) (Or.inr (by decide))
    have l2 := lk0 ls 2 (.int (nI (i + 1)))
    generalize lset1 ls 2 (.int (nI (i + 1))) = ls at l2 l1 l0 ⊢
    refine r_goto 2 (q126 (i := 14) rfl) (by decide) ?_
    rw [sI_rI, filI_s]
    exact ih (i + 1) (by omega) ls l2 l1 l0
set_option maxHeartbeats 2000000 in
set_option maxRecDepth 10000 in
theorem sp_mni {d : Nat} {t : txt} {h : hp} (X : XTm h t) {k : Nat} (hk : k < tN t) : ∃ h', Run (d + 1 + 1) 126 [.ref 47, .int (nI k)] h 0 0 (some (.int (bI (slf t k)))) h' ∧ FrR h h' := by
  have S := X.1.1
  have hN := X.2.2.2.2.2.2
  obtain ⟨h1, e1⟩ : ∃ x, x = rI h 1323 (filI (hI h 1323) 0 (tN t)) := ⟨_, rfl⟩
  have F1 : FrR h h1 := by
    rw [e1]
    exact ⟨rfl, fun k x => by
      show u1 h.1 1323 _ k = _
      rw [u1_n x]⟩
  have S1 : Sh h1 := S.to (by rw [F1.1])
  have r1 : RM h1 (tN t) (fun _ => false) := fun i hi => by
    rw [e1]
    show filI (hI h 1323) 0 (tN t) i = 0
    exact if_pos hi
  obtain ⟨h2, Rm, r2, F2⟩ := sp_mmark (d := d) (F1.X X) hk r1
  have r2 : RM h2 (tN t) (mm t (fun _ => false) k) := r2
  obtain ⟨h3, F3, K3⟩ := lp_no (d := d) hk _ (mm t (fun _ => false) k) h2 rfl (F2.X (F1.X X)) r2 ⟨fun b y => (mm_i.mp y).elim (fun w => absurd w (by decide)) rch_1, fun c y => mm_i.mpr (Or.inr y)⟩
  refine ⟨h3, ?_, (F1.tr F2).tr F3⟩
  refine Run.of (d := d + 1) (Nat.le_of_ble_eq_true rfl) (fun Q hQ => ?_)
  show Wp (Ex (d + 1)) 126 Q 0 [(0, .ref 47), (1, .int (nI k))] [] h 0 0
  have K1 := lp_nic (d := d + 1) (k := k) (Q := Q) (bc := 0) (bs := 0) S hN X.1.2.2 (fun ls l1 l0 => by
    rw [← e1]
    refine r_aload_n (q126 (i := 15) rfl) l0 ?_
    refine r_iload_n (q126 (i := 16) rfl) l1 ?_
    refine r_cV (d := _) (q126 (i := 17) rfl) rfl rfl rfl (k_47 S1) (Nat.le_of_ble_eq_true rfl) (Nat.zero_le _) (Nat.zero_le _) Rm ?_
    show Wp _ _ _ 30 ls [.int (bI (nw (fun _ => false) (sAO t k 0) || nw (mk1 (fun _ => false) (sAO t k 0)) (sAO t k 1)))] h2 _ _
    refine r_pop (q126 (i := 18) rfl) rfl ?_
    refine r_iconst (v := 1) (q126 (i := 19) rfl) (by decide) ?_
    refine r_istore_n (ls' := lset1 ls 2 (.int 1)) (q126 (i := 20) rfl) (Nat.le_of_ble_eq_true rfl) rfl ?_
    have l1 := lk1 (k := 2) (v := .int 1) l1 (by decide) (Or.inl rfl)
    have l0 := lk1 (k := 2) (v := .int 1) l0 (by decide) (Or.inr (by decide))
    have l2 := lk0 ls 2 (.int 1)
    generalize lset1 ls 2 (.int 1) = ls at l2 l1 l0 ⊢
    exact K3 Q 0 0 hQ ls l2 l1 l0) (tN t) 0 (Nat.zero_add _)
  rw [filI_0, rI_self] at K1
  refine r_iconst (v := nI 0) (q126 (i := 0) rfl) (by decide) ?_
  refine r_istore_n (ls' := [(2, .int (nI 0)), (0, .ref 47), (1, .int (nI k))]) (q126 (i := 1) rfl) (Nat.le_of_ble_eq_true rfl) rfl ?_
  exact K1 _ rfl rfl rfl
