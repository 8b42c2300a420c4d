/-! ===== arrange ===== -/
def FrW (h h' : hp) : Prop := h'.2 = h.2 ∧ (∀ k, (k < 35 ∨ 46 < k ∨ (36 ≤ k ∧ k ≤ 41)) → hI h' k = hI h k) ∧ ∀ j, j < 14 → hI h' 35 j = hI h 35 j
theorem FrW.rf (h : hp) : FrW h h := ⟨rfl, fun _ _ => rfl, fun _ _ => rfl⟩
theorem FrW.tr {h h' h'' : hp} (a : FrW h h') (b : FrW h' h'') : FrW h h'' := ⟨b.1.trans a.1, fun k x => (b.2.1 k x).trans (a.2.1 k x), fun k x => (b.2.2 k x).trans (a.2.2 k x)⟩
theorem FrW.S {h h' : hp} (F : FrW h h') (S : Sh h) : Sh h' := S.to (by rw [F.1])
theorem FrW.X {h h' : hp} (F : FrW h h') {t : txt} (X : XT h t) : XT h' t := X.to F.2.2 (F.2.1 38 (by decide)) (F.2.1 39 (by decide))
theorem FrO.W {h h' : hp} (F : FrO h h') : FrW h h' := ⟨F.1, fun k x => F.2 k (by omega) (by omega) (by omega), fun j _ => by rw [F.2 35 (by decide) (by decide) (by decide)]⟩
theorem FrO.P {h h' : hp} (F : FrO h h') {z : Nat} {r : pres} (P : PS h z r) : PS h' z r := by
  cases r with
  | ok s =>
    unfold PS at *
    simp only [F.2 35 (by decide) (by decide) (by decide), F.2 38 (by decide) (by decide) (by decide), F.2 39 (by decide) (by decide) (by decide), F.2 40 (by decide) (by decide) (by decide), F.2 41 (by decide) (by decide) (by decide)]
    exact P
  | error e =>
    unfold PS at *
    simp only [F.2 35 (by decide) (by decide) (by decide)]
    exact P
theorem FrW.w {h : hp} {a : Nat} (ha : 42 ≤ a ∧ a ≤ 46) (i : Nat) (v : Int32) : FrW h (sI h a i v) := ⟨rfl, fun k x => by
  show u2 h.1 a _ _ k = _
  rw [u2_n (by omega)], fun j _ => by
  show u2 h.1 a _ _ 35 j = _
  rw [u2_n (by omega)]⟩
theorem FrW.w35 {h : hp} {j : Nat} (hj : 14 ≤ j) (v : Int32) : FrW h (sI h 35 j v) := ⟨rfl, fun k x => by
  show u2 h.1 35 _ _ k = _
  rw [u2_n (by omega)], fun i hi => by
  show u2 h.1 35 _ _ 35 i = _
  rw [u2_s, u1_n (by omega)]⟩
set_option maxHeartbeats 2000000 in
set_option maxRecDepth 10000 in
theorem ffl_out {d : Nat} {h : hp} (S : Sh h) {z : Nat} {e : Nat × Nat} (P : PS h z (.error e)) {Q : resP} {bc bs : Nat} (hQ : Q none h) (k : Nat) (ls : List (Nat × Value)) (l1 : ls.lookup 1 = some (.int (nI k))) (l0 : ls.lookup 0 = some (.ref 42)) : Wp (Ex d) 27 Q 2 ls [] h bc bs := by
  refine r_iload_n (q27 (i := 2) rfl) l1 ?_
  refine r_aload_n (q27 (i := 3) rfl) l0 ?_
  refine r_getR (b := 35) (q27 (i := 4) rfl) rfl (by decide) (k_42 S) (fun _ _ _ => rfl) (r_42_0 S) ?_
  refine r_getI (x := hI h 35 10) (q27 (i := 5) rfl) rfl (by decide) (k_35 S) (fun _ _ _ => rfl) rfl ?_
  refine r_icmp 55 (q27 (i := 6) rfl) (by decide) (fun c10 => ?_) (fun c10 => ?_)
  · have c10 : hI h 35 10 ≤ nI k := c10
    exact r_vret (q27 (i := 26) rfl) rfl hQ
  · have c10 : ¬ (hI h 35 10 ≤ nI k) := c10
    refine r_aload_n (q27 (i := 7) rfl) l0 ?_
    refine r_getR (b := 35) (q27 (i := 8) rfl) rfl (by decide) (k_42 S) (fun _ _ _ => rfl) (r_42_0 S) ?_
    refine r_getI (x := hI h 35 14) (q27 (i := 9) rfl) rfl (by decide) (k_35 S) (fun _ _ _ => rfl) rfl ?_
    refine r_if 55 (q27 (i := 10) rfl) (by decide) (fun _ => ?_) (fun zz => absurd (show ¬ hI h 35 14 = 0 from err_ne P) zz)
    exact r_vret (q27 (i := 26) rfl) rfl hQ
set_option maxHeartbeats 2000000 in
set_option maxRecDepth 10000 in
theorem lp_ffl {d : Nat} {t : txt} {z : Nat} {s : pst} (hac : s.2.2.2.2.2 = tN t) : ∀ (m k : Nat) (h : hp), k + m = tN t → (∀ i, i < k → slf t i = false) → Sh h → XT h t → PS h z (.ok s) → ∃ h', PS h' z (if lst (slf t) (tN t) < tN t then .error (6, s.2.2.2.2.1 (lst (slf t) (tN t))) else .ok s) ∧ FrW h h' ∧ ∀ (Q : resP), Q none h' → ∀ (bc bs : Nat) (ls : List (Nat × Value)), ls.lookup 1 = some (.int (nI k)) → ls.lookup 0 = some (.ref 42) → Wp (Ex (d + 3)) 27 Q 2 ls [] h bc bs := by
  intro m
  induction m with
  | zero =>
    intro k h hm hz S X P
    have e : k = tN t := by omega
    subst e
    have h10 := X.2.2.1.2.2
    rw [lst_no hz, if_neg (Nat.lt_irrefl _)]
    refine ⟨h, P, FrW.rf h, ?_⟩
    intro Q hQ bc bs ls l1 l0
    refine r_iload_n (q27 (i := 2) rfl) l1 ?_
    refine r_aload_n (q27 (i := 3) rfl) l0 ?_
    refine r_getR (b := 35) (q27 (i := 4) rfl) rfl (by decide) (k_42 S) (fun _ _ _ => rfl) (r_42_0 S) ?_
    refine r_getI (x := nI (tN t)) (q27 (i := 5) rfl) rfl (by decide) (k_35 S) (fun _ _ _ => rfl) h10 ?_
    refine r_icmp 55 (q27 (i := 6) rfl) (by decide) (fun _ => ?_) (fun zz => absurd (show nI (tN t) ≤ nI (tN t) from Int32.le_refl _) zz)
    exact r_vret (q27 (i := 26) rfl) rfl hQ
  | succ m ih =>
    intro k h hm hz S X P
    have h10 := X.2.2.1.2.2
    have hN := X.2.2.2.2.2
    have f0 := P.1.1
    obtain ⟨h1, R1, F1, B1⟩ := sp_needsItself (d := d) S X (show k < tN t by omega)
    rw [bres_is B1] at R1
    have S1 := F1.S S
    have X1 := F1.X X
    have P1 := F1.P P
    cases g : slf t k with
    | true =>
      rw [g] at R1
      rw [lst_is (show k < tN t by omega) hz g, if_pos (show k < tN t by omega)]
      have a1 : hI h1 41 k = nI (s.2.2.2.2.1 k) := P1.2.2.2.2.1 k (by omega)
      have R2 := sp_fail (d := d + 2) S1 6 (nI (s.2.2.2.2.1 k))
      rw [fail_ok P1] at R2
      have F2 : FrW h1 (sI (sI h1 35 14 6) 35 15 (nI (s.2.2.2.2.1 k))) := (FrW.w35 (by decide) _).tr (FrW.w35 (by decide) _)
      have P2 := PS_err P1 (f := 6) (by decide) (s.2.2.2.2.1 k)
      have S2 := F2.S S1
      refine ⟨_, P2, F1.W.tr F2, ?_⟩
      intro Q hQ bc bs ls l1 l0
      refine r_iload_n (q27 (i := 2) rfl) l1 ?_
      refine r_aload_n (q27 (i := 3) rfl) l0 ?_
      refine r_getR (b := 35) (q27 (i := 4) rfl) rfl (by decide) (k_42 S) (fun _ _ _ => rfl) (r_42_0 S) ?_
      refine r_getI (x := nI (tN t)) (q27 (i := 5) rfl) rfl (by decide) (k_35 S) (fun _ _ _ => rfl) h10 ?_
      refine r_icmp 55 (q27 (i := 6) rfl) (by decide) (fun zz => absurd zz (show ¬ (nI (tN t) ≤ nI k) from nI_ge (by omega) (by omega))) (fun _ => ?_)
      refine r_aload_n (q27 (i := 7) rfl) l0 ?_
      refine r_getR (b := 35) (q27 (i := 8) rfl) rfl (by decide) (k_42 S) (fun _ _ _ => rfl) (r_42_0 S) ?_
      refine r_getI (x := hI h 35 14) (q27 (i := 9) rfl) rfl (by decide) (k_35 S) (fun _ _ _ => rfl) rfl ?_
      refine r_if 55 (q27 (i := 10) rfl) (by decide) (fun zz => absurd zz (show ¬ (¬ hI h 35 14 = 0) from fun y => y f0)) (fun _ => ?_)
      refine r_aload_n (q27 (i := 11) rfl) l0 ?_
      refine r_iload_n (q27 (i := 12) rfl) l1 ?_
      refine r_cV (d := _) (q27 (i := 13) rfl) rfl rfl rfl (k_42 S) (Nat.le_of_ble_eq_true rfl) (Nat.zero_le _) (Nat.zero_le _) R1 ?_
      show Wp _ _ _ 28 ls [.int 1] h1 _ _
      refine r_if 49 (q27 (i := 14) rfl) (by decide) (fun zz => absurd zz (show ¬ ((1 : Int32) = 0) from by decide)) (fun _ => ?_)
      refine r_aload_n (q27 (i := 15) rfl) l0 ?_
      refine r_getR (b := 35) (q27 (i := 16) rfl) rfl (by decide) (k_42 S1) (fun _ _ _ => rfl) (r_42_0 S1) ?_
      refine r_bipush (v := 6) (q27 (i := 17) rfl) (by decide) ?_
      refine r_aload_n (q27 (i := 18) rfl) l0 ?_
      refine r_getR (b := 35) (q27 (i := 19) rfl) rfl (by decide) (k_42 S1) (fun _ _ _ => rfl) (r_42_0 S1) ?_
      refine r_getR (b := 41) (q27 (i := 20) rfl) rfl (by decide) (k_35 S1) (fun _ _ _ => rfl) (r_35_6 S1) ?_
      refine r_iload_n (q27 (i := 21) rfl) l1 ?_
      refine r_iaN (x := nI (s.2.2.2.2.1 k)) (q27 (i := 22) rfl) (k_41 S1) (by omega) (by decide) a1 ?_
      refine r_cV (d := _) (q27 (i := 23) rfl) rfl rfl rfl (k_35 S1) (Nat.le_of_ble_eq_true rfl) (Nat.zero_le _) (Nat.zero_le _) R2 ?_
      show Wp _ _ _ 49 ls [] (sI (sI h1 35 14 6) 35 15 (nI (s.2.2.2.2.1 k))) _ _
      refine r_iinc (y := nI (k + 1)) (q27 (i := 24) rfl) (Nat.le_of_ble_eq_true rfl) l1 (nI_1 k) rfl ?_
      have l0 := lk1 (k := 1) (v := .int (nI (k + 1))) l0 (by decide) (Or.inl rfl)
      have l1 := lk0 ls 1 (.int (nI (k + 1)))
      generalize lset1 ls 1 (.int (nI (k + 1))) = ls at l1 l0 ⊢
      refine r_goto 2 (q27 (i := 25) rfl) (by decide) ?_
      exact ffl_out S2 P2 hQ (k + 1) ls l1 l0
    | false =>
      rw [g] at R1
      obtain ⟨h', P', F', hk⟩ := ih (k + 1) h1 (by omega) (fun i hi => by
        by_cases y : i = k
        · rw [y]; exact g
        · exact hz i (by omega)) S1 X1 P1
      refine ⟨h', P', F1.W.tr F', ?_⟩
      intro Q hQ bc bs ls l1 l0
      refine r_iload_n (q27 (i := 2) rfl) l1 ?_
      refine r_aload_n (q27 (i := 3) rfl) l0 ?_
      refine r_getR (b := 35) (q27 (i := 4) rfl) rfl (by decide) (k_42 S) (fun _ _ _ => rfl) (r_42_0 S) ?_
      refine r_getI (x := nI (tN t)) (q27 (i := 5) rfl) rfl (by decide) (k_35 S) (fun _ _ _ => rfl) h10 ?_
      refine r_icmp 55 (q27 (i := 6) rfl) (by decide) (fun zz => absurd zz (show ¬ (nI (tN t) ≤ nI k) from nI_ge (by omega) (by omega))) (fun _ => ?_)
      refine r_aload_n (q27 (i := 7) rfl) l0 ?_
      refine r_getR (b := 35) (q27 (i := 8) rfl) rfl (by decide) (k_42 S) (fun _ _ _ => rfl) (r_42_0 S) ?_
      refine r_getI (x := hI h 35 14) (q27 (i := 9) rfl) rfl (by decide) (k_35 S) (fun _ _ _ => rfl) rfl ?_
      refine r_if 55 (q27 (i := 10) rfl) (by decide) (fun zz => absurd zz (show ¬ (¬ hI h 35 14 = 0) from fun y => y f0)) (fun _ => ?_)
      refine r_aload_n (q27 (i := 11) rfl) l0 ?_
      refine r_iload_n (q27 (i := 12) rfl) l1 ?_
      refine r_cV (d := _) (q27 (i := 13) rfl) rfl rfl rfl (k_42 S) (Nat.le_of_ble_eq_true rfl) (Nat.zero_le _) (Nat.zero_le _) R1 ?_
      show Wp _ _ _ 28 ls [.int 0] h1 _ _
      refine r_if 49 (q27 (i := 14) rfl) (by decide) (fun _ => ?_) (fun zz => absurd (show (0 : Int32) = 0 from by decide) zz)
      refine r_iinc (y := nI (k + 1)) (q27 (i := 24) rfl) (Nat.le_of_ble_eq_true rfl) l1 (nI_1 k) rfl ?_
      have l0 := lk1 (k := 1) (v := .int (nI (k + 1))) l0 (by decide) (Or.inl rfl)
      have l1 := lk0 ls 1 (.int (nI (k + 1)))
      generalize lset1 ls 1 (.int (nI (k + 1))) = ls at l1 l0 ⊢
      refine r_goto 2 (q27 (i := 25) rfl) (by decide) ?_
      exact hk Q hQ bc bs ls l1 l0
set_option maxHeartbeats 2000000 in
set_option maxRecDepth 10000 in
theorem sp_ffl {d : Nat} {t : txt} {z : Nat} {s : pst} (hac : s.2.2.2.2.2 = tN t) {h : hp} (S : Sh h) (X : XT h t) (P : PS h z (.ok s)) : ∃ h', Run (d + 3 + 1) 27 [.ref 42] h 0 0 none h' ∧ PS h' z (if lst (slf t) (tN t) < tN t then .error (6, s.2.2.2.2.1 (lst (slf t) (tN t))) else .ok s) ∧ FrW h h' := by
  obtain ⟨h', P', F', hk⟩ := lp_ffl (d := d) hac (tN t) 0 h (Nat.zero_add _) (fun i hi => absurd hi (Nat.not_lt_zero i)) S X P
  refine ⟨h', ?_, P', F'⟩
  refine Run.of (Nat.le_of_ble_eq_true rfl) (fun Q hQ => ?_)
  show Wp (Ex (d + 3)) 27 Q 0 [(0, .ref 42)] [] h 0 0
  refine r_iconst (v := 0) (q27 (i := 0) rfl) (by decide) ?_
  refine r_istore_n (ls' := [(1, .int 0), (0, .ref 42)]) (q27 (i := 1) rfl) (Nat.le_of_ble_eq_true rfl) rfl ?_
  exact hk Q hQ _ _ _ rfl rfl
set_option maxHeartbeats 2000000 in
set_option maxRecDepth 10000 in
theorem ar_out {d : Nat} {h : hp} (S : Sh h) {z : Nat} {e : Nat × Nat} (P : PS h z (.error e)) {Q : resP} {bc bs : Nat} (hQ : Q none h) (i : Nat) (ls : List (Nat × Value)) (l1 : ls.lookup 1 = some (.int (nI i))) (l0 : ls.lookup 0 = some (.ref 42)) : Wp (Ex d) 22 Q 10 ls [] h bc bs := by
  refine r_iload_n (q22 (i := 6) rfl) l1 ?_
  refine r_aload_n (q22 (i := 7) rfl) l0 ?_
  refine r_getR (b := 35) (q22 (i := 8) rfl) rfl (by decide) (k_42 S) (fun _ _ _ => rfl) (r_42_0 S) ?_
  refine r_getI (x := hI h 35 10) (q22 (i := 9) rfl) rfl (by decide) (k_35 S) (fun _ _ _ => rfl) rfl ?_
  refine r_icmp 68 (q22 (i := 10) rfl) (by decide) (fun c18 => ?_) (fun c18 => ?_)
  · have c18 : hI h 35 10 ≤ nI i := c18
    exact r_vret (q22 (i := 36) rfl) rfl hQ
  · have c18 : ¬ (hI h 35 10 ≤ nI i) := c18
    refine r_aload_n (q22 (i := 11) rfl) l0 ?_
    refine r_getR (b := 35) (q22 (i := 12) rfl) rfl (by decide) (k_42 S) (fun _ _ _ => rfl) (r_42_0 S) ?_
    refine r_getI (x := hI h 35 14) (q22 (i := 13) rfl) rfl (by decide) (k_35 S) (fun _ _ _ => rfl) rfl ?_
    refine r_if 68 (q22 (i := 14) rfl) (by decide) (fun _ => ?_) (fun zz => absurd (show ¬ hI h 35 14 = 0 from err_ne P) zz)
    exact r_vret (q22 (i := 36) rfl) rfl hQ
def OR (h : hp) (i : Nat) (o : ost) : Prop := RK h o.2 ∧ ∀ j, j < i → hI h 43 j = nI (o.1 j)
theorem FrO.K {h h' : hp} (F : FrO h h') {i : Nat} {o : ost} (K : OR h i o) : OR h' i o := by
  unfold OR RK at *
  rw [F.2 44 (by decide) (by decide) (by decide), F.2 43 (by decide) (by decide) (by decide)]
  exact K
theorem OR_add {h : hp} {i k : Nat} {o : ost} (K : OR h i o) (hi : i < 119) : OR (sI (sI h 43 i (nI k)) 44 k (nI i)) (i + 1) (u1 o.1 i k, u1 o.2 k (some i)) := by
  refine ⟨fun q hq => ?_, fun j hj => ?_⟩
  · show u1 (hI h 44) k (nI i) q = oO (u1 o.2 k (some i) q) ∧ ∀ x, u1 o.2 k (some i) q = some x → x < 119
    by_cases y : q = k
    · rw [y, u1_s, u1_s]; exact ⟨rfl, fun x hx => by cases hx; exact hi⟩
    · rw [u1_n y, u1_n y]; exact K.1 q hq
  · show u1 (hI h 43) i (nI k) j = nI (u1 o.1 i k j)
    by_cases y : j = i
    · rw [y, u1_s, u1_s]
    · rw [u1_n y, u1_n y]; exact K.2 j (by omega)
/-- what arrange leaves -/
def AQ (h' : hp) (z : Nat) (s : pst) (t : txt) (r : Bool × ost) : Prop := if r.1 then PS h' z (.ok s) ∧ OR h' (tN t) r.2 else PS h' z (.error (6, s.2.2.2.2.1 (lst (slf t) (tN t))))
theorem PS_or {h : hp} {z : Nat} {r : pres} (P : PS h z r) (i k : Nat) (x y : Int32) : PS (sI (sI h 43 i x) 44 k y) z r := by
  cases r with
  | ok s => exact P
  | error e => exact P
set_option maxHeartbeats 2000000 in
set_option maxRecDepth 10000 in
theorem lp_arr {d : Nat} {t : txt} {z : Nat} {s : pst} (hac : s.2.2.2.2.2 = tN t) : ∀ (m i : Nat) (o : ost) (h : hp), i + m = tN t → ainv t i o → Sh h → XT h t → PS h z (.ok s) → OR h i o → ∃ h', AQ h' z s t (arr t m i o) ∧ FrW h h' ∧ ∀ (Q : resP), Q none h' → ∀ (bc bs : Nat) (ls : List (Nat × Value)), ls.lookup 1 = some (.int (nI i)) → ls.lookup 0 = some (.ref 42) → Wp (Ex (d + 4)) 22 Q 10 ls [] h bc bs := by
  intro m
  induction m with
  | zero =>
    intro i o h hm I S X P K
    have e : i = tN t := by omega
    subst e
    have h10 := X.2.2.1.2.2
    refine ⟨h, ⟨P, K⟩, FrW.rf h, ?_⟩
    intro Q hQ bc bs ls l1 l0
    refine r_iload_n (q22 (i := 6) rfl) l1 ?_
    refine r_aload_n (q22 (i := 7) rfl) l0 ?_
    refine r_getR (b := 35) (q22 (i := 8) rfl) rfl (by decide) (k_42 S) (fun _ _ _ => rfl) (r_42_0 S) ?_
    refine r_getI (x := nI (tN t)) (q22 (i := 9) rfl) rfl (by decide) (k_35 S) (fun _ _ _ => rfl) h10 ?_
    refine r_icmp 68 (q22 (i := 10) rfl) (by decide) (fun _ => ?_) (fun zz => absurd (show nI (tN t) ≤ nI (tN t) from Int32.le_refl _) zz)
    exact r_vret (q22 (i := 36) rfl) rfl hQ
  | succ m ih =>
    intro i o h hm I S X P K
    have h10 := X.2.2.1.2.2
    have hN := X.2.2.2.2.2
    have f0 := P.1.1
    have R1 := sp_frdy (d := d + 1) S X K.1
    cases e : frdy t o.2 with
    | some k =>
      obtain ⟨f1, f2, f3⟩ := frdy_some e
      have e2 : arr t (m + 1) i o = arr t m (i + 1) (u1 o.1 i k, u1 o.2 k (some i)) := by
        show (match frdy t o.2 with
          | some k => arr t m (i + 1) (u1 o.1 i k, u1 o.2 k (some i))
          | none => (false, o)) = _
        rw [e]
      rw [e2]
      rw [e] at R1
      have F1 : FrW h (sI (sI h 43 i (nI k)) 44 k (nI i)) := (FrW.w (by decide) _ _).tr (FrW.w (by decide) _ _)
      obtain ⟨h', A', F', hk⟩ := ih (i + 1) _ _ (by omega) (ainv_s I e) (F1.S S) (F1.X X) (PS_or P _ _ _ _) (OR_add K (by omega))
      refine ⟨h', A', F1.tr F', ?_⟩
      intro Q hQ bc bs ls l1 l0
      refine r_iload_n (q22 (i := 6) rfl) l1 ?_
      refine r_aload_n (q22 (i := 7) rfl) l0 ?_
      refine r_getR (b := 35) (q22 (i := 8) rfl) rfl (by decide) (k_42 S) (fun _ _ _ => rfl) (r_42_0 S) ?_
      refine r_getI (x := nI (tN t)) (q22 (i := 9) rfl) rfl (by decide) (k_35 S) (fun _ _ _ => rfl) h10 ?_
      refine r_icmp 68 (q22 (i := 10) rfl) (by decide) (fun zz => absurd zz (show ¬ (nI (tN t) ≤ nI i) from nI_ge (by omega) (by omega))) (fun _ => ?_)
      refine r_aload_n (q22 (i := 11) rfl) l0 ?_
      refine r_getR (b := 35) (q22 (i := 12) rfl) rfl (by decide) (k_42 S) (fun _ _ _ => rfl) (r_42_0 S) ?_
      refine r_getI (x := hI h 35 14) (q22 (i := 13) rfl) rfl (by decide) (k_35 S) (fun _ _ _ => rfl) rfl ?_
      refine r_if 68 (q22 (i := 14) rfl) (by decide) (fun zz => absurd zz (show ¬ (¬ hI h 35 14 = 0) from fun y => y f0)) (fun _ => ?_)
      refine r_aload_n (q22 (i := 15) rfl) l0 ?_
      refine r_cV (d := _) (q22 (i := 16) rfl) rfl rfl rfl (k_42 S) (Nat.le_of_ble_eq_true rfl) (Nat.zero_le _) (Nat.zero_le _) R1 ?_
      show Wp _ _ _ 35 ls [.int (nI k)] h _ _
      refine r_istore_n (ls' := lset1 ls 2 (.int (nI k))) (q22 (i := 17) rfl) (Nat.le_of_ble_eq_true rfl) rfl ?_
      have l1 := lk1 (k := 2) (v := .int (nI k)) l1 (by decide) (Or.inl rfl)
      have l0 := lk1 (k := 2) (v := .int (nI k)) l0 (by decide) (Or.inr (by decide))
      have l2 := lk0 ls 2 (.int (nI k))
      generalize lset1 ls 2 (.int (nI k)) = ls at l2 l1 l0 ⊢
      refine r_iload_n (q22 (i := 18) rfl) l2 ?_
      refine r_iconst (v := (-1)) (q22 (i := 19) rfl) (by decide) ?_
      refine r_icmp 48 (q22 (i := 20) rfl) (by decide) (fun _ => ?_) (fun zz => absurd (show ¬ nI k = (-1) from nI_ne1 (by omega)) zz)
      refine r_aload_n (q22 (i := 24) rfl) l0 ?_
      refine r_getR (b := 43) (q22 (i := 25) rfl) rfl (by decide) (k_42 S) (fun _ _ _ => rfl) (r_42_1 S) ?_
      refine r_iload_n (q22 (i := 26) rfl) l1 ?_
      refine r_iload_n (q22 (i := 27) rfl) l2 ?_
      refine r_iasN (q22 (i := 28) rfl) (k_43 S) (by omega) (by decide) ?_
      refine r_aload_n (q22 (i := 29) rfl) l0 ?_
      refine r_getR (b := 44) (q22 (i := 30) rfl) rfl (by decide) (k_42 S) (fun _ _ _ => rfl) (r_42_2 S) ?_
      refine r_iload_n (q22 (i := 31) rfl) l2 ?_
      refine r_iload_n (q22 (i := 32) rfl) l1 ?_
      refine r_iasN (q22 (i := 33) rfl) (k_44 S) (by omega) (by decide) ?_
      refine r_iinc (y := nI (i + 1)) (q22 (i := 34) rfl) (Nat.le_of_ble_eq_true rfl) l1 (nI_1 i) rfl ?_
      have l2 := lk1 (k := 1) (v := .int (nI (i + 1))) l2 (by decide) (Or.inr (by decide))
      have l0 := lk1 (k := 1) (v := .int (nI (i + 1))) l0 (by decide) (Or.inl rfl)
      have l1 := lk0 ls 1 (.int (nI (i + 1)))
      generalize lset1 ls 1 (.int (nI (i + 1))) = ls at l1 l2 l0 ⊢
      refine r_goto 10 (q22 (i := 35) rfl) (by decide) ?_
      exact hk Q hQ bc bs ls l1 l0
    | none =>
      have e2 : arr t (m + 1) i o = (false, o) := by
        show (match frdy t o.2 with
          | some k => arr t m (i + 1) (u1 o.1 i k, u1 o.2 k (some i))
          | none => (false, o)) = _
        rw [e]
      rw [e2]
      rw [e] at R1
      have hlt : lst (slf t) (tN t) < tN t := by
        rcases arr_res (fun a b ha hd => dep_lt X ha hd) (m + 1) i o hm I with y | y
        · rw [e2] at y; exact absurd (show false = true from y.1) (by decide)
        · exact y.2
      obtain ⟨h1, R2, P1, F1⟩ := sp_ffl (d := d) hac S X P
      rw [if_pos hlt] at P1
      have S1 := F1.S S
      refine ⟨h1, P1, F1, ?_⟩
      intro Q hQ bc bs ls l1 l0
      refine r_iload_n (q22 (i := 6) rfl) l1 ?_
      refine r_aload_n (q22 (i := 7) rfl) l0 ?_
      refine r_getR (b := 35) (q22 (i := 8) rfl) rfl (by decide) (k_42 S) (fun _ _ _ => rfl) (r_42_0 S) ?_
      refine r_getI (x := nI (tN t)) (q22 (i := 9) rfl) rfl (by decide) (k_35 S) (fun _ _ _ => rfl) h10 ?_
      refine r_icmp 68 (q22 (i := 10) rfl) (by decide) (fun zz => absurd zz (show ¬ (nI (tN t) ≤ nI i) from nI_ge (by omega) (by omega))) (fun _ => ?_)
      refine r_aload_n (q22 (i := 11) rfl) l0 ?_
      refine r_getR (b := 35) (q22 (i := 12) rfl) rfl (by decide) (k_42 S) (fun _ _ _ => rfl) (r_42_0 S) ?_
      refine r_getI (x := hI h 35 14) (q22 (i := 13) rfl) rfl (by decide) (k_35 S) (fun _ _ _ => rfl) rfl ?_
      refine r_if 68 (q22 (i := 14) rfl) (by decide) (fun zz => absurd zz (show ¬ (¬ hI h 35 14 = 0) from fun y => y f0)) (fun _ => ?_)
      refine r_aload_n (q22 (i := 15) rfl) l0 ?_
      refine r_cV (d := _) (q22 (i := 16) rfl) rfl rfl rfl (k_42 S) (Nat.le_of_ble_eq_true rfl) (Nat.zero_le _) (Nat.zero_le _) R1 ?_
      show Wp _ _ _ 35 ls [.int (-1)] h _ _
      refine r_istore_n (ls' := lset1 ls 2 (.int (-1))) (q22 (i := 17) rfl) (Nat.le_of_ble_eq_true rfl) rfl ?_
      have l1 := lk1 (k := 2) (v := .int (-1)) l1 (by decide) (Or.inl rfl)
      have l0 := lk1 (k := 2) (v := .int (-1)) l0 (by decide) (Or.inr (by decide))
      have l2 := lk0 ls 2 (.int (-1))
      generalize lset1 ls 2 (.int (-1)) = ls at l2 l1 l0 ⊢
      refine r_iload_n (q22 (i := 18) rfl) l2 ?_
      refine r_iconst (v := (-1)) (q22 (i := 19) rfl) (by decide) ?_
      refine r_icmp 48 (q22 (i := 20) rfl) (by decide) (fun zz => absurd zz (show ¬ (¬ (-1 : Int32) = (-1)) from by decide)) (fun _ => ?_)
      refine r_aload_n (q22 (i := 21) rfl) l0 ?_
      refine r_cV (d := _) (q22 (i := 22) rfl) rfl rfl rfl (k_42 S) (Nat.le_of_ble_eq_true rfl) (Nat.zero_le _) (Nat.zero_le _) R2 ?_
      show Wp _ _ _ 45 ls [] h1 _ _
      refine r_goto 62 (q22 (i := 23) rfl) (by decide) ?_
      refine r_iinc (y := nI (i + 1)) (q22 (i := 34) rfl) (Nat.le_of_ble_eq_true rfl) l1 (nI_1 i) rfl ?_
      have l2 := lk1 (k := 1) (v := .int (nI (i + 1))) l2 (by decide) (Or.inr (by decide))
      have l0 := lk1 (k := 1) (v := .int (nI (i + 1))) l0 (by decide) (Or.inl rfl)
      have l1 := lk0 ls 1 (.int (nI (i + 1)))
      generalize lset1 ls 1 (.int (nI (i + 1))) = ls at l1 l2 l0 ⊢
      refine r_goto 10 (q22 (i := 35) rfl) (by decide) ?_
      exact ar_out S1 P1 hQ (i + 1) ls l1 l0
set_option maxHeartbeats 2000000 in
set_option maxRecDepth 10000 in
theorem sp_arrange {d : Nat} {t : txt} {z : Nat} {s : pst} (hac : s.2.2.2.2.2 = tN t) {h : hp} (S : Sh h) (X : XT h t) (P : PS h z (.ok s)) : ∃ h', Run (d + 4 + 1) 22 [.ref 42] h 0 0 none h' ∧ AQ h' z s t (arr t (tN t) 0 o00) ∧ FrW h h' := by
  have F0 : FrW h (rI h 44 (filI (hI h 44) (-1) 119)) := ⟨rfl, fun k x => by
    show u1 h.1 44 _ k = _
    rw [u1_n (by omega)], fun j _ => rfl⟩
  have S0 := F0.S S
  have R0 := sp_fillI (d := d + 3) (k_44 S) (by decide) (-1)
  have P0 : PS (rI h 44 (filI (hI h 44) (-1) 119)) z (.ok s) := P
  have K0 : OR (rI h 44 (filI (hI h 44) (-1) 119)) 0 o00 := ⟨fun k hk => ⟨by
    show (if k < 119 then (-1 : Int32) else _) = _
    rw [if_pos hk]; rfl, fun i hi => by cases hi⟩, fun j hj => absurd hj (Nat.not_lt_zero j)⟩
  obtain ⟨h', A', F', hk⟩ := lp_arr (d := d) hac (tN t) 0 o00 _ (Nat.zero_add _) (ainv_0 t) S0 (F0.X X) P0 K0
  refine ⟨h', ?_, A', F0.tr F'⟩
  refine Run.of (Nat.le_of_ble_eq_true rfl) (fun Q hQ => ?_)
  show Wp (Ex (d + 4)) 22 Q 0 [(0, .ref 42)] [] h 0 0
  refine r_aload_n (q22 (i := 0) rfl) rfl ?_
  refine r_getR (b := 44) (q22 (i := 1) rfl) rfl (by decide) (k_42 S) (fun _ _ _ => rfl) (r_42_2 S) ?_
  refine r_iconst (v := (-1)) (q22 (i := 2) rfl) (by decide) ?_
  refine r_cS (d := _) (q22 (i := 3) rfl) rfl (Nat.le_of_ble_eq_true rfl) rfl rfl (Nat.le_of_ble_eq_true rfl) (Nat.zero_le _) (Nat.zero_le _) R0 ?_
  show Wp _ _ _ 8 [(0, .ref 42)] [] (rI h 44 (filI (hI h 44) (-1) 119)) _ _
  refine r_iconst (v := 0) (q22 (i := 4) rfl) (by decide) ?_
  refine r_istore_n (ls' := [(1, .int 0), (0, .ref 42)]) (q22 (i := 5) rfl) (Nat.le_of_ble_eq_true rfl) rfl ?_
  exact hk Q hQ _ _ _ rfl rfl
def sgn (t : txt) (K : Bool) (rk : Nat → Option Nat) (lit : Nat) : Nat := if lit / 2 = 0 then tn t else match AO (tD t) (tn t) lit with
  | none => tD t (lit / 2) - 1
  | some k => tn t + (if K then 1 else 0) + (rk k).getD 0
def sg (t : txt) (K : Bool) (rk : Nat → Option Nat) (lit : Nat) : Int32 := if lit % 2 = 0 then nI (sgn t K rk lit) else nI (sgn t K rk lit) ^^^ (-1)
set_option maxHeartbeats 2000000 in
set_option maxRecDepth 10000 in
theorem sp_signalOf {d : Nat} {h : hp} (S : Sh h) {t : txt} (X : XT h t) {K : Bool} (hK : hI h 35 13 = if K then 1 else 0) {rk : Nat → Option Nat} (R : RK h rk) (hr : ∀ k, k < tN t → (rk k).isSome = true) {lit : Nat} (hl : lit ≤ 2001) (hd : lit / 2 = 0 ∨ tD t (lit / 2) ≠ 0) : Run (d + 1 + 1) 24 [.ref 42, .int (nI lit)] h 0 0 (some (.int (sg t K rk lit))) h := by
  have R1 := sp_andOf (d := d) S X hl
  have h8 := X.2.2.1.1
  obtain ⟨x1, x2⟩ := X.1 (lit / 2) (by omega)
  have hN := X.2.2.2
  refine Run.of (Nat.le_of_ble_eq_true rfl) (fun Q hQ => ?_)
  show Wp (Ex (d + 1)) 24 Q 0 [(0, .ref 42), (1, .int (nI lit))] [] h 0 0
  have K82 : ∀ (y : Int32) (ls : List (Nat × Value)), y = nI (sgn t K rk lit) → ls.lookup 1 = some (.int (nI lit)) → ls.lookup 4 = some (.int y) → Wp (Ex (d + 1)) 24 Q 82 ls [] h 0 0 := by
    intro y ls ey l1 l4
    subst ey
    unfold sg at hQ
    by_cases p : lit % 2 = 0
    · rw [if_pos p] at hQ
      refine r_iload_n (q24 (i := 45) rfl) l1 ?_
      refine r_iconst (v := 1) (q24 (i := 46) rfl) (by decide) ?_
      refine r_iand (q24 (i := 47) rfl) ?_
      rw [show ((nI lit) &&& 1 : Int32) = nI (lit % 2) from and1 (by omega)]
      refine r_if 93 (q24 (i := 48) rfl) (by decide) (fun zz => absurd zz (show ¬ (¬ nI (lit % 2) = 0) from fun y => y (congrArg nI p))) (fun _ => ?_)
      refine r_iload (q24 (i := 49) rfl) l4 ?_
      refine r_goto 97 (q24 (i := 50) rfl) (by decide) ?_
      exact r_iret (q24 (i := 54) rfl) rfl hQ
    · rw [if_neg p] at hQ
      refine r_iload_n (q24 (i := 45) rfl) l1 ?_
      refine r_iconst (v := 1) (q24 (i := 46) rfl) (by decide) ?_
      refine r_iand (q24 (i := 47) rfl) ?_
      rw [show ((nI lit) &&& 1 : Int32) = nI (lit % 2) from and1 (by omega)]
      refine r_if 93 (q24 (i := 48) rfl) (by decide) (fun _ => ?_) (fun zz => absurd (show ¬ nI (lit % 2) = 0 from nI_ne0 (by omega) (by omega)) zz)
      refine r_iload (q24 (i := 51) rfl) l4 ?_
      refine r_iconst (v := (-1)) (q24 (i := 52) rfl) (by decide) ?_
      refine r_ixor (q24 (i := 53) rfl) ?_
      exact r_iret (q24 (i := 54) rfl) rfl hQ
  by_cases g : lit / 2 = 0
  · have e : nI (tn t) = nI (sgn t K rk lit) := congrArg nI (if_pos g).symm
    refine r_iload_n (q24 (i := 0) rfl) rfl ?_
    refine r_iconst (v := 1) (q24 (i := 1) rfl) (by decide) ?_
    refine r_ishr (q24 (i := 2) rfl) ?_
    rw [show ((nI lit) >>> (1 &&& 31) : Int32) = nI (lit / 2) from shr1 (by omega)]
    refine r_istore_n (ls' := [(2, .int (nI (lit / 2))), (0, .ref 42), (1, .int (nI lit))]) (q24 (i := 3) rfl) (Nat.le_of_ble_eq_true rfl) rfl ?_
    refine r_aload_n (q24 (i := 4) rfl) rfl ?_
    refine r_getR (b := 35) (q24 (i := 5) rfl) rfl (by decide) (k_42 S) (fun _ _ _ => rfl) (r_42_0 S) ?_
    refine r_iload_n (q24 (i := 6) rfl) rfl ?_
    refine r_cV (d := _) (q24 (i := 7) rfl) rfl rfl rfl (k_35 S) (Nat.le_of_ble_eq_true rfl) (Nat.zero_le _) (Nat.zero_le _) R1 ?_
    show Wp _ _ _ 12 [(2, .int (nI (lit / 2))), (0, .ref 42), (1, .int (nI lit))] [.int (oO (AO (tD t) (tn t) lit))] h _ _
    refine r_istore_n (ls' := [(3, .int (oO (AO (tD t) (tn t) lit))), (2, .int (nI (lit / 2))), (0, .ref 42), (1, .int (nI lit))]) (q24 (i := 8) rfl) (Nat.le_of_ble_eq_true rfl) rfl ?_
    refine r_iload_n (q24 (i := 9) rfl) rfl ?_
    refine r_if 29 (q24 (i := 10) rfl) (by decide) (fun zz => absurd zz (show ¬ (¬ nI (lit / 2) = 0) from fun y => y (congrArg nI g))) (fun _ => ?_)
    refine r_aload_n (q24 (i := 11) rfl) rfl ?_
    refine r_getR (b := 35) (q24 (i := 12) rfl) rfl (by decide) (k_42 S) (fun _ _ _ => rfl) (r_42_0 S) ?_
    refine r_getI (x := nI (tn t)) (q24 (i := 13) rfl) rfl (by decide) (k_35 S) (fun _ _ _ => rfl) h8 ?_
    refine r_istore (ls' := [(4, .int (nI (tn t))), (3, .int (oO (AO (tD t) (tn t) lit))), (2, .int (nI (lit / 2))), (0, .ref 42), (1, .int (nI lit))]) (q24 (i := 14) rfl) (Nat.le_of_ble_eq_true rfl) rfl ?_
    refine r_goto 82 (q24 (i := 15) rfl) (by decide) ?_
    exact K82 _ _ e rfl rfl
  · cases e : AO (tD t) (tn t) lit with
    | none =>
      have e2 : sgn t K rk lit = tD t (lit / 2) - 1 := by
        unfold sgn
        rw [if_neg g, e]
      have hd2 : tD t (lit / 2) ≠ 0 := hd.resolve_left g
      rw [e] at R1
      refine r_iload_n (q24 (i := 0) rfl) rfl ?_
      refine r_iconst (v := 1) (q24 (i := 1) rfl) (by decide) ?_
      refine r_ishr (q24 (i := 2) rfl) ?_
      rw [show ((nI lit) >>> (1 &&& 31) : Int32) = nI (lit / 2) from shr1 (by omega)]
      refine r_istore_n (ls' := [(2, .int (nI (lit / 2))), (0, .ref 42), (1, .int (nI lit))]) (q24 (i := 3) rfl) (Nat.le_of_ble_eq_true rfl) rfl ?_
      refine r_aload_n (q24 (i := 4) rfl) rfl ?_
      refine r_getR (b := 35) (q24 (i := 5) rfl) rfl (by decide) (k_42 S) (fun _ _ _ => rfl) (r_42_0 S) ?_
      refine r_iload_n (q24 (i := 6) rfl) rfl ?_
      refine r_cV (d := _) (q24 (i := 7) rfl) rfl rfl rfl (k_35 S) (Nat.le_of_ble_eq_true rfl) (Nat.zero_le _) (Nat.zero_le _) R1 ?_
      show Wp _ _ _ 12 [(2, .int (nI (lit / 2))), (0, .ref 42), (1, .int (nI lit))] [.int (-1)] h _ _
      refine r_istore_n (ls' := [(3, .int (-1)), (2, .int (nI (lit / 2))), (0, .ref 42), (1, .int (nI lit))]) (q24 (i := 8) rfl) (Nat.le_of_ble_eq_true rfl) rfl ?_
      refine r_iload_n (q24 (i := 9) rfl) rfl ?_
      refine r_if 29 (q24 (i := 10) rfl) (by decide) (fun _ => ?_) (fun zz => absurd (show ¬ nI (lit / 2) = 0 from nI_ne0 (by omega) (by omega)) zz)
      refine r_iload_n (q24 (i := 16) rfl) rfl ?_
      refine r_iconst (v := (-1)) (q24 (i := 17) rfl) (by decide) ?_
      refine r_icmp 50 (q24 (i := 18) rfl) (by decide) (fun zz => absurd zz (show ¬ (¬ (-1 : Int32) = (-1)) from by decide)) (fun _ => ?_)
      refine r_aload_n (q24 (i := 19) rfl) rfl ?_
      refine r_getR (b := 35) (q24 (i := 20) rfl) rfl (by decide) (k_42 S) (fun _ _ _ => rfl) (r_42_0 S) ?_
      refine r_getR (b := 38) (q24 (i := 21) rfl) rfl (by decide) (k_35 S) (fun _ _ _ => rfl) (r_35_3 S) ?_
      refine r_iload_n (q24 (i := 22) rfl) rfl ?_
      refine r_iaN (x := nI (tD t (lit / 2))) (q24 (i := 23) rfl) (k_38 S) (by omega) (by decide) x1 ?_
      refine r_iconst (v := 1) (q24 (i := 24) rfl) (by decide) ?_
      refine r_isub (q24 (i := 25) rfl) ?_
      rw [show ((nI (tD t (lit / 2))) - 1 : Int32) = nI (tD t (lit / 2) - 1) from nI_subN (b := 1) (by omega)]
      refine r_istore (ls' := [(4, .int (nI (tD t (lit / 2) - 1))), (3, .int (-1)), (2, .int (nI (lit / 2))), (0, .ref 42), (1, .int (nI lit))]) (q24 (i := 26) rfl) (Nat.le_of_ble_eq_true rfl) rfl ?_
      refine r_goto 82 (q24 (i := 27) rfl) (by decide) ?_
      exact K82 _ _ (congrArg nI e2.symm) rfl rfl
    | some k =>
      have hk := AO_lt X hl e
      obtain ⟨k1, k2⟩ := R k (by omega)
      have e2 : sgn t K rk lit = tn t + (if K then 1 else 0) + (rk k).getD 0 := by
        unfold sgn
        rw [if_neg g, e]
      rw [e] at R1
      cases e3 : rk k with
      | none => have := hr k hk; rw [e3] at this; cases this
      | some i =>
        rw [e3] at e2 k1
        have k1 : hI h 44 k = nI i := k1
        have e2 : sgn t K rk lit = tn t + (if K then 1 else 0) + i := e2
        cases K with
        | true =>
          refine r_iload_n (q24 (i := 0) rfl) rfl ?_
          refine r_iconst (v := 1) (q24 (i := 1) rfl) (by decide) ?_
          refine r_ishr (q24 (i := 2) rfl) ?_
          rw [show ((nI lit) >>> (1 &&& 31) : Int32) = nI (lit / 2) from shr1 (by omega)]
          refine r_istore_n (ls' := [(2, .int (nI (lit / 2))), (0, .ref 42), (1, .int (nI lit))]) (q24 (i := 3) rfl) (Nat.le_of_ble_eq_true rfl) rfl ?_
          refine r_aload_n (q24 (i := 4) rfl) rfl ?_
          refine r_getR (b := 35) (q24 (i := 5) rfl) rfl (by decide) (k_42 S) (fun _ _ _ => rfl) (r_42_0 S) ?_
          refine r_iload_n (q24 (i := 6) rfl) rfl ?_
          refine r_cV (d := _) (q24 (i := 7) rfl) rfl rfl rfl (k_35 S) (Nat.le_of_ble_eq_true rfl) (Nat.zero_le _) (Nat.zero_le _) R1 ?_
          show Wp _ _ _ 12 [(2, .int (nI (lit / 2))), (0, .ref 42), (1, .int (nI lit))] [.int (nI k)] h _ _
          refine r_istore_n (ls' := [(3, .int (nI k)), (2, .int (nI (lit / 2))), (0, .ref 42), (1, .int (nI lit))]) (q24 (i := 8) rfl) (Nat.le_of_ble_eq_true rfl) rfl ?_
          refine r_iload_n (q24 (i := 9) rfl) rfl ?_
          refine r_if 29 (q24 (i := 10) rfl) (by decide) (fun _ => ?_) (fun zz => absurd (show ¬ nI (lit / 2) = 0 from nI_ne0 (by omega) (by omega)) zz)
          refine r_iload_n (q24 (i := 16) rfl) rfl ?_
          refine r_iconst (v := (-1)) (q24 (i := 17) rfl) (by decide) ?_
          refine r_icmp 50 (q24 (i := 18) rfl) (by decide) (fun _ => ?_) (fun zz => absurd (show ¬ nI k = (-1) from nI_ne1 (by omega)) zz)
          refine r_aload_n (q24 (i := 28) rfl) rfl ?_
          refine r_getR (b := 35) (q24 (i := 29) rfl) rfl (by decide) (k_42 S) (fun _ _ _ => rfl) (r_42_0 S) ?_
          refine r_getI (x := nI (tn t)) (q24 (i := 30) rfl) rfl (by decide) (k_35 S) (fun _ _ _ => rfl) h8 ?_
          refine r_aload_n (q24 (i := 31) rfl) rfl ?_
          refine r_getR (b := 35) (q24 (i := 32) rfl) rfl (by decide) (k_42 S) (fun _ _ _ => rfl) (r_42_0 S) ?_
          refine r_getI (x := 1) (q24 (i := 33) rfl) rfl (by decide) (k_35 S) (fun _ _ _ => rfl) hK ?_
          refine r_if 71 (q24 (i := 34) rfl) (by decide) (fun zz => absurd zz (show ¬ ((1 : Int32) = 0) from by decide)) (fun _ => ?_)
          refine r_iconst (v := 1) (q24 (i := 35) rfl) (by decide) ?_
          refine r_goto 72 (q24 (i := 36) rfl) (by decide) ?_
          refine r_iadd (q24 (i := 38) rfl) ?_
          rw [show ((nI (tn t)) + 1 : Int32) = nI (tn t + 1) from nI_add (tn t) 1]
          refine r_aload_n (q24 (i := 39) rfl) rfl ?_
          refine r_getR (b := 44) (q24 (i := 40) rfl) rfl (by decide) (k_42 S) (fun _ _ _ => rfl) (r_42_2 S) ?_
          refine r_iload_n (q24 (i := 41) rfl) rfl ?_
          refine r_iaN (x := nI i) (q24 (i := 42) rfl) (k_44 S) (by omega) (by decide) k1 ?_
          refine r_iadd (q24 (i := 43) rfl) ?_
          rw [show ((nI (tn t + 1)) + (nI i) : Int32) = nI (tn t + 1 + i) from nI_add _ _]
          refine r_istore (ls' := [(4, .int (nI (tn t + 1 + i))), (3, .int (nI k)), (2, .int (nI (lit / 2))), (0, .ref 42), (1, .int (nI lit))]) (q24 (i := 44) rfl) (Nat.le_of_ble_eq_true rfl) rfl ?_
          exact K82 _ _ (congrArg nI e2.symm) rfl rfl
        | false =>
          refine r_iload_n (q24 (i := 0) rfl) rfl ?_
          refine r_iconst (v := 1) (q24 (i := 1) rfl) (by decide) ?_
          refine r_ishr (q24 (i := 2) rfl) ?_
          rw [show ((nI lit) >>> (1 &&& 31) : Int32) = nI (lit / 2) from shr1 (by omega)]
          refine r_istore_n (ls' := [(2, .int (nI (lit / 2))), (0, .ref 42), (1, .int (nI lit))]) (q24 (i := 3) rfl) (Nat.le_of_ble_eq_true rfl) rfl ?_
          refine r_aload_n (q24 (i := 4) rfl) rfl ?_
          refine r_getR (b := 35) (q24 (i := 5) rfl) rfl (by decide) (k_42 S) (fun _ _ _ => rfl) (r_42_0 S) ?_
          refine r_iload_n (q24 (i := 6) rfl) rfl ?_
          refine r_cV (d := _) (q24 (i := 7) rfl) rfl rfl rfl (k_35 S) (Nat.le_of_ble_eq_true rfl) (Nat.zero_le _) (Nat.zero_le _) R1 ?_
          show Wp _ _ _ 12 [(2, .int (nI (lit / 2))), (0, .ref 42), (1, .int (nI lit))] [.int (nI k)] h _ _
          refine r_istore_n (ls' := [(3, .int (nI k)), (2, .int (nI (lit / 2))), (0, .ref 42), (1, .int (nI lit))]) (q24 (i := 8) rfl) (Nat.le_of_ble_eq_true rfl) rfl ?_
          refine r_iload_n (q24 (i := 9) rfl) rfl ?_
          refine r_if 29 (q24 (i := 10) rfl) (by decide) (fun _ => ?_) (fun zz => absurd (show ¬ nI (lit / 2) = 0 from nI_ne0 (by omega) (by omega)) zz)
          refine r_iload_n (q24 (i := 16) rfl) rfl ?_
          refine r_iconst (v := (-1)) (q24 (i := 17) rfl) (by decide) ?_
          refine r_icmp 50 (q24 (i := 18) rfl) (by decide) (fun _ => ?_) (fun zz => absurd (show ¬ nI k = (-1) from nI_ne1 (by omega)) zz)
          refine r_aload_n (q24 (i := 28) rfl) rfl ?_
          refine r_getR (b := 35) (q24 (i := 29) rfl) rfl (by decide) (k_42 S) (fun _ _ _ => rfl) (r_42_0 S) ?_
          refine r_getI (x := nI (tn t)) (q24 (i := 30) rfl) rfl (by decide) (k_35 S) (fun _ _ _ => rfl) h8 ?_
          refine r_aload_n (q24 (i := 31) rfl) rfl ?_
          refine r_getR (b := 35) (q24 (i := 32) rfl) rfl (by decide) (k_42 S) (fun _ _ _ => rfl) (r_42_0 S) ?_
          refine r_getI (x := 0) (q24 (i := 33) rfl) rfl (by decide) (k_35 S) (fun _ _ _ => rfl) hK ?_
          refine r_if 71 (q24 (i := 34) rfl) (by decide) (fun _ => ?_) (fun zz => absurd (show (0 : Int32) = 0 from by decide) zz)
          refine r_iconst (v := 0) (q24 (i := 37) rfl) (by decide) ?_
          refine r_iadd (q24 (i := 38) rfl) ?_
          rw [show ((nI (tn t)) + 0 : Int32) = nI (tn t + 0) from nI_add (tn t) 0]
          refine r_aload_n (q24 (i := 39) rfl) rfl ?_
          refine r_getR (b := 44) (q24 (i := 40) rfl) rfl (by decide) (k_42 S) (fun _ _ _ => rfl) (r_42_2 S) ?_
          refine r_iload_n (q24 (i := 41) rfl) rfl ?_
          refine r_iaN (x := nI i) (q24 (i := 42) rfl) (k_44 S) (by omega) (by decide) k1 ?_
          refine r_iadd (q24 (i := 43) rfl) ?_
          rw [show ((nI (tn t + 0)) + (nI i) : Int32) = nI (tn t + 0 + i) from nI_add _ _]
          refine r_istore (ls' := [(4, .int (nI (tn t + 0 + i))), (3, .int (nI k)), (2, .int (nI (lit / 2))), (0, .ref 42), (1, .int (nI lit))]) (q24 (i := 44) rfl) (Nat.le_of_ble_eq_true rfl) rfl ?_
          exact K82 _ _ (congrArg nI e2.symm) rfl rfl
