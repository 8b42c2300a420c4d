/-! ===== numbers ===== -/
theorem nI_subN {a b : Nat} (h : b ≤ a) : nI a - nI b = nI (a - b) := by
  obtain ⟨c, rfl⟩ : ∃ c, a = c + b := ⟨a - b, by omega⟩
  rw [← nI_add, Nat.add_sub_cancel]
  exact Int32.add_sub_cancel _ _
theorem sI_self {h : hp} {a j : Nat} {v : Int32} (e : hI h a j = v) : sI h a j v = h := by
  rw [sI_eq, ← e, u1_self, rI_self]
theorem sI_sI (h : hp) (a j : Nat) (v w : Int32) : sI (sI h a j v) a j w = sI h a j w := by
  rw [sI_eq, sI_eq, sI_eq]
  show rI (rI h a (u1 (hI h a) j v)) a (u1 (u1 h.1 a (u1 (hI h a) j v) a) j w) = _
  rw [u1_s, u1_u1]
  unfold rI
  show (u1 (u1 h.1 a _) a _, h.2) = _
  rw [u1_u1]
set_option maxHeartbeats 2000000 in
set_option maxRecDepth 10000 in
theorem lp_num {d : Nat} {h : hp} (S : Sh h) {B : Nat → Int32} {z : Nat} (T : TC h B z) {M : Nat} (hM : M ≤ 9) {Q : resP} {bc bs : Nat} : ∀ (m a v k : Nat), k + m = M → a ≤ z → Q (some (.int (nI (numL B z m a v).1))) (sI h 35 16 (nI (numL B z m a v).2)) → ∀ ls : List (Nat × Value), ls.lookup 3 = some (.int (nI k)) → ls.lookup 0 = some (.ref 35) → ls.lookup 1 = some (.int (nI M)) → ls.lookup 2 = some (.int (nI v)) → Wp (Ex (d + 2)) 17 Q 72 ls [] (sI h 35 16 (nI a)) bc bs := by
  intro m
  induction m with
  | zero =>
    intro a v k hk ha hQ ls l3 l0 l1 l2
    have e : k = M := by omega
    subst e
    refine r_iload_n (q17 (i := 38) rfl) l3 ?_
    refine r_iload_n (q17 (i := 39) rfl) l1 ?_
    refine r_icmp 127 (q17 (i := 40) rfl) (by decide) (fun _ => ?_) (fun zz => absurd (show nI k ≤ nI k from Int32.le_refl _) zz)
    refine r_iload_n (q17 (i := 67) rfl) l2 ?_
    exact r_iret (q17 (i := 68) rfl) rfl hQ
  | succ m ih =>
    intro a v k hk ha hQ ls l3 l0 l1 l2
    have F := FrE.w (h := h) (j := 16) (by decide) (nI a)
    have S1 := F.S S
    obtain ⟨t1, t2, t3⟩ := F.T T
    have R0 := sp_hasDigitAt (d := d) S1 t2 t3 (nI a)
    have R1 := sp_byteAt (d := d + 1) S1 t2 t3 (nI a)
    rw [t1, dg_is t3 ha] at R0
    by_cases q : dg B z a = true
    · obtain ⟨q1, q2, q3⟩ := dg_lt q
      rw [q] at R0
      rw [t1, (cb_in q1 t3).1] at R1
      have hQ : Q (some (.int (nI (numL B z m (a + 1) (10 * v + (cb B z a - 48))).1))) (sI h 35 16 (nI (numL B z m (a + 1) (10 * v + (cb B z a - 48))).2)) := by
        have e : numL B z (m + 1) a v = numL B z m (a + 1) (10 * v + (cb B z a - 48)) := if_pos q
        rw [← e]; exact hQ
      refine r_iload_n (q17 (i := 38) rfl) l3 ?_
      refine r_iload_n (q17 (i := 39) rfl) l1 ?_
      refine r_icmp 127 (q17 (i := 40) rfl) (by decide) (fun zz => absurd zz (show ¬ (nI M ≤ nI k) from nI_ge (by omega) (by omega))) (fun _ => ?_)
      refine r_aload_n (q17 (i := 41) rfl) l0 ?_
      refine r_getR (b := 33) (q17 (i := 42) rfl) rfl (by decide) (k_35 S1) (fun _ _ _ => rfl) (r_35_0 S1) ?_
      refine r_aload_n (q17 (i := 43) rfl) l0 ?_
      refine r_getI (x := nI a) (q17 (i := 44) rfl) rfl (by decide) (k_35 S1) (fun _ _ _ => rfl) rfl ?_
      refine r_cV (d := _) (q17 (i := 45) rfl) rfl rfl rfl (k_33 S1) (Nat.le_of_ble_eq_true rfl) (Nat.zero_le _) (Nat.zero_le _) R0 ?_
      show Wp _ _ _ 88 ls [.int 1] (sI h 35 16 (nI a)) _ _
      refine r_if 127 (q17 (i := 46) rfl) (by decide) (fun zz => absurd zz (show ¬ ((1 : Int32) = 0) from by decide)) (fun _ => ?_)
      refine r_bipush (v := 10) (q17 (i := 47) rfl) (by decide) ?_
      refine r_iload_n (q17 (i := 48) rfl) l2 ?_
      refine r_imul (q17 (i := 49) rfl) ?_
      rw [show (10 * (nI v) : Int32) = nI (10 * v) from nI_mul 10 v]
      refine r_aload_n (q17 (i := 50) rfl) l0 ?_
      refine r_getR (b := 33) (q17 (i := 51) rfl) rfl (by decide) (k_35 S1) (fun _ _ _ => rfl) (r_35_0 S1) ?_
      refine r_aload_n (q17 (i := 52) rfl) l0 ?_
      refine r_getI (x := nI a) (q17 (i := 53) rfl) rfl (by decide) (k_35 S1) (fun _ _ _ => rfl) rfl ?_
      refine r_cV (d := _) (q17 (i := 54) rfl) rfl rfl rfl (k_33 S1) (Nat.le_of_ble_eq_true rfl) (Nat.zero_le _) (Nat.zero_le _) R1 ?_
      show Wp _ _ _ 106 ls [.int (nI (cb B z a)), .int (nI (10 * v))] (sI h 35 16 (nI a)) _ _
      refine r_iadd (q17 (i := 55) rfl) ?_
      rw [show ((nI (10 * v)) + (nI (cb B z a)) : Int32) = nI (10 * v + cb B z a) from nI_add _ _]
      refine r_bipush (v := 48) (q17 (i := 56) rfl) (by decide) ?_
      refine r_isub (q17 (i := 57) rfl) ?_
      rw [show ((nI (10 * v + cb B z a)) - 48 : Int32) = nI (10 * v + (cb B z a - 48)) from (nI_subN (a := 10 * v + cb B z a) (b := 48) (by omega)).trans (congrArg nI (by omega))]
      refine r_istore_n (ls' := lset1 ls 2 (.int (nI (10 * v + (cb B z a - 48))))) (q17 (i := 58) rfl) (Nat.le_of_ble_eq_true rfl) rfl ?_
      have l3 := lk1 (k := 2) (v := .int (nI (10 * v + (cb B z a - 48)))) l3 (by decide) (Or.inr (by decide))
      have l0 := lk1 (k := 2) (v := .int (nI (10 * v + (cb B z a - 48)))) l0 (by decide) (Or.inr (by decide))
      have l1 := lk1 (k := 2) (v := .int (nI (10 * v + (cb B z a - 48)))) l1 (by decide) (Or.inl rfl)
      have l2 := lk0 ls 2 (.int (nI (10 * v + (cb B z a - 48))))
      generalize lset1 ls 2 (.int (nI (10 * v + (cb B z a - 48)))) = ls at l2 l3 l0 l1 ⊢
      refine r_aload_n (q17 (i := 59) rfl) l0 ?_
      refine r_dup (q17 (i := 60) rfl) rfl ?_
      refine r_getI (x := nI a) (q17 (i := 61) rfl) rfl (by decide) (k_35 S1) (fun _ _ _ => rfl) rfl ?_
      refine r_iconst (v := 1) (q17 (i := 62) rfl) (by decide) ?_
      refine r_iadd (q17 (i := 63) rfl) ?_
      rw [show ((nI a) + 1 : Int32) = nI (a + 1) from nI_1 a]
      refine r_putI (q17 (i := 64) rfl) rfl (by decide) (k_35 S1) rfl rfl ?_
      refine r_iinc (y := nI (k + 1)) (q17 (i := 65) rfl) (Nat.le_of_ble_eq_true rfl) l3 (nI_1 k) rfl ?_
      have l2 := lk1 (k := 3) (v := .int (nI (k + 1))) l2 (by decide) (Or.inl rfl)
      have l0 := lk1 (k := 3) (v := .int (nI (k + 1))) l0 (by decide) (Or.inr (by decide))
      have l1 := lk1 (k := 3) (v := .int (nI (k + 1))) l1 (by decide) (Or.inr (by decide))
      have l3 := lk0 ls 3 (.int (nI (k + 1)))
      generalize lset1 ls 3 (.int (nI (k + 1))) = ls at l3 l2 l0 l1 ⊢
      refine r_goto 72 (q17 (i := 66) rfl) (by decide) ?_
      rw [sI_sI]
      exact ih (a + 1) (10 * v + (cb B z a - 48)) (k + 1) (by omega) (by omega) hQ ls l3 l0 l1 l2
    · rw [if_neg q] at R0
      have hQ : Q (some (.int (nI v))) (sI h 35 16 (nI a)) := by
        have e : numL B z (m + 1) a v = (v, a) := if_neg q
        rw [e] at hQ; exact hQ
      refine r_iload_n (q17 (i := 38) rfl) l3 ?_
      refine r_iload_n (q17 (i := 39) rfl) l1 ?_
      refine r_icmp 127 (q17 (i := 40) rfl) (by decide) (fun zz => absurd zz (show ¬ (nI M ≤ nI k) from nI_ge (by omega) (by omega))) (fun _ => ?_)
      refine r_aload_n (q17 (i := 41) rfl) l0 ?_
      refine r_getR (b := 33) (q17 (i := 42) rfl) rfl (by decide) (k_35 S1) (fun _ _ _ => rfl) (r_35_0 S1) ?_
      refine r_aload_n (q17 (i := 43) rfl) l0 ?_
      refine r_getI (x := nI a) (q17 (i := 44) rfl) rfl (by decide) (k_35 S1) (fun _ _ _ => rfl) rfl ?_
      refine r_cV (d := _) (q17 (i := 45) rfl) rfl rfl rfl (k_33 S1) (Nat.le_of_ble_eq_true rfl) (Nat.zero_le _) (Nat.zero_le _) R0 ?_
      show Wp _ _ _ 88 ls [.int 0] (sI h 35 16 (nI a)) _ _
      refine r_if 127 (q17 (i := 46) rfl) (by decide) (fun _ => ?_) (fun zz => absurd (show (0 : Int32) = 0 from by decide) zz)
      refine r_iload_n (q17 (i := 67) rfl) l2 ?_
      exact r_iret (q17 (i := 68) rfl) rfl hQ
set_option maxHeartbeats 2000000 in
set_option maxRecDepth 10000 in
theorem sp_num {d : Nat} {h : hp} (S : Sh h) {B : Nat → Int32} {z : Nat} (T : TC h B z) {r : pres} (P : PS h z r) : ∃ h', Run (d + 2 + 1) 17 [.ref 35] h 0 0 (some (.int (nI (numV B z r)))) h' ∧ PS h' z (r.bind (Fnum B z)) ∧ FrE h h' ∧ ∀ s, r = .ok s → dg B z s.1 = true → hI h' 35 17 = nI s.1 := by
  obtain ⟨t1, t2, t3⟩ := id T
  cases r with
  | ok s =>
    obtain ⟨⟨p1, p2, p3⟩, p4⟩ := id P
    have R0 := sp_hasDigitAt (d := d) S t2 t3 (nI s.1)
    rw [t1, dg_is t3 p3] at R0
    by_cases q : dg B z s.1 = true
    · have e : (Except.ok s : pres).bind (Fnum B z) = .ok ((numP B z s.1).2, s.2) := if_pos q
      have e2 : numV B z (.ok s) = (numP B z s.1).1 := if_pos q
      obtain ⟨n1, n2, n3⟩ := numP_le B z p3
      rw [e, e2]
      rw [q] at R0
      obtain ⟨q1, q2, q3⟩ := dg_lt q
      have F1 := FrE.w (h := h) (j := 17) (by decide) (nI s.1)
      have S1 := F1.S S
      have T1 := F1.T T
      have R1 := sp_byteAt (d := d + 1) S1 T1.2.1 t3 (nI s.1)
      rw [T1.1, (cb_in q1 t3).1] at R1
      refine ⟨sI (sI h 35 17 (nI s.1)) 35 16 (nI (numP B z s.1).2), ?_, PS_at (PS_na P _) n2, F1.tr (FrE.w (by decide) _), fun s' hs _ => by cases hs; rfl⟩
      refine Run.of (Nat.le_of_ble_eq_true rfl) (fun Q hQ => ?_)
      show Wp (Ex (d + 2)) 17 Q 0 [(0, .ref 35)] [] h 0 0
      have K := fun M (hM : M ≤ 9) hQ => lp_num (d := d) S1 T1 (M := M) hM (Q := Q) (bc := 0) (bs := 0) M s.1 0 0 (Nat.zero_add M) p3 hQ
      rw [sI_self (h := sI h 35 17 (nI s.1)) (a := 35) (j := 16) p2] at K
      by_cases g : cb B z s.1 = 48
      · have K1 := K 1 (by decide) (by
          have e3 : numP B z s.1 = numL B z 1 s.1 0 := if_pos g
          rw [← e3]; exact hQ)
        rw [g] at R1
        refine r_aload_n (q17 (i := 0) rfl) rfl ?_
        refine r_aload_n (q17 (i := 1) rfl) rfl ?_
        refine r_getR (b := 33) (q17 (i := 2) rfl) rfl (by decide) (k_35 S) (fun _ _ _ => rfl) (r_35_0 S) ?_
        refine r_aload_n (q17 (i := 3) rfl) rfl ?_
        refine r_getI (x := nI s.1) (q17 (i := 4) rfl) rfl (by decide) (k_35 S) (fun _ _ _ => rfl) p2 ?_
        refine r_cV (d := _) (q17 (i := 5) rfl) rfl rfl rfl (k_33 S) (Nat.le_of_ble_eq_true rfl) (Nat.zero_le _) (Nat.zero_le _) R0 ?_
        show Wp _ _ _ 12 [(0, .ref 35)] [.int 1, .ref 35] h _ _
        refine r_if 19 (q17 (i := 6) rfl) (by decide) (fun _ => ?_) (fun zz => absurd (show ¬ (1 : Int32) = 0 from by decide) zz)
        refine r_iconst (v := 0) (q17 (i := 9) rfl) (by decide) ?_
        refine r_iconst (v := 1) (q17 (i := 10) rfl) (by decide) ?_
        refine r_aload_n (q17 (i := 11) rfl) rfl ?_
        refine r_getI (x := nI s.1) (q17 (i := 12) rfl) rfl (by decide) (k_35 S) (fun _ _ _ => rfl) p2 ?_
        refine r_cV (d := _) (q17 (i := 13) rfl) rfl rfl rfl (k_35 S) (Nat.le_of_ble_eq_true rfl) (Nat.zero_le _) (Nat.zero_le _) (sp_failIf0 (d := d + 1) _ _) ?_
        show Wp _ _ _ 28 [(0, .ref 35)] [] h _ _
        refine r_aload_n (q17 (i := 14) rfl) rfl ?_
        refine r_getI (x := hI h 35 14) (q17 (i := 15) rfl) rfl (by decide) (k_35 S) (fun _ _ _ => rfl) rfl ?_
        refine r_if 37 (q17 (i := 16) rfl) (by decide) (fun _ => ?_) (fun zz => absurd (show hI h 35 14 = 0 from p1) zz)
        refine r_aload_n (q17 (i := 19) rfl) rfl ?_
        refine r_aload_n (q17 (i := 20) rfl) rfl ?_
        refine r_getI (x := nI s.1) (q17 (i := 21) rfl) rfl (by decide) (k_35 S) (fun _ _ _ => rfl) p2 ?_
        refine r_putI (q17 (i := 22) rfl) rfl (by decide) (k_35 S) rfl rfl ?_
        refine r_aload_n (q17 (i := 23) rfl) rfl ?_
        refine r_getR (b := 33) (q17 (i := 24) rfl) rfl (by decide) (k_35 S1) (fun _ _ _ => rfl) (r_35_0 S1) ?_
        refine r_aload_n (q17 (i := 25) rfl) rfl ?_
        refine r_getI (x := nI s.1) (q17 (i := 26) rfl) rfl (by decide) (k_35 S1) (fun _ _ _ => rfl) p2 ?_
        refine r_cV (d := _) (q17 (i := 27) rfl) rfl rfl rfl (k_33 S1) (Nat.le_of_ble_eq_true rfl) (Nat.zero_le _) (Nat.zero_le _) R1 ?_
        show Wp _ _ _ 56 [(0, .ref 35)] [.int (nI 48)] (sI h 35 17 (nI s.1)) _ _
        refine r_bipush (v := 48) (q17 (i := 28) rfl) (by decide) ?_
        refine r_icmp 65 (q17 (i := 29) rfl) (by decide) (fun zz => absurd zz (show ¬ (¬ nI 48 = 48) from fun y => y rfl)) (fun _ => ?_)
        refine r_iconst (v := 1) (q17 (i := 30) rfl) (by decide) ?_
        refine r_goto 67 (q17 (i := 31) rfl) (by decide) ?_
        refine r_istore_n (ls' := [(1, .int 1), (0, .ref 35)]) (q17 (i := 33) rfl) (Nat.le_of_ble_eq_true rfl) rfl ?_
        refine r_iconst (v := 0) (q17 (i := 34) rfl) (by decide) ?_
        refine r_istore_n (ls' := [(2, .int 0), (1, .int 1), (0, .ref 35)]) (q17 (i := 35) rfl) (Nat.le_of_ble_eq_true rfl) rfl ?_
        refine r_iconst (v := 0) (q17 (i := 36) rfl) (by decide) ?_
        refine r_istore_n (ls' := [(3, .int 0), (2, .int 0), (1, .int 1), (0, .ref 35)]) (q17 (i := 37) rfl) (Nat.le_of_ble_eq_true rfl) rfl ?_
        exact K1 _ rfl rfl rfl rfl
      · have K9 := K 9 (by decide) (by
          have e3 : numP B z s.1 = numL B z 9 s.1 0 := if_neg g
          rw [← e3]; exact hQ)
        refine r_aload_n (q17 (i := 0) rfl) rfl ?_
        refine r_aload_n (q17 (i := 1) rfl) rfl ?_
        refine r_getR (b := 33) (q17 (i := 2) rfl) rfl (by decide) (k_35 S) (fun _ _ _ => rfl) (r_35_0 S) ?_
        refine r_aload_n (q17 (i := 3) rfl) rfl ?_
        refine r_getI (x := nI s.1) (q17 (i := 4) rfl) rfl (by decide) (k_35 S) (fun _ _ _ => rfl) p2 ?_
        refine r_cV (d := _) (q17 (i := 5) rfl) rfl rfl rfl (k_33 S) (Nat.le_of_ble_eq_true rfl) (Nat.zero_le _) (Nat.zero_le _) R0 ?_
        show Wp _ _ _ 12 [(0, .ref 35)] [.int 1, .ref 35] h _ _
        refine r_if 19 (q17 (i := 6) rfl) (by decide) (fun _ => ?_) (fun zz => absurd (show ¬ (1 : Int32) = 0 from by decide) zz)
        refine r_iconst (v := 0) (q17 (i := 9) rfl) (by decide) ?_
        refine r_iconst (v := 1) (q17 (i := 10) rfl) (by decide) ?_
        refine r_aload_n (q17 (i := 11) rfl) rfl ?_
        refine r_getI (x := nI s.1) (q17 (i := 12) rfl) rfl (by decide) (k_35 S) (fun _ _ _ => rfl) p2 ?_
        refine r_cV (d := _) (q17 (i := 13) rfl) rfl rfl rfl (k_35 S) (Nat.le_of_ble_eq_true rfl) (Nat.zero_le _) (Nat.zero_le _) (sp_failIf0 (d := d + 1) _ _) ?_
        show Wp _ _ _ 28 [(0, .ref 35)] [] h _ _
        refine r_aload_n (q17 (i := 14) rfl) rfl ?_
        refine r_getI (x := hI h 35 14) (q17 (i := 15) rfl) rfl (by decide) (k_35 S) (fun _ _ _ => rfl) rfl ?_
        refine r_if 37 (q17 (i := 16) rfl) (by decide) (fun _ => ?_) (fun zz => absurd (show hI h 35 14 = 0 from p1) zz)
        refine r_aload_n (q17 (i := 19) rfl) rfl ?_
        refine r_aload_n (q17 (i := 20) rfl) rfl ?_
        refine r_getI (x := nI s.1) (q17 (i := 21) rfl) rfl (by decide) (k_35 S) (fun _ _ _ => rfl) p2 ?_
        refine r_putI (q17 (i := 22) rfl) rfl (by decide) (k_35 S) rfl rfl ?_
        refine r_aload_n (q17 (i := 23) rfl) rfl ?_
        refine r_getR (b := 33) (q17 (i := 24) rfl) rfl (by decide) (k_35 S1) (fun _ _ _ => rfl) (r_35_0 S1) ?_
        refine r_aload_n (q17 (i := 25) rfl) rfl ?_
        refine r_getI (x := nI s.1) (q17 (i := 26) rfl) rfl (by decide) (k_35 S1) (fun _ _ _ => rfl) p2 ?_
        refine r_cV (d := _) (q17 (i := 27) rfl) rfl rfl rfl (k_33 S1) (Nat.le_of_ble_eq_true rfl) (Nat.zero_le _) (Nat.zero_le _) R1 ?_
        show Wp _ _ _ 56 [(0, .ref 35)] [.int (nI (cb B z s.1))] (sI h 35 17 (nI s.1)) _ _
        refine r_bipush (v := 48) (q17 (i := 28) rfl) (by decide) ?_
        refine r_icmp 65 (q17 (i := 29) rfl) (by decide) (fun _ => ?_) (fun zz => absurd (show ¬ nI (cb B z s.1) = 48 from neN (b := 48) (by omega) (by decide) g) zz)
        refine r_bipush (v := 9) (q17 (i := 32) rfl) (by decide) ?_
        refine r_istore_n (ls' := [(1, .int 9), (0, .ref 35)]) (q17 (i := 33) rfl) (Nat.le_of_ble_eq_true rfl) rfl ?_
        refine r_iconst (v := 0) (q17 (i := 34) rfl) (by decide) ?_
        refine r_istore_n (ls' := [(2, .int 0), (1, .int 9), (0, .ref 35)]) (q17 (i := 35) rfl) (Nat.le_of_ble_eq_true rfl) rfl ?_
        refine r_iconst (v := 0) (q17 (i := 36) rfl) (by decide) ?_
        refine r_istore_n (ls' := [(3, .int 0), (2, .int 0), (1, .int 9), (0, .ref 35)]) (q17 (i := 37) rfl) (Nat.le_of_ble_eq_true rfl) rfl ?_
        exact K9 _ rfl rfl rfl rfl
    · have e : (Except.ok s : pres).bind (Fnum B z) = .error (1, s.1) := if_neg q
      have e2 : numV B z (.ok s) = 0 := if_neg q
      rw [e, e2]
      rw [if_neg q] at R0
      refine ⟨sI (sI h 35 14 1) 35 15 (nI s.1), ?_, PS_err P (by decide) s.1, (FrE.w (by decide) _).tr (FrE.w (by decide) _), fun s' hs hd => by cases hs; exact absurd hd q⟩
      refine Run.of (Nat.le_of_ble_eq_true rfl) (fun Q hQ => ?_)
      show Wp (Ex (d + 2)) 17 Q 0 [(0, .ref 35)] [] h 0 0
      have R1 := sp_failIf1 (d := d) S 1 (nI s.1)
      rw [fail_ok P] at R1
      refine r_aload_n (q17 (i := 0) rfl) rfl ?_
      refine r_aload_n (q17 (i := 1) rfl) rfl ?_
      refine r_getR (b := 33) (q17 (i := 2) rfl) rfl (by decide) (k_35 S) (fun _ _ _ => rfl) (r_35_0 S) ?_
      refine r_aload_n (q17 (i := 3) rfl) rfl ?_
      refine r_getI (x := nI s.1) (q17 (i := 4) rfl) rfl (by decide) (k_35 S) (fun _ _ _ => rfl) p2 ?_
      refine r_cV (d := _) (q17 (i := 5) rfl) rfl rfl rfl (k_33 S) (Nat.le_of_ble_eq_true rfl) (Nat.zero_le _) (Nat.zero_le _) R0 ?_
      show Wp _ _ _ 12 [(0, .ref 35)] [.int 0, .ref 35] h _ _
      refine r_if 19 (q17 (i := 6) rfl) (by decide) (fun zz => absurd zz (show ¬ (¬ (0 : Int32) = 0) from by decide)) (fun _ => ?_)
      refine r_iconst (v := 1) (q17 (i := 7) rfl) (by decide) ?_
      refine r_goto 20 (q17 (i := 8) rfl) (by decide) ?_
      refine r_iconst (v := 1) (q17 (i := 10) rfl) (by decide) ?_
      refine r_aload_n (q17 (i := 11) rfl) rfl ?_
      refine r_getI (x := nI s.1) (q17 (i := 12) rfl) rfl (by decide) (k_35 S) (fun _ _ _ => rfl) p2 ?_
      refine r_cV (d := _) (q17 (i := 13) rfl) rfl rfl rfl (k_35 S) (Nat.le_of_ble_eq_true rfl) (Nat.zero_le _) (Nat.zero_le _) R1 ?_
      show Wp _ _ _ 28 [(0, .ref 35)] [] (sI (sI h 35 14 1) 35 15 (nI s.1)) _ _
      refine r_aload_n (q17 (i := 14) rfl) rfl ?_
      refine r_getI (x := 1) (q17 (i := 15) rfl) rfl (by decide) (k_35 S) (fun _ _ _ => rfl) rfl ?_
      refine r_if 37 (q17 (i := 16) rfl) (by decide) (fun zz => absurd zz (show ¬ ((1 : Int32) = 0) from by decide)) (fun _ => ?_)
      refine r_iconst (v := 0) (q17 (i := 17) rfl) (by decide) ?_
      exact r_iret (q17 (i := 18) rfl) rfl hQ
  | error e =>
    have R0 := sp_hasDigitAt (d := d) S t2 t3 (hI h 35 16)
    refine ⟨h, ?_, P, FrE.rf h, fun s' hs _ => by cases hs⟩
    refine Run.of (Nat.le_of_ble_eq_true rfl) (fun Q hQ => ?_)
    show Wp (Ex (d + 2)) 17 Q 0 [(0, .ref 35)] [] h 0 0
    have R1 := sp_failIf1 (d := d) S 1 (hI h 35 16)
    rw [fail_err P] at R1
    have R2 := sp_failIf0 (d := d + 1) (h := h) 1 (hI h 35 16)
    refine r_aload_n (q17 (i := 0) rfl) rfl ?_
    refine r_aload_n (q17 (i := 1) rfl) rfl ?_
    refine r_getR (b := 33) (q17 (i := 2) rfl) rfl (by decide) (k_35 S) (fun _ _ _ => rfl) (r_35_0 S) ?_
    refine r_aload_n (q17 (i := 3) rfl) rfl ?_
    refine r_getI (x := hI h 35 16) (q17 (i := 4) rfl) rfl (by decide) (k_35 S) (fun _ _ _ => rfl) rfl ?_
    refine r_cV (d := _) (q17 (i := 5) rfl) rfl rfl rfl (k_33 S) (Nat.le_of_ble_eq_true rfl) (Nat.zero_le _) (Nat.zero_le _) R0 ?_
    show Wp _ _ _ 12 [(0, .ref 35)] [.int (isDig (byAt (hI h 34) z (hI h 35 16))), .ref 35] h _ _
    refine r_if 19 (q17 (i := 6) rfl) (by decide) (fun c12 => ?_) (fun c12 => ?_)
    · have c12 : ¬ isDig (byAt (hI h 34) z (hI h 35 16)) = 0 := c12
      refine r_iconst (v := 0) (q17 (i := 9) rfl) (by decide) ?_
      refine r_iconst (v := 1) (q17 (i := 10) rfl) (by decide) ?_
      refine r_aload_n (q17 (i := 11) rfl) rfl ?_
      refine r_getI (x := hI h 35 16) (q17 (i := 12) rfl) rfl (by decide) (k_35 S) (fun _ _ _ => rfl) rfl ?_
      refine r_cV (d := _) (q17 (i := 13) rfl) rfl rfl rfl (k_35 S) (Nat.le_of_ble_eq_true rfl) (Nat.zero_le _) (Nat.zero_le _) R2 ?_
      show Wp _ _ _ 28 [(0, .ref 35)] [] h _ _
      refine r_aload_n (q17 (i := 14) rfl) rfl ?_
      refine r_getI (x := hI h 35 14) (q17 (i := 15) rfl) rfl (by decide) (k_35 S) (fun _ _ _ => rfl) rfl ?_
      refine r_if 37 (q17 (i := 16) rfl) (by decide) (fun zz => absurd zz (show ¬ (hI h 35 14 = 0) from err_ne P)) (fun _ => ?_)
      refine r_iconst (v := 0) (q17 (i := 17) rfl) (by decide) ?_
      exact r_iret (q17 (i := 18) rfl) rfl hQ
    · have c12 : ¬ (¬ isDig (byAt (hI h 34) z (hI h 35 16)) = 0) := c12
      refine r_iconst (v := 1) (q17 (i := 7) rfl) (by decide) ?_
      refine r_goto 20 (q17 (i := 8) rfl) (by decide) ?_
      refine r_iconst (v := 1) (q17 (i := 10) rfl) (by decide) ?_
      refine r_aload_n (q17 (i := 11) rfl) rfl ?_
      refine r_getI (x := hI h 35 16) (q17 (i := 12) rfl) rfl (by decide) (k_35 S) (fun _ _ _ => rfl) rfl ?_
      refine r_cV (d := _) (q17 (i := 13) rfl) rfl rfl rfl (k_35 S) (Nat.le_of_ble_eq_true rfl) (Nat.zero_le _) (Nat.zero_le _) R1 ?_
      show Wp _ _ _ 28 [(0, .ref 35)] [] h _ _
      refine r_aload_n (q17 (i := 14) rfl) rfl ?_
      refine r_getI (x := hI h 35 14) (q17 (i := 15) rfl) rfl (by decide) (k_35 S) (fun _ _ _ => rfl) rfl ?_
      refine r_if 37 (q17 (i := 16) rfl) (by decide) (fun zz => absurd zz (show ¬ (hI h 35 14 = 0) from err_ne P)) (fun _ => ?_)
      refine r_iconst (v := 0) (q17 (i := 17) rfl) (by decide) ?_
      exact r_iret (q17 (i := 18) rfl) rfl hQ
def Fdef (B : Nat → Int32) (z H j : Nat) (s : pst) : pres := if dg B z s.1 then (if (numP B z s.1).1 % 2 = 1 ∨ (numP B z s.1).1 < 2 ∨ H < (numP B z s.1).1 ∨ s.2.1 ((numP B z s.1).1 / 2) ≠ 0 then .error (3, s.1) else .ok ((numP B z s.1).2, u1 s.2.1 ((numP B z s.1).1 / 2) j, s.2.2)) else .error (1, s.1)
def Fuse (B : Nat → Int32) (z H : Nat) (s : pst) : pres := if dg B z s.1 then (if H < (numP B z s.1).1 then .error (4, s.1) else .ok ((numP B z s.1).2, s.2.1, (u1 s.2.2.1.1 s.2.2.1.2.2 (numP B z s.1).1, u1 s.2.2.1.2.1 s.2.2.1.2.2 s.1, s.2.2.1.2.2 + 1), s.2.2.2.1 || decide ((numP B z s.1).1 < 2), s.2.2.2.2)) else .error (1, s.1)
/-- what the lines change of the text -/
def FrX (h h' : hp) : Prop := h'.2 = h.2 ∧ (∀ k, k < 35 ∨ 41 < k → hI h' k = hI h k) ∧ ∀ j, j = 8 ∨ j = 9 ∨ j = 10 ∨ j = 12 → hI h' 35 j = hI h 35 j
theorem FrX.rf (h : hp) : FrX h h := ⟨rfl, fun _ _ => rfl, fun _ _ => rfl⟩
theorem FrX.tr {h h' h'' : hp} (a : FrX h h') (b : FrX h' h'') : FrX h h'' := ⟨b.1.trans a.1, fun k x => (b.2.1 k x).trans (a.2.1 k x), fun k x => (b.2.2 k x).trans (a.2.2 k x)⟩
theorem FrX.S {h h' : hp} (F : FrX h h') (S : Sh h) : Sh h' := S.to (by rw [F.1])
theorem FrX.T {h h' : hp} (F : FrX h h') {B : Nat → Int32} {z : Nat} (T : TC h B z) : TC h' B z := ⟨(F.2.1 34 (by decide)).trans T.1, by rw [F.2.1 33 (by decide)]; exact T.2.1, T.2.2⟩
theorem FrE.X {h h' : hp} (F : FrE h h') : FrX h h' := ⟨F.1, fun k x => F.2.1 k (by omega), fun j x => F.2.2 j (by omega)⟩
theorem FrX.w {h : hp} {a : Nat} (ha : 36 ≤ a ∧ a ≤ 41) (i : Nat) (v : Int32) : FrX h (sI h a i v) := ⟨rfl, fun k x => by
  show u2 h.1 a _ _ k = _
  rw [u2_n (by omega)], fun k x => by
  show u2 h.1 a _ _ 35 k = _
  rw [u2_n (by omega)]⟩
theorem FrX.w35 {h : hp} {j : Nat} (hj : j = 11 ∨ 13 ≤ j) (v : Int32) : FrX h (sI h 35 j v) := ⟨rfl, fun k x => by
  show u2 h.1 35 _ _ k = _
  rw [u2_n (by omega)], fun k x => by
  show u2 h.1 35 _ _ 35 k = _
  rw [u2_s, u1_n (by omega)]⟩
theorem PS_D {h : hp} {z : Nat} {s : pst} (P : PS h z (.ok s)) (v : Nat) {j : Nat} (hj : j ≤ 1000) : PS (sI h 38 v (nI j)) z (.ok (s.1, u1 s.2.1 v j, s.2.2)) := by
  refine ⟨P.1, fun k hk => ?_, P.2.2⟩
  show u1 (hI h 38) v (nI j) k = nI (u1 s.2.1 v j k) ∧ u1 s.2.1 v j k ≤ 1000
  by_cases q : k = v
  · rw [q, u1_s, u1_s]; exact ⟨rfl, hj⟩
  · rw [u1_n q, u1_n q]; exact P.2.1 k hk
theorem PS_U {h : hp} {z : Nat} {s : pst} (P : PS h z (.ok s)) {v p : Nat} (hv : v ≤ 2001) (hc : s.2.2.1.2.2 < 248) (b : Bool) : PS (sI (sI (sI (sI h 39 s.2.2.1.2.2 (nI v)) 40 s.2.2.1.2.2 (nI p)) 35 11 (nI (s.2.2.1.2.2 + 1))) 35 13 (if b then 1 else 0)) z (.ok (s.1, s.2.1, (u1 s.2.2.1.1 s.2.2.1.2.2 v, u1 s.2.2.1.2.1 s.2.2.1.2.2 p, s.2.2.1.2.2 + 1), b, s.2.2.2.2)) := by
  refine ⟨P.1, P.2.1, ⟨fun i hi => ?_, rfl, hc⟩, rfl, P.2.2.2.2⟩
  show u1 (hI h 39) s.2.2.1.2.2 (nI v) i = nI (u1 s.2.2.1.1 s.2.2.1.2.2 v i) ∧ u1 (hI h 40) s.2.2.1.2.2 (nI p) i = nI (u1 s.2.2.1.2.1 s.2.2.1.2.2 p i) ∧ u1 s.2.2.1.1 s.2.2.1.2.2 v i ≤ 2001
  by_cases q : i = s.2.2.1.2.2
  · rw [q, u1_s, u1_s, u1_s, u1_s]; exact ⟨rfl, rfl, hv⟩
  · rw [u1_n q, u1_n q, u1_n q, u1_n q]; exact P.2.2.1.1 i (by have : i < s.2.2.1.2.2 + 1 := hi; omega)
set_option maxHeartbeats 2000000 in
set_option maxRecDepth 10000 in
theorem sp_def {d : Nat} {h : hp} (S : Sh h) {B : Nat → Int32} {z : Nat} (T : TC h B z) {r : pres} (P : PS h z r) {H j : Nat} (h12 : hI h 35 12 = nI H) (hH : H ≤ 2001) (hj : j ≤ 1000) : ∃ h', Run (d + 3 + 1) 15 [.ref 35, .int (nI j)] h 0 0 none h' ∧ PS h' z (r.bind (Fdef B z H j)) ∧ FrX h h' := by
  obtain ⟨h1, R1, P1, F1, N1⟩ := sp_num (d := d) S T P
  have S1 := F1.S S
  have g12 : hI h1 35 12 = nI H := (F1.2.2 12 (by decide)).trans h12
  obtain ⟨v, ev⟩ : ∃ v, v = numV B z r := ⟨_, rfl⟩
  rw [← ev] at R1
  cases r with
  | error e =>
    have ev : v = 0 := ev
    subst ev
    refine ⟨h1, ?_, P1, F1.X⟩
    refine Run.of (Nat.le_of_ble_eq_true rfl) (fun Q hQ => ?_)
    show Wp (Ex (d + 3)) 15 Q 0 [(0, .ref 35), (1, .int (nI j))] [] h 0 0
    have R2 := sp_failIf1 (d := d + 1) S1 3 (hI h1 35 17)
    rw [fail_err P1] at R2
    refine r_aload_n (q15 (i := 0) rfl) rfl ?_
    refine r_cV (d := _) (q15 (i := 1) rfl) rfl rfl rfl (k_35 S) (Nat.le_of_ble_eq_true rfl) (Nat.zero_le _) (Nat.zero_le _) R1 ?_
    show Wp _ _ _ 4 [(0, .ref 35), (1, .int (nI j))] [.int (nI 0)] h1 _ _
    refine r_istore_n (ls' := [(2, .int (nI 0)), (0, .ref 35), (1, .int (nI j))]) (q15 (i := 2) rfl) (Nat.le_of_ble_eq_true rfl) rfl ?_
    refine r_iload_n (q15 (i := 3) rfl) rfl ?_
    refine r_iconst (v := 1) (q15 (i := 4) rfl) (by decide) ?_
    refine r_iand (q15 (i := 5) rfl) ?_
    rw [show ((nI 0) &&& 1 : Int32) = nI (0 % 2) from and1 (by omega)]
    refine r_if 24 (q15 (i := 6) rfl) (by decide) (fun zz => absurd zz (show ¬ (¬ nI (0 % 2) = 0) from fun y => y rfl)) (fun _ => ?_)
    refine r_iload_n (q15 (i := 7) rfl) rfl ?_
    refine r_iconst (v := 2) (q15 (i := 8) rfl) (by decide) ?_
    refine r_icmp 24 (q15 (i := 9) rfl) (by decide) (fun _ => ?_) (fun zz => absurd (show nI 0 < 2 from by decide) zz)
    refine r_iconst (v := 1) (q15 (i := 14) rfl) (by decide) ?_
    refine r_goto 29 (q15 (i := 15) rfl) (by decide) ?_
    refine r_istore_n (ls' := [(3, .int 1), (2, .int (nI 0)), (0, .ref 35), (1, .int (nI j))]) (q15 (i := 17) rfl) (Nat.le_of_ble_eq_true rfl) rfl ?_
    refine r_aload_n (q15 (i := 18) rfl) rfl ?_
    refine r_iload_n (q15 (i := 19) rfl) rfl ?_
    refine r_if 46 (q15 (i := 20) rfl) (by decide) (fun _ => ?_) (fun zz => absurd (show ¬ (1 : Int32) = 0 from by decide) zz)
    refine r_iconst (v := 1) (q15 (i := 28) rfl) (by decide) ?_
    refine r_goto 51 (q15 (i := 29) rfl) (by decide) ?_
    refine r_iconst (v := 3) (q15 (i := 31) rfl) (by decide) ?_
    refine r_aload_n (q15 (i := 32) rfl) rfl ?_
    refine r_getI (x := hI h1 35 17) (q15 (i := 33) rfl) rfl (by decide) (k_35 S1) (fun _ _ _ => rfl) rfl ?_
    refine r_cV (d := _) (q15 (i := 34) rfl) rfl rfl rfl (k_35 S1) (Nat.le_of_ble_eq_true rfl) (Nat.zero_le _) (Nat.zero_le _) R2 ?_
    show Wp _ _ _ 59 [(3, .int 1), (2, .int (nI 0)), (0, .ref 35), (1, .int (nI j))] [] h1 _ _
    refine r_aload_n (q15 (i := 35) rfl) rfl ?_
    refine r_getI (x := hI h1 35 14) (q15 (i := 36) rfl) rfl (by decide) (k_35 S1) (fun _ _ _ => rfl) rfl ?_
    refine r_if 75 (q15 (i := 37) rfl) (by decide) (fun _ => ?_) (fun zz => absurd (show ¬ hI h1 35 14 = 0 from err_ne P1) zz)
    exact r_vret (q15 (i := 45) rfl) rfl hQ
  | ok s =>
    by_cases q : dg B z s.1 = true
    · have e1 : (Except.ok s : pres).bind (Fnum B z) = .ok ((numP B z s.1).2, s.2) := if_pos q
      have e2 : v = (numP B z s.1).1 := ev.trans (if_pos q)
      have e3 : (Except.ok s : pres).bind (Fdef B z H j) = if v % 2 = 1 ∨ v < 2 ∨ H < v ∨ s.2.1 (v / 2) ≠ 0 then .error (3, s.1) else .ok ((numP B z s.1).2, u1 s.2.1 (v / 2) j, s.2.2) := by rw [e2]; exact if_pos q
      have n17 := N1 s rfl q
      have hv9 : v < 1000000000 := by rw [e2]; exact (numP_le B z P.1.2.2).2.2
      rw [e1] at P1
      rw [e3]
      by_cases g : v % 2 = 1 ∨ v < 2 ∨ H < v ∨ s.2.1 (v / 2) ≠ 0
      · rw [if_pos g]
        refine ⟨sI (sI h1 35 14 3) 35 15 (nI s.1), ?_, PS_err P1 (by decide) s.1, F1.X.tr ((FrE.w (by decide) _).tr (FrE.w (by decide) _)).X⟩
        refine Run.of (Nat.le_of_ble_eq_true rfl) (fun Q hQ => ?_)
        show Wp (Ex (d + 3)) 15 Q 0 [(0, .ref 35), (1, .int (nI j))] [] h 0 0
        have R2 := sp_failIf1 (d := d + 1) S1 3 (nI s.1)
        rw [fail_ok P1] at R2
        have S2 := ((FrE.w (h := h1) (j := 14) (by decide) (3 : Int32)).tr (FrE.w (j := 15) (by decide) (nI s.1))).S S1
        by_cases g1 : v % 2 = 1
        · refine r_aload_n (q15 (i := 0) rfl) rfl ?_
          refine r_cV (d := _) (q15 (i := 1) rfl) rfl rfl rfl (k_35 S) (Nat.le_of_ble_eq_true rfl) (Nat.zero_le _) (Nat.zero_le _) R1 ?_
          show Wp _ _ _ 4 [(0, .ref 35), (1, .int (nI j))] [.int (nI v)] h1 _ _
          refine r_istore_n (ls' := [(2, .int (nI v)), (0, .ref 35), (1, .int (nI j))]) (q15 (i := 2) rfl) (Nat.le_of_ble_eq_true rfl) rfl ?_
          refine r_iload_n (q15 (i := 3) rfl) rfl ?_
          refine r_iconst (v := 1) (q15 (i := 4) rfl) (by decide) ?_
          refine r_iand (q15 (i := 5) rfl) ?_
          rw [show ((nI v) &&& 1 : Int32) = nI (v % 2) from and1 (by omega)]
          refine r_if 24 (q15 (i := 6) rfl) (by decide) (fun _ => ?_) (fun zz => absurd (show ¬ nI (v % 2) = 0 from nI_ne0 (by omega) (by omega)) zz)
          refine r_iconst (v := 1) (q15 (i := 14) rfl) (by decide) ?_
          refine r_goto 29 (q15 (i := 15) rfl) (by decide) ?_
          refine r_istore_n (ls' := [(3, .int 1), (2, .int (nI v)), (0, .ref 35), (1, .int (nI j))]) (q15 (i := 17) rfl) (Nat.le_of_ble_eq_true rfl) rfl ?_
          refine r_aload_n (q15 (i := 18) rfl) rfl ?_
          refine r_iload_n (q15 (i := 19) rfl) rfl ?_
          refine r_if 46 (q15 (i := 20) rfl) (by decide) (fun _ => ?_) (fun zz => absurd (show ¬ (1 : Int32) = 0 from by decide) zz)
          refine r_iconst (v := 1) (q15 (i := 28) rfl) (by decide) ?_
          refine r_goto 51 (q15 (i := 29) rfl) (by decide) ?_
          refine r_iconst (v := 3) (q15 (i := 31) rfl) (by decide) ?_
          refine r_aload_n (q15 (i := 32) rfl) rfl ?_
          refine r_getI (x := nI s.1) (q15 (i := 33) rfl) rfl (by decide) (k_35 S1) (fun _ _ _ => rfl) n17 ?_
          refine r_cV (d := _) (q15 (i := 34) rfl) rfl rfl rfl (k_35 S1) (Nat.le_of_ble_eq_true rfl) (Nat.zero_le _) (Nat.zero_le _) R2 ?_
          show Wp _ _ _ 59 [(3, .int 1), (2, .int (nI v)), (0, .ref 35), (1, .int (nI j))] [] (sI (sI h1 35 14 3) 35 15 (nI s.1)) _ _
          refine r_aload_n (q15 (i := 35) rfl) rfl ?_
          refine r_getI (x := 3) (q15 (i := 36) rfl) rfl (by decide) (k_35 S2) (fun _ _ _ => rfl) rfl ?_
          refine r_if 75 (q15 (i := 37) rfl) (by decide) (fun _ => ?_) (fun zz => absurd (show ¬ (3 : Int32) = 0 from by decide) zz)
          exact r_vret (q15 (i := 45) rfl) rfl hQ
        by_cases g2 : v < 2
        · refine r_aload_n (q15 (i := 0) rfl) rfl ?_
          refine r_cV (d := _) (q15 (i := 1) rfl) rfl rfl rfl (k_35 S) (Nat.le_of_ble_eq_true rfl) (Nat.zero_le _) (Nat.zero_le _) R1 ?_
          show Wp _ _ _ 4 [(0, .ref 35), (1, .int (nI j))] [.int (nI v)] h1 _ _
          refine r_istore_n (ls' := [(2, .int (nI v)), (0, .ref 35), (1, .int (nI j))]) (q15 (i := 2) rfl) (Nat.le_of_ble_eq_true rfl) rfl ?_
          refine r_iload_n (q15 (i := 3) rfl) rfl ?_
          refine r_iconst (v := 1) (q15 (i := 4) rfl) (by decide) ?_
          refine r_iand (q15 (i := 5) rfl) ?_
          rw [show ((nI v) &&& 1 : Int32) = nI (v % 2) from and1 (by omega)]
          refine r_if 24 (q15 (i := 6) rfl) (by decide) (fun zz => absurd zz (show ¬ (¬ nI (v % 2) = 0) from fun y => y (congrArg nI (show v % 2 = 0 by omega)))) (fun _ => ?_)
          refine r_iload_n (q15 (i := 7) rfl) rfl ?_
          refine r_iconst (v := 2) (q15 (i := 8) rfl) (by decide) ?_
          refine r_icmp 24 (q15 (i := 9) rfl) (by decide) (fun _ => ?_) (fun zz => absurd (show nI v < 2 from nI_lt (b := 2) g2 (by decide)) zz)
          refine r_iconst (v := 1) (q15 (i := 14) rfl) (by decide) ?_
          refine r_goto 29 (q15 (i := 15) rfl) (by decide) ?_
          refine r_istore_n (ls' := [(3, .int 1), (2, .int (nI v)), (0, .ref 35), (1, .int (nI j))]) (q15 (i := 17) rfl) (Nat.le_of_ble_eq_true rfl) rfl ?_
          refine r_aload_n (q15 (i := 18) rfl) rfl ?_
          refine r_iload_n (q15 (i := 19) rfl) rfl ?_
          refine r_if 46 (q15 (i := 20) rfl) (by decide) (fun _ => ?_) (fun zz => absurd (show ¬ (1 : Int32) = 0 from by decide) zz)
          refine r_iconst (v := 1) (q15 (i := 28) rfl) (by decide) ?_
          refine r_goto 51 (q15 (i := 29) rfl) (by decide) ?_
          refine r_iconst (v := 3) (q15 (i := 31) rfl) (by decide) ?_
          refine r_aload_n (q15 (i := 32) rfl) rfl ?_
          refine r_getI (x := nI s.1) (q15 (i := 33) rfl) rfl (by decide) (k_35 S1) (fun _ _ _ => rfl) n17 ?_
          refine r_cV (d := _) (q15 (i := 34) rfl) rfl rfl rfl (k_35 S1) (Nat.le_of_ble_eq_true rfl) (Nat.zero_le _) (Nat.zero_le _) R2 ?_
          show Wp _ _ _ 59 [(3, .int 1), (2, .int (nI v)), (0, .ref 35), (1, .int (nI j))] [] (sI (sI h1 35 14 3) 35 15 (nI s.1)) _ _
          refine r_aload_n (q15 (i := 35) rfl) rfl ?_
          refine r_getI (x := 3) (q15 (i := 36) rfl) rfl (by decide) (k_35 S2) (fun _ _ _ => rfl) rfl ?_
          refine r_if 75 (q15 (i := 37) rfl) (by decide) (fun _ => ?_) (fun zz => absurd (show ¬ (3 : Int32) = 0 from by decide) zz)
          exact r_vret (q15 (i := 45) rfl) rfl hQ
        by_cases g3 : H < v
        · refine r_aload_n (q15 (i := 0) rfl) rfl ?_
          refine r_cV (d := _) (q15 (i := 1) rfl) rfl rfl rfl (k_35 S) (Nat.le_of_ble_eq_true rfl) (Nat.zero_le _) (Nat.zero_le _) R1 ?_
          show Wp _ _ _ 4 [(0, .ref 35), (1, .int (nI j))] [.int (nI v)] h1 _ _
          refine r_istore_n (ls' := [(2, .int (nI v)), (0, .ref 35), (1, .int (nI j))]) (q15 (i := 2) rfl) (Nat.le_of_ble_eq_true rfl) rfl ?_
          refine r_iload_n (q15 (i := 3) rfl) rfl ?_
          refine r_iconst (v := 1) (q15 (i := 4) rfl) (by decide) ?_
          refine r_iand (q15 (i := 5) rfl) ?_
          rw [show ((nI v) &&& 1 : Int32) = nI (v % 2) from and1 (by omega)]
          refine r_if 24 (q15 (i := 6) rfl) (by decide) (fun zz => absurd zz (show ¬ (¬ nI (v % 2) = 0) from fun y => y (congrArg nI (show v % 2 = 0 by omega)))) (fun _ => ?_)
          refine r_iload_n (q15 (i := 7) rfl) rfl ?_
          refine r_iconst (v := 2) (q15 (i := 8) rfl) (by decide) ?_
          refine r_icmp 24 (q15 (i := 9) rfl) (by decide) (fun zz => absurd zz (show ¬ (nI v < 2) from nI_nlt (b := 2) (by omega) (by omega))) (fun _ => ?_)
          refine r_iload_n (q15 (i := 10) rfl) rfl ?_
          refine r_aload_n (q15 (i := 11) rfl) rfl ?_
          refine r_getI (x := nI H) (q15 (i := 12) rfl) rfl (by decide) (k_35 S1) (fun _ _ _ => rfl) g12 ?_
          refine r_icmp 28 (q15 (i := 13) rfl) (by decide) (fun zz => absurd zz (show ¬ (nI v ≤ nI H) from nI_ge g3 (by omega))) (fun _ => ?_)
          refine r_iconst (v := 1) (q15 (i := 14) rfl) (by decide) ?_
          refine r_goto 29 (q15 (i := 15) rfl) (by decide) ?_
          refine r_istore_n (ls' := [(3, .int 1), (2, .int (nI v)), (0, .ref 35), (1, .int (nI j))]) (q15 (i := 17) rfl) (Nat.le_of_ble_eq_true rfl) rfl ?_
          refine r_aload_n (q15 (i := 18) rfl) rfl ?_
          refine r_iload_n (q15 (i := 19) rfl) rfl ?_
          refine r_if 46 (q15 (i := 20) rfl) (by decide) (fun _ => ?_) (fun zz => absurd (show ¬ (1 : Int32) = 0 from by decide) zz)
          refine r_iconst (v := 1) (q15 (i := 28) rfl) (by decide) ?_
          refine r_goto 51 (q15 (i := 29) rfl) (by decide) ?_
          refine r_iconst (v := 3) (q15 (i := 31) rfl) (by decide) ?_
          refine r_aload_n (q15 (i := 32) rfl) rfl ?_
          refine r_getI (x := nI s.1) (q15 (i := 33) rfl) rfl (by decide) (k_35 S1) (fun _ _ _ => rfl) n17 ?_
          refine r_cV (d := _) (q15 (i := 34) rfl) rfl rfl rfl (k_35 S1) (Nat.le_of_ble_eq_true rfl) (Nat.zero_le _) (Nat.zero_le _) R2 ?_
          show Wp _ _ _ 59 [(3, .int 1), (2, .int (nI v)), (0, .ref 35), (1, .int (nI j))] [] (sI (sI h1 35 14 3) 35 15 (nI s.1)) _ _
          refine r_aload_n (q15 (i := 35) rfl) rfl ?_
          refine r_getI (x := 3) (q15 (i := 36) rfl) rfl (by decide) (k_35 S2) (fun _ _ _ => rfl) rfl ?_
          refine r_if 75 (q15 (i := 37) rfl) (by decide) (fun _ => ?_) (fun zz => absurd (show ¬ (3 : Int32) = 0 from by decide) zz)
          exact r_vret (q15 (i := 45) rfl) rfl hQ
        · have g4 : s.2.1 (v / 2) ≠ 0 := by omega
          obtain ⟨x1, x2⟩ := P1.2.1 (v / 2) (by omega)
          have x2 : s.2.1 (v / 2) ≤ 1000 := x2
          refine r_aload_n (q15 (i := 0) rfl) rfl ?_
          refine r_cV (d := _) (q15 (i := 1) rfl) rfl rfl rfl (k_35 S) (Nat.le_of_ble_eq_true rfl) (Nat.zero_le _) (Nat.zero_le _) R1 ?_
          show Wp _ _ _ 4 [(0, .ref 35), (1, .int (nI j))] [.int (nI v)] h1 _ _
          refine r_istore_n (ls' := [(2, .int (nI v)), (0, .ref 35), (1, .int (nI j))]) (q15 (i := 2) rfl) (Nat.le_of_ble_eq_true rfl) rfl ?_
          refine r_iload_n (q15 (i := 3) rfl) rfl ?_
          refine r_iconst (v := 1) (q15 (i := 4) rfl) (by decide) ?_
          refine r_iand (q15 (i := 5) rfl) ?_
          rw [show ((nI v) &&& 1 : Int32) = nI (v % 2) from and1 (by omega)]
          refine r_if 24 (q15 (i := 6) rfl) (by decide) (fun zz => absurd zz (show ¬ (¬ nI (v % 2) = 0) from fun y => y (congrArg nI (show v % 2 = 0 by omega)))) (fun _ => ?_)
          refine r_iload_n (q15 (i := 7) rfl) rfl ?_
          refine r_iconst (v := 2) (q15 (i := 8) rfl) (by decide) ?_
          refine r_icmp 24 (q15 (i := 9) rfl) (by decide) (fun zz => absurd zz (show ¬ (nI v < 2) from nI_nlt (b := 2) (by omega) (by omega))) (fun _ => ?_)
          refine r_iload_n (q15 (i := 10) rfl) rfl ?_
          refine r_aload_n (q15 (i := 11) rfl) rfl ?_
          refine r_getI (x := nI H) (q15 (i := 12) rfl) rfl (by decide) (k_35 S1) (fun _ _ _ => rfl) g12 ?_
          refine r_icmp 28 (q15 (i := 13) rfl) (by decide) (fun _ => ?_) (fun zz => absurd (show nI v ≤ nI H from nI_le (by omega) (by omega)) zz)
          refine r_iconst (v := 0) (q15 (i := 16) rfl) (by decide) ?_
          refine r_istore_n (ls' := [(3, .int 0), (2, .int (nI v)), (0, .ref 35), (1, .int (nI j))]) (q15 (i := 17) rfl) (Nat.le_of_ble_eq_true rfl) rfl ?_
          refine r_aload_n (q15 (i := 18) rfl) rfl ?_
          refine r_iload_n (q15 (i := 19) rfl) rfl ?_
          refine r_if 46 (q15 (i := 20) rfl) (by decide) (fun zz => absurd zz (show ¬ (¬ (0 : Int32) = 0) from by decide)) (fun _ => ?_)
          refine r_aload_n (q15 (i := 21) rfl) rfl ?_
          refine r_getR (b := 38) (q15 (i := 22) rfl) rfl (by decide) (k_35 S1) (fun _ _ _ => rfl) (r_35_3 S1) ?_
          refine r_iload_n (q15 (i := 23) rfl) rfl ?_
          refine r_iconst (v := 1) (q15 (i := 24) rfl) (by decide) ?_
          refine r_ishr (q15 (i := 25) rfl) ?_
          rw [show ((nI v) >>> (1 &&& 31) : Int32) = nI (v / 2) from shr1 (by omega)]
          refine r_iaN (x := nI (s.2.1 (v / 2))) (q15 (i := 26) rfl) (k_38 S1) (by omega) (by decide) x1 ?_
          refine r_if 50 (q15 (i := 27) rfl) (by decide) (fun zz => absurd zz (show ¬ (nI (s.2.1 (v / 2)) = 0) from nI_ne0 (by omega) (by omega))) (fun _ => ?_)
          refine r_iconst (v := 1) (q15 (i := 28) rfl) (by decide) ?_
          refine r_goto 51 (q15 (i := 29) rfl) (by decide) ?_
          refine r_iconst (v := 3) (q15 (i := 31) rfl) (by decide) ?_
          refine r_aload_n (q15 (i := 32) rfl) rfl ?_
          refine r_getI (x := nI s.1) (q15 (i := 33) rfl) rfl (by decide) (k_35 S1) (fun _ _ _ => rfl) n17 ?_
          refine r_cV (d := _) (q15 (i := 34) rfl) rfl rfl rfl (k_35 S1) (Nat.le_of_ble_eq_true rfl) (Nat.zero_le _) (Nat.zero_le _) R2 ?_
          show Wp _ _ _ 59 [(3, .int 0), (2, .int (nI v)), (0, .ref 35), (1, .int (nI j))] [] (sI (sI h1 35 14 3) 35 15 (nI s.1)) _ _
          refine r_aload_n (q15 (i := 35) rfl) rfl ?_
          refine r_getI (x := 3) (q15 (i := 36) rfl) rfl (by decide) (k_35 S2) (fun _ _ _ => rfl) rfl ?_
          refine r_if 75 (q15 (i := 37) rfl) (by decide) (fun _ => ?_) (fun zz => absurd (show ¬ (3 : Int32) = 0 from by decide) zz)
          exact r_vret (q15 (i := 45) rfl) rfl hQ
      · rw [if_neg g]
        have g1 : v % 2 ≠ 1 := by omega
        have g2 : ¬ v < 2 := by omega
        have g3 : ¬ H < v := by omega
        have g4 : s.2.1 (v / 2) = 0 := by omega
        obtain ⟨x1, x2⟩ := P1.2.1 (v / 2) (by omega)
        rw [g4] at x1
        refine ⟨sI h1 38 (v / 2) (nI j), ?_, PS_D P1 (v / 2) hj, F1.X.tr (FrX.w (by decide) _ _)⟩
        refine Run.of (Nat.le_of_ble_eq_true rfl) (fun Q hQ => ?_)
        show Wp (Ex (d + 3)) 15 Q 0 [(0, .ref 35), (1, .int (nI j))] [] h 0 0
        have f0 := P1.1.1
        refine r_aload_n (q15 (i := 0) rfl) rfl ?_
        refine r_cV (d := _) (q15 (i := 1) rfl) rfl rfl rfl (k_35 S) (Nat.le_of_ble_eq_true rfl) (Nat.zero_le _) (Nat.zero_le _) R1 ?_
        show Wp _ _ _ 4 [(0, .ref 35), (1, .int (nI j))] [.int (nI v)] h1 _ _
        refine r_istore_n (ls' := [(2, .int (nI v)), (0, .ref 35), (1, .int (nI j))]) (q15 (i := 2) rfl) (Nat.le_of_ble_eq_true rfl) rfl ?_
        refine r_iload_n (q15 (i := 3) rfl) rfl ?_
        refine r_iconst (v := 1) (q15 (i := 4) rfl) (by decide) ?_
        refine r_iand (q15 (i := 5) rfl) ?_
        rw [show ((nI v) &&& 1 : Int32) = nI (v % 2) from and1 (by omega)]
        refine r_if 24 (q15 (i := 6) rfl) (by decide) (fun zz => absurd zz (show ¬ (¬ nI (v % 2) = 0) from fun y => y (congrArg nI (show v % 2 = 0 by omega)))) (fun _ => ?_)
        refine r_iload_n (q15 (i := 7) rfl) rfl ?_
        refine r_iconst (v := 2) (q15 (i := 8) rfl) (by decide) ?_
        refine r_icmp 24 (q15 (i := 9) rfl) (by decide) (fun zz => absurd zz (show ¬ (nI v < 2) from nI_nlt (b := 2) (by omega) (by omega))) (fun _ => ?_)
        refine r_iload_n (q15 (i := 10) rfl) rfl ?_
        refine r_aload_n (q15 (i := 11) rfl) rfl ?_
        refine r_getI (x := nI H) (q15 (i := 12) rfl) rfl (by decide) (k_35 S1) (fun _ _ _ => rfl) g12 ?_
        refine r_icmp 28 (q15 (i := 13) rfl) (by decide) (fun _ => ?_) (fun zz => absurd (show nI v ≤ nI H from nI_le (by omega) (by omega)) zz)
        refine r_iconst (v := 0) (q15 (i := 16) rfl) (by decide) ?_
        refine r_istore_n (ls' := [(3, .int 0), (2, .int (nI v)), (0, .ref 35), (1, .int (nI j))]) (q15 (i := 17) rfl) (Nat.le_of_ble_eq_true rfl) rfl ?_
        refine r_aload_n (q15 (i := 18) rfl) rfl ?_
        refine r_iload_n (q15 (i := 19) rfl) rfl ?_
        refine r_if 46 (q15 (i := 20) rfl) (by decide) (fun zz => absurd zz (show ¬ (¬ (0 : Int32) = 0) from by decide)) (fun _ => ?_)
        refine r_aload_n (q15 (i := 21) rfl) rfl ?_
        refine r_getR (b := 38) (q15 (i := 22) rfl) rfl (by decide) (k_35 S1) (fun _ _ _ => rfl) (r_35_3 S1) ?_
        refine r_iload_n (q15 (i := 23) rfl) rfl ?_
        refine r_iconst (v := 1) (q15 (i := 24) rfl) (by decide) ?_
        refine r_ishr (q15 (i := 25) rfl) ?_
        rw [show ((nI v) >>> (1 &&& 31) : Int32) = nI (v / 2) from shr1 (by omega)]
        refine r_iaN (x := 0) (q15 (i := 26) rfl) (k_38 S1) (by omega) (by decide) x1 ?_
        refine r_if 50 (q15 (i := 27) rfl) (by decide) (fun _ => ?_) (fun zz => absurd (show (0 : Int32) = 0 from by decide) zz)
        refine r_iconst (v := 0) (q15 (i := 30) rfl) (by decide) ?_
        refine r_iconst (v := 3) (q15 (i := 31) rfl) (by decide) ?_
        refine r_aload_n (q15 (i := 32) rfl) rfl ?_
        refine r_getI (x := nI s.1) (q15 (i := 33) rfl) rfl (by decide) (k_35 S1) (fun _ _ _ => rfl) n17 ?_
        refine r_cV (d := _) (q15 (i := 34) rfl) rfl rfl rfl (k_35 S1) (Nat.le_of_ble_eq_true rfl) (Nat.zero_le _) (Nat.zero_le _) (sp_failIf0 (d := d + 2) _ _) ?_
        show Wp _ _ _ 59 [(3, .int 0), (2, .int (nI v)), (0, .ref 35), (1, .int (nI j))] [] h1 _ _
        refine r_aload_n (q15 (i := 35) rfl) rfl ?_
        refine r_getI (x := hI h1 35 14) (q15 (i := 36) rfl) rfl (by decide) (k_35 S1) (fun _ _ _ => rfl) rfl ?_
        refine r_if 75 (q15 (i := 37) rfl) (by decide) (fun zz => absurd zz (show ¬ (¬ hI h1 35 14 = 0) from fun y => y f0)) (fun _ => ?_)
        refine r_aload_n (q15 (i := 38) rfl) rfl ?_
        refine r_getR (b := 38) (q15 (i := 39) rfl) rfl (by decide) (k_35 S1) (fun _ _ _ => rfl) (r_35_3 S1) ?_
        refine r_iload_n (q15 (i := 40) rfl) rfl ?_
        refine r_iconst (v := 1) (q15 (i := 41) rfl) (by decide) ?_
        refine r_ishr (q15 (i := 42) rfl) ?_
        rw [show ((nI v) >>> (1 &&& 31) : Int32) = nI (v / 2) from shr1 (by omega)]
        refine r_iload_n (q15 (i := 43) rfl) rfl ?_
        refine r_iasN (q15 (i := 44) rfl) (k_38 S1) (by omega) (by decide) ?_
        exact r_vret (q15 (i := 45) rfl) rfl hQ
    · have e1 : (Except.ok s : pres).bind (Fnum B z) = .error (1, s.1) := if_neg q
      have e3 : (Except.ok s : pres).bind (Fdef B z H j) = .error (1, s.1) := if_neg q
      have ev : v = 0 := ev.trans (if_neg q)
      rw [e3]
      rw [e1] at P1
      subst ev
      refine ⟨h1, ?_, P1, F1.X⟩
      refine Run.of (Nat.le_of_ble_eq_true rfl) (fun Q hQ => ?_)
      show Wp (Ex (d + 3)) 15 Q 0 [(0, .ref 35), (1, .int (nI j))] [] h 0 0
      have R2 := sp_failIf1 (d := d + 1) S1 3 (hI h1 35 17)
      rw [fail_err P1] at R2
      refine r_aload_n (q15 (i := 0) rfl) rfl ?_
      refine r_cV (d := _) (q15 (i := 1) rfl) rfl rfl rfl (k_35 S) (Nat.le_of_ble_eq_true rfl) (Nat.zero_le _) (Nat.zero_le _) R1 ?_
      show Wp _ _ _ 4 [(0, .ref 35), (1, .int (nI j))] [.int (nI 0)] h1 _ _
      refine r_istore_n (ls' := [(2, .int (nI 0)), (0, .ref 35), (1, .int (nI j))]) (q15 (i := 2) rfl) (Nat.le_of_ble_eq_true rfl) rfl ?_
      refine r_iload_n (q15 (i := 3) rfl) rfl ?_
      refine r_iconst (v := 1) (q15 (i := 4) rfl) (by decide) ?_
      refine r_iand (q15 (i := 5) rfl) ?_
      rw [show ((nI 0) &&& 1 : Int32) = nI (0 % 2) from and1 (by omega)]
      refine r_if 24 (q15 (i := 6) rfl) (by decide) (fun zz => absurd zz (show ¬ (¬ nI (0 % 2) = 0) from fun y => y rfl)) (fun _ => ?_)
      refine r_iload_n (q15 (i := 7) rfl) rfl ?_
      refine r_iconst (v := 2) (q15 (i := 8) rfl) (by decide) ?_
      refine r_icmp 24 (q15 (i := 9) rfl) (by decide) (fun _ => ?_) (fun zz => absurd (show nI 0 < 2 from by decide) zz)
      refine r_iconst (v := 1) (q15 (i := 14) rfl) (by decide) ?_
      refine r_goto 29 (q15 (i := 15) rfl) (by decide) ?_
      refine r_istore_n (ls' := [(3, .int 1), (2, .int (nI 0)), (0, .ref 35), (1, .int (nI j))]) (q15 (i := 17) rfl) (Nat.le_of_ble_eq_true rfl) rfl ?_
      refine r_aload_n (q15 (i := 18) rfl) rfl ?_
      refine r_iload_n (q15 (i := 19) rfl) rfl ?_
      refine r_if 46 (q15 (i := 20) rfl) (by decide) (fun _ => ?_) (fun zz => absurd (show ¬ (1 : Int32) = 0 from by decide) zz)
      refine r_iconst (v := 1) (q15 (i := 28) rfl) (by decide) ?_
      refine r_goto 51 (q15 (i := 29) rfl) (by decide) ?_
      refine r_iconst (v := 3) (q15 (i := 31) rfl) (by decide) ?_
      refine r_aload_n (q15 (i := 32) rfl) rfl ?_
      refine r_getI (x := hI h1 35 17) (q15 (i := 33) rfl) rfl (by decide) (k_35 S1) (fun _ _ _ => rfl) rfl ?_
      refine r_cV (d := _) (q15 (i := 34) rfl) rfl rfl rfl (k_35 S1) (Nat.le_of_ble_eq_true rfl) (Nat.zero_le _) (Nat.zero_le _) R2 ?_
      show Wp _ _ _ 59 [(3, .int 1), (2, .int (nI 0)), (0, .ref 35), (1, .int (nI j))] [] h1 _ _
      refine r_aload_n (q15 (i := 35) rfl) rfl ?_
      refine r_getI (x := hI h1 35 14) (q15 (i := 36) rfl) rfl (by decide) (k_35 S1) (fun _ _ _ => rfl) rfl ?_
      refine r_if 75 (q15 (i := 37) rfl) (by decide) (fun _ => ?_) (fun zz => absurd (show ¬ hI h1 35 14 = 0 from err_ne P1) zz)
      exact r_vret (q15 (i := 45) rfl) rfl hQ
set_option maxHeartbeats 2000000 in
set_option maxRecDepth 10000 in
theorem sp_use {d : Nat} {h : hp} (S : Sh h) {B : Nat → Int32} {z : Nat} (T : TC h B z) {r : pres} (P : PS h z r) {H : Nat} (h12 : hI h 35 12 = nI H) (hH : H ≤ 2001) (hu : ∀ s, r = .ok s → s.2.2.1.2.2 < 248) : ∃ h', Run (d + 3 + 1) 16 [.ref 35] h 0 0 none h' ∧ PS h' z (r.bind (Fuse B z H)) ∧ FrX h h' := by
  obtain ⟨h1, R1, P1, F1, N1⟩ := sp_num (d := d) S T P
  have S1 := F1.S S
  have g12 : hI h1 35 12 = nI H := (F1.2.2 12 (by decide)).trans h12
  obtain ⟨v, ev⟩ : ∃ v, v = numV B z r := ⟨_, rfl⟩
  rw [← ev] at R1
  cases r with
  | error e =>
    have ev : v = 0 := ev
    subst ev
    refine ⟨h1, ?_, P1, F1.X⟩
    refine Run.of (Nat.le_of_ble_eq_true rfl) (fun Q hQ => ?_)
    show Wp (Ex (d + 3)) 16 Q 0 [(0, .ref 35)] [] h 0 0
    have R2 := sp_failIf0 (d := d + 2) (h := h1) 4 (hI h1 35 17)
    refine r_aload_n (q16 (i := 0) rfl) rfl ?_
    refine r_cV (d := _) (q16 (i := 1) rfl) rfl rfl rfl (k_35 S) (Nat.le_of_ble_eq_true rfl) (Nat.zero_le _) (Nat.zero_le _) R1 ?_
    show Wp _ _ _ 4 [(0, .ref 35)] [.int (nI 0)] h1 _ _
    refine r_istore_n (ls' := [(1, .int (nI 0)), (0, .ref 35)]) (q16 (i := 2) rfl) (Nat.le_of_ble_eq_true rfl) rfl ?_
    refine r_aload_n (q16 (i := 3) rfl) rfl ?_
    refine r_iload_n (q16 (i := 4) rfl) rfl ?_
    refine r_aload_n (q16 (i := 5) rfl) rfl ?_
    refine r_getI (x := nI H) (q16 (i := 6) rfl) rfl (by decide) (k_35 S1) (fun _ _ _ => rfl) g12 ?_
    refine r_icmp 18 (q16 (i := 7) rfl) (by decide) (fun _ => ?_) (fun zz => absurd (show nI 0 ≤ nI H from nI_le (by omega) (by omega)) zz)
    refine r_iconst (v := 0) (q16 (i := 10) rfl) (by decide) ?_
    refine r_iconst (v := 4) (q16 (i := 11) rfl) (by decide) ?_
    refine r_aload_n (q16 (i := 12) rfl) rfl ?_
    refine r_getI (x := hI h1 35 17) (q16 (i := 13) rfl) rfl (by decide) (k_35 S1) (fun _ _ _ => rfl) rfl ?_
    refine r_cV (d := _) (q16 (i := 14) rfl) rfl rfl rfl (k_35 S1) (Nat.le_of_ble_eq_true rfl) (Nat.zero_le _) (Nat.zero_le _) R2 ?_
    show Wp _ _ _ 27 [(1, .int (nI 0)), (0, .ref 35)] [] h1 _ _
    refine r_aload_n (q16 (i := 15) rfl) rfl ?_
    refine r_getI (x := hI h1 35 14) (q16 (i := 16) rfl) rfl (by decide) (k_35 S1) (fun _ _ _ => rfl) rfl ?_
    refine r_if 98 (q16 (i := 17) rfl) (by decide) (fun _ => ?_) (fun zz => absurd (show ¬ hI h1 35 14 = 0 from err_ne P1) zz)
    exact r_vret (q16 (i := 52) rfl) rfl hQ
  | ok s =>
    by_cases q : dg B z s.1 = true
    · have e1 : (Except.ok s : pres).bind (Fnum B z) = .ok ((numP B z s.1).2, s.2) := if_pos q
      have e2 : v = (numP B z s.1).1 := ev.trans (if_pos q)
      have e3 : (Except.ok s : pres).bind (Fuse B z H) = if H < v then .error (4, s.1) else .ok ((numP B z s.1).2, s.2.1, (u1 s.2.2.1.1 s.2.2.1.2.2 v, u1 s.2.2.1.2.1 s.2.2.1.2.2 s.1, s.2.2.1.2.2 + 1), s.2.2.2.1 || decide (v < 2), s.2.2.2.2) := by rw [e2]; exact if_pos q
      have n17 := N1 s rfl q
      have hv9 : v < 1000000000 := by rw [e2]; exact (numP_le B z P.1.2.2).2.2
      rw [e1] at P1
      rw [e3]
      by_cases g : H < v
      · rw [if_pos g]
        refine ⟨sI (sI h1 35 14 4) 35 15 (nI s.1), ?_, PS_err P1 (by decide) s.1, F1.X.tr ((FrE.w (by decide) _).tr (FrE.w (by decide) _)).X⟩
        refine Run.of (Nat.le_of_ble_eq_true rfl) (fun Q hQ => ?_)
        show Wp (Ex (d + 3)) 16 Q 0 [(0, .ref 35)] [] h 0 0
        have R2 := sp_failIf1 (d := d + 1) S1 4 (nI s.1)
        rw [fail_ok P1] at R2
        have S2 := ((FrE.w (h := h1) (j := 14) (by decide) (4 : Int32)).tr (FrE.w (j := 15) (by decide) (nI s.1))).S S1
        refine r_aload_n (q16 (i := 0) rfl) rfl ?_
        refine r_cV (d := _) (q16 (i := 1) rfl) rfl rfl rfl (k_35 S) (Nat.le_of_ble_eq_true rfl) (Nat.zero_le _) (Nat.zero_le _) R1 ?_
        show Wp _ _ _ 4 [(0, .ref 35)] [.int (nI v)] h1 _ _
        refine r_istore_n (ls' := [(1, .int (nI v)), (0, .ref 35)]) (q16 (i := 2) rfl) (Nat.le_of_ble_eq_true rfl) rfl ?_
        refine r_aload_n (q16 (i := 3) rfl) rfl ?_
        refine r_iload_n (q16 (i := 4) rfl) rfl ?_
        refine r_aload_n (q16 (i := 5) rfl) rfl ?_
        refine r_getI (x := nI H) (q16 (i := 6) rfl) rfl (by decide) (k_35 S1) (fun _ _ _ => rfl) g12 ?_
        refine r_icmp 18 (q16 (i := 7) rfl) (by decide) (fun zz => absurd zz (show ¬ (nI v ≤ nI H) from nI_ge g (by omega))) (fun _ => ?_)
        refine r_iconst (v := 1) (q16 (i := 8) rfl) (by decide) ?_
        refine r_goto 19 (q16 (i := 9) rfl) (by decide) ?_
        refine r_iconst (v := 4) (q16 (i := 11) rfl) (by decide) ?_
        refine r_aload_n (q16 (i := 12) rfl) rfl ?_
        refine r_getI (x := nI s.1) (q16 (i := 13) rfl) rfl (by decide) (k_35 S1) (fun _ _ _ => rfl) n17 ?_
        refine r_cV (d := _) (q16 (i := 14) rfl) rfl rfl rfl (k_35 S1) (Nat.le_of_ble_eq_true rfl) (Nat.zero_le _) (Nat.zero_le _) R2 ?_
        show Wp _ _ _ 27 [(1, .int (nI v)), (0, .ref 35)] [] (sI (sI h1 35 14 4) 35 15 (nI s.1)) _ _
        refine r_aload_n (q16 (i := 15) rfl) rfl ?_
        refine r_getI (x := 4) (q16 (i := 16) rfl) rfl (by decide) (k_35 S2) (fun _ _ _ => rfl) rfl ?_
        refine r_if 98 (q16 (i := 17) rfl) (by decide) (fun _ => ?_) (fun zz => absurd (show ¬ (4 : Int32) = 0 from by decide) zz)
        exact r_vret (q16 (i := 52) rfl) rfl hQ
      · rw [if_neg g]
        have hc := hu s rfl
        have f11 : hI h1 35 11 = nI s.2.2.1.2.2 := P1.2.2.1.2.1
        have f13 : hI h1 35 13 = (if s.2.2.2.1 then 1 else 0) := P1.2.2.2.1
        have f0 : hI h1 35 14 = 0 := P1.1.1
        have R2 := sp_failIf0 (d := d + 2) (h := h1) 4 (nI s.1)
        have PU := PS_U P1 (v := v) (p := s.1) (by omega) hc (s.2.2.2.1 || decide (v < 2))
        have FU := (((FrX.w (h := h1) (a := 39) (by decide) s.2.2.1.2.2 (nI v)).tr (FrX.w (a := 40) (by decide) s.2.2.1.2.2 (nI s.1))).tr (FrX.w35 (j := 11) (by decide) (nI (s.2.2.1.2.2 + 1)))).tr (FrX.w35 (j := 13) (by decide) (if (s.2.2.2.1 || decide (v < 2)) then 1 else 0))
        refine ⟨_, ?_, PU, F1.X.tr FU⟩
        refine Run.of (Nat.le_of_ble_eq_true rfl) (fun Q hQ => ?_)
        show Wp (Ex (d + 3)) 16 Q 0 [(0, .ref 35)] [] h 0 0
        cases k : s.2.2.2.1 with
        | true =>
          rw [k, Bool.true_or] at hQ
          rw [k] at f13
          refine r_aload_n (q16 (i := 0) rfl) rfl ?_
          refine r_cV (d := _) (q16 (i := 1) rfl) rfl rfl rfl (k_35 S) (Nat.le_of_ble_eq_true rfl) (Nat.zero_le _) (Nat.zero_le _) R1 ?_
          show Wp _ _ _ 4 [(0, .ref 35)] [.int (nI v)] h1 _ _
          refine r_istore_n (ls' := [(1, .int (nI v)), (0, .ref 35)]) (q16 (i := 2) rfl) (Nat.le_of_ble_eq_true rfl) rfl ?_
          refine r_aload_n (q16 (i := 3) rfl) rfl ?_
          refine r_iload_n (q16 (i := 4) rfl) rfl ?_
          refine r_aload_n (q16 (i := 5) rfl) rfl ?_
          refine r_getI (x := nI H) (q16 (i := 6) rfl) rfl (by decide) (k_35 S1) (fun _ _ _ => rfl) g12 ?_
          refine r_icmp 18 (q16 (i := 7) rfl) (by decide) (fun _ => ?_) (fun zz => absurd (show nI v ≤ nI H from nI_le (by omega) (by omega)) zz)
          refine r_iconst (v := 0) (q16 (i := 10) rfl) (by decide) ?_
          refine r_iconst (v := 4) (q16 (i := 11) rfl) (by decide) ?_
          refine r_aload_n (q16 (i := 12) rfl) rfl ?_
          refine r_getI (x := nI s.1) (q16 (i := 13) rfl) rfl (by decide) (k_35 S1) (fun _ _ _ => rfl) n17 ?_
          refine r_cV (d := _) (q16 (i := 14) rfl) rfl rfl rfl (k_35 S1) (Nat.le_of_ble_eq_true rfl) (Nat.zero_le _) (Nat.zero_le _) R2 ?_
          show Wp _ _ _ 27 [(1, .int (nI v)), (0, .ref 35)] [] h1 _ _
          refine r_aload_n (q16 (i := 15) rfl) rfl ?_
          refine r_getI (x := hI h1 35 14) (q16 (i := 16) rfl) rfl (by decide) (k_35 S1) (fun _ _ _ => rfl) rfl ?_
          refine r_if 98 (q16 (i := 17) rfl) (by decide) (fun zz => absurd zz (show ¬ (¬ hI h1 35 14 = 0) from fun y => y f0)) (fun _ => ?_)
          refine r_aload_n (q16 (i := 18) rfl) rfl ?_
          refine r_getI (x := nI s.2.2.1.2.2) (q16 (i := 19) rfl) rfl (by decide) (k_35 S1) (fun _ _ _ => rfl) f11 ?_
          refine r_sipush (v := 248) (q16 (i := 20) rfl) (by decide) ?_
          refine r_icmp 98 (q16 (i := 21) rfl) (by decide) (fun zz => absurd zz (show ¬ (248 ≤ nI s.2.2.1.2.2) from nI_ge (b := 248) (by omega) (by decide))) (fun _ => ?_)
          refine r_aload_n (q16 (i := 22) rfl) rfl ?_
          refine r_getR (b := 39) (q16 (i := 23) rfl) rfl (by decide) (k_35 S1) (fun _ _ _ => rfl) (r_35_4 S1) ?_
          refine r_aload_n (q16 (i := 24) rfl) rfl ?_
          refine r_getI (x := nI s.2.2.1.2.2) (q16 (i := 25) rfl) rfl (by decide) (k_35 S1) (fun _ _ _ => rfl) f11 ?_
          refine r_iload_n (q16 (i := 26) rfl) rfl ?_
          refine r_iasN (q16 (i := 27) rfl) (k_39 S1) (by omega) (by decide) ?_
          refine r_aload_n (q16 (i := 28) rfl) rfl ?_
          refine r_getR (b := 40) (q16 (i := 29) rfl) rfl (by decide) (k_35 S1) (fun _ _ _ => rfl) (r_35_5 S1) ?_
          refine r_aload_n (q16 (i := 30) rfl) rfl ?_
          refine r_getI (x := nI s.2.2.1.2.2) (q16 (i := 31) rfl) rfl (by decide) (k_35 S1) (fun _ _ _ => rfl) f11 ?_
          refine r_aload_n (q16 (i := 32) rfl) rfl ?_
          refine r_getI (x := nI s.1) (q16 (i := 33) rfl) rfl (by decide) (k_35 S1) (fun _ _ _ => rfl) n17 ?_
          refine r_iasN (q16 (i := 34) rfl) (k_40 S1) (by omega) (by decide) ?_
          refine r_aload_n (q16 (i := 35) rfl) rfl ?_
          refine r_dup (q16 (i := 36) rfl) rfl ?_
          refine r_getI (x := nI s.2.2.1.2.2) (q16 (i := 37) rfl) rfl (by decide) (k_35 S1) (fun _ _ _ => rfl) f11 ?_
          refine r_iconst (v := 1) (q16 (i := 38) rfl) (by decide) ?_
          refine r_iadd (q16 (i := 39) rfl) ?_
          rw [show ((nI s.2.2.1.2.2) + 1 : Int32) = nI (s.2.2.1.2.2 + 1) from nI_1 _]
          refine r_putI (q16 (i := 40) rfl) rfl (by decide) (k_35 S1) rfl rfl ?_
          refine r_aload_n (q16 (i := 41) rfl) rfl ?_
          refine r_aload_n (q16 (i := 42) rfl) rfl ?_
          refine r_getI (x := 1) (q16 (i := 43) rfl) rfl (by decide) (k_35 S1) (fun _ _ _ => rfl) f13 ?_
          refine r_if 90 (q16 (i := 44) rfl) (by decide) (fun _ => ?_) (fun zz => absurd (show ¬ (1 : Int32) = 0 from by decide) zz)
          refine r_iconst (v := 1) (q16 (i := 48) rfl) (by decide) ?_
          refine r_goto 95 (q16 (i := 49) rfl) (by decide) ?_
          refine r_putZ (q16 (i := 51) rfl) rfl (by decide) (k_35 S1) rfl rfl (by decide) ?_
          exact r_vret (q16 (i := 52) rfl) rfl hQ
        | false =>
          rw [k, Bool.false_or] at hQ
          rw [k] at f13
          by_cases g2 : v < 2
          · rw [decide_eq_true g2] at hQ
            refine r_aload_n (q16 (i := 0) rfl) rfl ?_
            refine r_cV (d := _) (q16 (i := 1) rfl) rfl rfl rfl (k_35 S) (Nat.le_of_ble_eq_true rfl) (Nat.zero_le _) (Nat.zero_le _) R1 ?_
            show Wp _ _ _ 4 [(0, .ref 35)] [.int (nI v)] h1 _ _
            refine r_istore_n (ls' := [(1, .int (nI v)), (0, .ref 35)]) (q16 (i := 2) rfl) (Nat.le_of_ble_eq_true rfl) rfl ?_
            refine r_aload_n (q16 (i := 3) rfl) rfl ?_
            refine r_iload_n (q16 (i := 4) rfl) rfl ?_
            refine r_aload_n (q16 (i := 5) rfl) rfl ?_
            refine r_getI (x := nI H) (q16 (i := 6) rfl) rfl (by decide) (k_35 S1) (fun _ _ _ => rfl) g12 ?_
            refine r_icmp 18 (q16 (i := 7) rfl) (by decide) (fun _ => ?_) (fun zz => absurd (show nI v ≤ nI H from nI_le (by omega) (by omega)) zz)
            refine r_iconst (v := 0) (q16 (i := 10) rfl) (by decide) ?_
            refine r_iconst (v := 4) (q16 (i := 11) rfl) (by decide) ?_
            refine r_aload_n (q16 (i := 12) rfl) rfl ?_
            refine r_getI (x := nI s.1) (q16 (i := 13) rfl) rfl (by decide) (k_35 S1) (fun _ _ _ => rfl) n17 ?_
            refine r_cV (d := _) (q16 (i := 14) rfl) rfl rfl rfl (k_35 S1) (Nat.le_of_ble_eq_true rfl) (Nat.zero_le _) (Nat.zero_le _) R2 ?_
            show Wp _ _ _ 27 [(1, .int (nI v)), (0, .ref 35)] [] h1 _ _
            refine r_aload_n (q16 (i := 15) rfl) rfl ?_
            refine r_getI (x := hI h1 35 14) (q16 (i := 16) rfl) rfl (by decide) (k_35 S1) (fun _ _ _ => rfl) rfl ?_
            refine r_if 98 (q16 (i := 17) rfl) (by decide) (fun zz => absurd zz (show ¬ (¬ hI h1 35 14 = 0) from fun y => y f0)) (fun _ => ?_)
            refine r_aload_n (q16 (i := 18) rfl) rfl ?_
            refine r_getI (x := nI s.2.2.1.2.2) (q16 (i := 19) rfl) rfl (by decide) (k_35 S1) (fun _ _ _ => rfl) f11 ?_
            refine r_sipush (v := 248) (q16 (i := 20) rfl) (by decide) ?_
            refine r_icmp 98 (q16 (i := 21) rfl) (by decide) (fun zz => absurd zz (show ¬ (248 ≤ nI s.2.2.1.2.2) from nI_ge (b := 248) (by omega) (by decide))) (fun _ => ?_)
            refine r_aload_n (q16 (i := 22) rfl) rfl ?_
            refine r_getR (b := 39) (q16 (i := 23) rfl) rfl (by decide) (k_35 S1) (fun _ _ _ => rfl) (r_35_4 S1) ?_
            refine r_aload_n (q16 (i := 24) rfl) rfl ?_
            refine r_getI (x := nI s.2.2.1.2.2) (q16 (i := 25) rfl) rfl (by decide) (k_35 S1) (fun _ _ _ => rfl) f11 ?_
            refine r_iload_n (q16 (i := 26) rfl) rfl ?_
            refine r_iasN (q16 (i := 27) rfl) (k_39 S1) (by omega) (by decide) ?_
            refine r_aload_n (q16 (i := 28) rfl) rfl ?_
            refine r_getR (b := 40) (q16 (i := 29) rfl) rfl (by decide) (k_35 S1) (fun _ _ _ => rfl) (r_35_5 S1) ?_
            refine r_aload_n (q16 (i := 30) rfl) rfl ?_
            refine r_getI (x := nI s.2.2.1.2.2) (q16 (i := 31) rfl) rfl (by decide) (k_35 S1) (fun _ _ _ => rfl) f11 ?_
            refine r_aload_n (q16 (i := 32) rfl) rfl ?_
            refine r_getI (x := nI s.1) (q16 (i := 33) rfl) rfl (by decide) (k_35 S1) (fun _ _ _ => rfl) n17 ?_
            refine r_iasN (q16 (i := 34) rfl) (k_40 S1) (by omega) (by decide) ?_
            refine r_aload_n (q16 (i := 35) rfl) rfl ?_
            refine r_dup (q16 (i := 36) rfl) rfl ?_
            refine r_getI (x := nI s.2.2.1.2.2) (q16 (i := 37) rfl) rfl (by decide) (k_35 S1) (fun _ _ _ => rfl) f11 ?_
            refine r_iconst (v := 1) (q16 (i := 38) rfl) (by decide) ?_
            refine r_iadd (q16 (i := 39) rfl) ?_
            rw [show ((nI s.2.2.1.2.2) + 1 : Int32) = nI (s.2.2.1.2.2 + 1) from nI_1 _]
            refine r_putI (q16 (i := 40) rfl) rfl (by decide) (k_35 S1) rfl rfl ?_
            refine r_aload_n (q16 (i := 41) rfl) rfl ?_
            refine r_aload_n (q16 (i := 42) rfl) rfl ?_
            refine r_getI (x := 0) (q16 (i := 43) rfl) rfl (by decide) (k_35 S1) (fun _ _ _ => rfl) f13 ?_
            refine r_if 90 (q16 (i := 44) rfl) (by decide) (fun zz => absurd zz (show ¬ (¬ (0 : Int32) = 0) from by decide)) (fun _ => ?_)
            refine r_iload_n (q16 (i := 45) rfl) rfl ?_
            refine r_iconst (v := 2) (q16 (i := 46) rfl) (by decide) ?_
            refine r_icmp 94 (q16 (i := 47) rfl) (by decide) (fun zz => absurd zz (show ¬ (2 ≤ nI v) from nI_ge (b := 2) g2 (by decide))) (fun _ => ?_)
            refine r_iconst (v := 1) (q16 (i := 48) rfl) (by decide) ?_
            refine r_goto 95 (q16 (i := 49) rfl) (by decide) ?_
            refine r_putZ (q16 (i := 51) rfl) rfl (by decide) (k_35 S1) rfl rfl (by decide) ?_
            exact r_vret (q16 (i := 52) rfl) rfl hQ
          · rw [decide_eq_false g2] at hQ
            refine r_aload_n (q16 (i := 0) rfl) rfl ?_
            refine r_cV (d := _) (q16 (i := 1) rfl) rfl rfl rfl (k_35 S) (Nat.le_of_ble_eq_true rfl) (Nat.zero_le _) (Nat.zero_le _) R1 ?_
            show Wp _ _ _ 4 [(0, .ref 35)] [.int (nI v)] h1 _ _
            refine r_istore_n (ls' := [(1, .int (nI v)), (0, .ref 35)]) (q16 (i := 2) rfl) (Nat.le_of_ble_eq_true rfl) rfl ?_
            refine r_aload_n (q16 (i := 3) rfl) rfl ?_
            refine r_iload_n (q16 (i := 4) rfl) rfl ?_
            refine r_aload_n (q16 (i := 5) rfl) rfl ?_
            refine r_getI (x := nI H) (q16 (i := 6) rfl) rfl (by decide) (k_35 S1) (fun _ _ _ => rfl) g12 ?_
            refine r_icmp 18 (q16 (i := 7) rfl) (by decide) (fun _ => ?_) (fun zz => absurd (show nI v ≤ nI H from nI_le (by omega) (by omega)) zz)
            refine r_iconst (v := 0) (q16 (i := 10) rfl) (by decide) ?_
            refine r_iconst (v := 4) (q16 (i := 11) rfl) (by decide) ?_
            refine r_aload_n (q16 (i := 12) rfl) rfl ?_
            refine r_getI (x := nI s.1) (q16 (i := 13) rfl) rfl (by decide) (k_35 S1) (fun _ _ _ => rfl) n17 ?_
            refine r_cV (d := _) (q16 (i := 14) rfl) rfl rfl rfl (k_35 S1) (Nat.le_of_ble_eq_true rfl) (Nat.zero_le _) (Nat.zero_le _) R2 ?_
            show Wp _ _ _ 27 [(1, .int (nI v)), (0, .ref 35)] [] h1 _ _
            refine r_aload_n (q16 (i := 15) rfl) rfl ?_
            refine r_getI (x := hI h1 35 14) (q16 (i := 16) rfl) rfl (by decide) (k_35 S1) (fun _ _ _ => rfl) rfl ?_
            refine r_if 98 (q16 (i := 17) rfl) (by decide) (fun zz => absurd zz (show ¬ (¬ hI h1 35 14 = 0) from fun y => y f0)) (fun _ => ?_)
            refine r_aload_n (q16 (i := 18) rfl) rfl ?_
            refine r_getI (x := nI s.2.2.1.2.2) (q16 (i := 19) rfl) rfl (by decide) (k_35 S1) (fun _ _ _ => rfl) f11 ?_
            refine r_sipush (v := 248) (q16 (i := 20) rfl) (by decide) ?_
            refine r_icmp 98 (q16 (i := 21) rfl) (by decide) (fun zz => absurd zz (show ¬ (248 ≤ nI s.2.2.1.2.2) from nI_ge (b := 248) (by omega) (by decide))) (fun _ => ?_)
            refine r_aload_n (q16 (i := 22) rfl) rfl ?_
            refine r_getR (b := 39) (q16 (i := 23) rfl) rfl (by decide) (k_35 S1) (fun _ _ _ => rfl) (r_35_4 S1) ?_
            refine r_aload_n (q16 (i := 24) rfl) rfl ?_
            refine r_getI (x := nI s.2.2.1.2.2) (q16 (i := 25) rfl) rfl (by decide) (k_35 S1) (fun _ _ _ => rfl) f11 ?_
            refine r_iload_n (q16 (i := 26) rfl) rfl ?_
            refine r_iasN (q16 (i := 27) rfl) (k_39 S1) (by omega) (by decide) ?_
            refine r_aload_n (q16 (i := 28) rfl) rfl ?_
            refine r_getR (b := 40) (q16 (i := 29) rfl) rfl (by decide) (k_35 S1) (fun _ _ _ => rfl) (r_35_5 S1) ?_
            refine r_aload_n (q16 (i := 30) rfl) rfl ?_
            refine r_getI (x := nI s.2.2.1.2.2) (q16 (i := 31) rfl) rfl (by decide) (k_35 S1) (fun _ _ _ => rfl) f11 ?_
            refine r_aload_n (q16 (i := 32) rfl) rfl ?_
            refine r_getI (x := nI s.1) (q16 (i := 33) rfl) rfl (by decide) (k_35 S1) (fun _ _ _ => rfl) n17 ?_
            refine r_iasN (q16 (i := 34) rfl) (k_40 S1) (by omega) (by decide) ?_
            refine r_aload_n (q16 (i := 35) rfl) rfl ?_
            refine r_dup (q16 (i := 36) rfl) rfl ?_
            refine r_getI (x := nI s.2.2.1.2.2) (q16 (i := 37) rfl) rfl (by decide) (k_35 S1) (fun _ _ _ => rfl) f11 ?_
            refine r_iconst (v := 1) (q16 (i := 38) rfl) (by decide) ?_
            refine r_iadd (q16 (i := 39) rfl) ?_
            rw [show ((nI s.2.2.1.2.2) + 1 : Int32) = nI (s.2.2.1.2.2 + 1) from nI_1 _]
            refine r_putI (q16 (i := 40) rfl) rfl (by decide) (k_35 S1) rfl rfl ?_
            refine r_aload_n (q16 (i := 41) rfl) rfl ?_
            refine r_aload_n (q16 (i := 42) rfl) rfl ?_
            refine r_getI (x := 0) (q16 (i := 43) rfl) rfl (by decide) (k_35 S1) (fun _ _ _ => rfl) f13 ?_
            refine r_if 90 (q16 (i := 44) rfl) (by decide) (fun zz => absurd zz (show ¬ (¬ (0 : Int32) = 0) from by decide)) (fun _ => ?_)
            refine r_iload_n (q16 (i := 45) rfl) rfl ?_
            refine r_iconst (v := 2) (q16 (i := 46) rfl) (by decide) ?_
            refine r_icmp 94 (q16 (i := 47) rfl) (by decide) (fun _ => ?_) (fun zz => absurd (show 2 ≤ nI v from nI_le (a := 2) (by omega) (by omega)) zz)
            refine r_iconst (v := 0) (q16 (i := 50) rfl) (by decide) ?_
            refine r_putZ (q16 (i := 51) rfl) rfl (by decide) (k_35 S1) rfl rfl (by decide) ?_
            exact r_vret (q16 (i := 52) rfl) rfl hQ
    · have e1 : (Except.ok s : pres).bind (Fnum B z) = .error (1, s.1) := if_neg q
      have e3 : (Except.ok s : pres).bind (Fuse B z H) = .error (1, s.1) := if_neg q
      have ev : v = 0 := ev.trans (if_neg q)
      rw [e3]
      rw [e1] at P1
      subst ev
      refine ⟨h1, ?_, P1, F1.X⟩
      refine Run.of (Nat.le_of_ble_eq_true rfl) (fun Q hQ => ?_)
      show Wp (Ex (d + 3)) 16 Q 0 [(0, .ref 35)] [] h 0 0
      have R2 := sp_failIf0 (d := d + 2) (h := h1) 4 (hI h1 35 17)
      refine r_aload_n (q16 (i := 0) rfl) rfl ?_
      refine r_cV (d := _) (q16 (i := 1) rfl) rfl rfl rfl (k_35 S) (Nat.le_of_ble_eq_true rfl) (Nat.zero_le _) (Nat.zero_le _) R1 ?_
      show Wp _ _ _ 4 [(0, .ref 35)] [.int (nI 0)] h1 _ _
      refine r_istore_n (ls' := [(1, .int (nI 0)), (0, .ref 35)]) (q16 (i := 2) rfl) (Nat.le_of_ble_eq_true rfl) rfl ?_
      refine r_aload_n (q16 (i := 3) rfl) rfl ?_
      refine r_iload_n (q16 (i := 4) rfl) rfl ?_
      refine r_aload_n (q16 (i := 5) rfl) rfl ?_
      refine r_getI (x := nI H) (q16 (i := 6) rfl) rfl (by decide) (k_35 S1) (fun _ _ _ => rfl) g12 ?_
      refine r_icmp 18 (q16 (i := 7) rfl) (by decide) (fun _ => ?_) (fun zz => absurd (show nI 0 ≤ nI H from nI_le (by omega) (by omega)) zz)
      refine r_iconst (v := 0) (q16 (i := 10) rfl) (by decide) ?_
      refine r_iconst (v := 4) (q16 (i := 11) rfl) (by decide) ?_
      refine r_aload_n (q16 (i := 12) rfl) rfl ?_
      refine r_getI (x := hI h1 35 17) (q16 (i := 13) rfl) rfl (by decide) (k_35 S1) (fun _ _ _ => rfl) rfl ?_
      refine r_cV (d := _) (q16 (i := 14) rfl) rfl rfl rfl (k_35 S1) (Nat.le_of_ble_eq_true rfl) (Nat.zero_le _) (Nat.zero_le _) R2 ?_
      show Wp _ _ _ 27 [(1, .int (nI 0)), (0, .ref 35)] [] h1 _ _
      refine r_aload_n (q16 (i := 15) rfl) rfl ?_
      refine r_getI (x := hI h1 35 14) (q16 (i := 16) rfl) rfl (by decide) (k_35 S1) (fun _ _ _ => rfl) rfl ?_
      refine r_if 98 (q16 (i := 17) rfl) (by decide) (fun _ => ?_) (fun zz => absurd (show ¬ hI h1 35 14 = 0 from err_ne P1) zz)
      exact r_vret (q16 (i := 52) rfl) rfl hQ
