set_option maxHeartbeats 2000000 in
set_option maxRecDepth 10000 in
theorem lp_rn {d : Nat} {t : txt} {AP : Nat → Nat} {x : Int32} : ∀ (m k : Nat) (h : hp), k + m = tN t → (∀ i, i < k → slf t i = false) → XTm h t → (∀ i, i < tN t → hI h (1201 + i) 0 = nI (AP i) ∧ AP i ≤ 3000) → FTM h none → ∃ (h' : hp) (g : Int32), (if lst (slf t) (tN t) < tN t then g = 0 ∧ FTM h' (some (6, AP (lst (slf t) (tN t)))) ∧ Sh h' else g = 1 ∧ FrR h h') ∧ FrRd h h' ∧ ∀ (Q : resP) (bc bs : Nat), (∀ ls : List (Nat × Value), ls.lookup 2 = some (.int g) → ls.lookup 1 = some (.int x) → ls.lookup 0 = some (.ref 47) → Wp (Ex (d + 3)) 130 Q 96 ls [] h' bc bs) → ∀ ls : List (Nat × Value), ls.lookup 3 = some (.int (nI k)) → ls.lookup 2 = some (.int 1) → ls.lookup 1 = some (.int x) → ls.lookup 0 = some (.ref 47) → Wp (Ex (d + 3)) 130 Q 53 ls [] h bc bs := by
  intro m
  induction m with
  | zero =>
    intro k h hm H X P ft
    have e : k = tN t := by omega
    have S := X.1.1
    have hN := X.2.2.2.2.2.2
    refine ⟨h, 1, ?_, (FrR.rf h).Rd, fun Q bc bs kk ls l3 l2 l1 l0 => ?_⟩
    · rw [if_neg (by rw [lst_no (fun i hi => H i (by omega))]; exact Nat.lt_irrefl _)]
      exact ⟨rfl, FrR.rf h⟩
    refine r_iload_n (q130 (i := 29) rfl) l3 ?_
    refine r_aload_n (q130 (i := 30) rfl) l0 ?_
    refine r_getR (b := 1075) (q130 (i := 31) rfl) rfl (by decide) (k_47 S) (fun _ _ _ => rfl) (r_47_30 S) ?_
    refine r_iconst (v := 4) (q130 (i := 32) rfl) (by decide) ?_
    refine r_iaload (x := nI (tN t)) (q130 (i := 33) rfl) (k_1075 S) (vp_in_nI (n := 4) (by decide) (by decide)) X.1.2.2 ?_
    refine r_icmp 96 (q130 (i := 34) rfl) (by decide) (fun _ => ?_) (fun zz => absurd (show nI (tN t) ≤ nI k from nI_le (by omega) (by omega)) zz)
    exact kk ls l2 l1 l0
  | succ m ih =>
    intro k h hm H X P ft
    have S := X.1.1
    have hN := X.2.2.2.2.2.2
    obtain ⟨h1, Rn, F1⟩ := sp_mni (d := d + 1) X (k := k) (by omega)
    have S1 : Sh h1 := S.to (by rw [F1.1])
    have P1 : ∀ i, i < tN t → hI h1 (1201 + i) 0 = nI (AP i) ∧ AP i ≤ 3000 := fun i hi => by rw [F1.2 (1201 + i) (by omega)]; exact P i hi
    have f1 : FTM h1 none := by
      show hI h1 47 28 = 0 ∧ hI h1 47 26 = -1
      rw [F1.2 47 (by decide)]; exact ft
    cases q : slf t k with
    | false =>
      rw [q] at Rn
      have Rn : Run (d + 1 + 1 + 1) 126 [.ref 47, .int (nI k)] h 0 0 (some (.int 0)) h1 := Rn
      obtain ⟨h2, g, o, F2, K⟩ := ih (k + 1) h1 (by omega) (fun i hi => by
        by_cases e : i = k
        · rw [e]; exact q
        · exact H i (by omega)) (F1.X X) P1 f1
      refine ⟨h2, g, ?_, F1.Rd.tr F2, fun Q bc bs kk ls l3 l2 l1 l0 => ?_⟩
      · by_cases y : lst (slf t) (tN t) < tN t
        · rw [if_pos y] at o ⊢; exact o
        · rw [if_neg y] at o ⊢; exact ⟨o.1, F1.tr o.2⟩
      refine r_iload_n (q130 (i := 29) rfl) l3 ?_
      refine r_aload_n (q130 (i := 30) rfl) l0 ?_
      refine r_getR (b := 1075) (q130 (i := 31) rfl) rfl (by decide) (k_47 S) (fun _ _ _ => rfl) (r_47_30 S) ?_
      refine r_iconst (v := 4) (q130 (i := 32) rfl) (by decide) ?_
      refine r_iaload (x := nI (tN t)) (q130 (i := 33) rfl) (k_1075 S) (vp_in_nI (n := 4) (by decide) (by decide)) X.1.2.2 ?_
      refine r_icmp 96 (q130 (i := 34) rfl) (by decide) (fun zz => absurd zz (show ¬ (nI (tN t) ≤ nI k) from nI_ge (by omega) (by omega))) (fun _ => ?_)
      refine r_iload_n (q130 (i := 35) rfl) l2 ?_
      refine r_if 96 (q130 (i := 36) rfl) (by decide) (fun zz => absurd zz (show ¬ ((1 : Int32) = 0) from by decide)) (fun _ => ?_)
      refine r_aload_n (q130 (i := 37) rfl) l0 ?_
      refine r_iload_n (q130 (i := 38) rfl) l3 ?_
      refine r_cV (d := _) (q130 (i := 39) rfl) rfl rfl rfl (k_47 S) (Nat.le_of_ble_eq_true rfl) (Nat.zero_le _) (Nat.zero_le _) Rn ?_
      show Wp _ _ _ 72 ls [.int 0] h1 _ _
      refine r_if 90 (q130 (i := 40) rfl) (by decide) (fun _ => ?_) (fun zz => absurd (show (0 : Int32) = 0 from by decide) zz)
      refine r_iinc (y := nI (k + 1)) (q130 (i := 51) rfl) (Nat.le_of_ble_eq_true rfl) l3 (nI_1 k) rfl ?_
      have l2 := lk1 (k := 3) (v := .int (nI (k + 1))) l2 (by decide) (Or.inl rfl)
      have l1 := lk1 (k := 3) (v := .int (nI (k + 1))) l1 (by decide) (Or.inr (by decide))
      have l0 := lk1 (k := 3) (v := .int (nI (k + 1))) l0 (by decide) (Or.inr (by decide))
      have l3 := lk0 ls 3 (.int (nI (k + 1)))
      generalize lset1 ls 3 (.int (nI (k + 1))) = ls at l3 l2 l1 l0 ⊢
      refine r_goto 53 (q130 (i := 52) rfl) (by decide) ?_
      exact K Q bc bs kk ls l3 l2 l1 l0
    | true =>
      rw [q] at Rn
      have Rn : Run (d + 1 + 1 + 1) 126 [.ref 47, .int (nI k)] h 0 0 (some (.int 1)) h1 := Rn
      obtain ⟨p1, p2⟩ := P1 k (by omega)
      obtain ⟨h2, Rf, f2, F2, _⟩ := sp_fails (d := d + 2) S1 (t := none) f1 (f := 6) (p := AP k) (by decide) p2
      have S2 := F2.S S1
      have e4 : hI h2 1075 4 = nI (tN t) := by rw [F2.2.1 1075 (by decide), F1.2 1075 (by decide)]; exact X.1.2.2
      have el : lst (slf t) (tN t) = k := lst_is (by omega) H q
      refine ⟨h2, 0, ?_, F1.Rd.tr F2.Rd, fun Q bc bs kk ls l3 l2 l1 l0 => ?_⟩
      · rw [el, if_pos (by omega)]
        exact ⟨rfl, f2, S2⟩
      refine r_iload_n (q130 (i := 29) rfl) l3 ?_
      refine r_aload_n (q130 (i := 30) rfl) l0 ?_
      refine r_getR (b := 1075) (q130 (i := 31) rfl) rfl (by decide) (k_47 S) (fun _ _ _ => rfl) (r_47_30 S) ?_
      refine r_iconst (v := 4) (q130 (i := 32) rfl) (by decide) ?_
      refine r_iaload (x := nI (tN t)) (q130 (i := 33) rfl) (k_1075 S) (vp_in_nI (n := 4) (by decide) (by decide)) X.1.2.2 ?_
      refine r_icmp 96 (q130 (i := 34) rfl) (by decide) (fun zz => absurd zz (show ¬ (nI (tN t) ≤ nI k) from nI_ge (by omega) (by omega))) (fun _ => ?_)
      refine r_iload_n (q130 (i := 35) rfl) l2 ?_
      refine r_if 96 (q130 (i := 36) rfl) (by decide) (fun zz => absurd zz (show ¬ ((1 : Int32) = 0) from by decide)) (fun _ => ?_)
      refine r_aload_n (q130 (i := 37) rfl) l0 ?_
      refine r_iload_n (q130 (i := 38) rfl) l3 ?_
      refine r_cV (d := _) (q130 (i := 39) rfl) rfl rfl rfl (k_47 S) (Nat.le_of_ble_eq_true rfl) (Nat.zero_le _) (Nat.zero_le _) Rn ?_
      show Wp _ _ _ 72 ls [.int 1] h1 _ _
      refine r_if 90 (q130 (i := 40) rfl) (by decide) (fun zz => absurd zz (show ¬ ((1 : Int32) = 0) from by decide)) (fun _ => ?_)
      refine r_aload_n (q130 (i := 41) rfl) l0 ?_
      refine r_bipush (v := 6) (q130 (i := 42) rfl) (by decide) ?_
      refine r_aload_n (q130 (i := 43) rfl) l0 ?_
      refine r_getR (b := 1200) (q130 (i := 44) rfl) rfl (by decide) (k_47 S1) (fun _ _ _ => rfl) (r_47_35 S1) ?_
      refine r_iload_n (q130 (i := 45) rfl) l3 ?_
      refine r_aa5N (q130 (i := 46) rfl) (k_1200 S1) (by omega) (by decide) (rAt S1 (by omega)) ?_
      refine r_iconst (v := 0) (q130 (i := 47) rfl) (by decide) ?_
      refine r_iaload (x := nI (AP k)) (q130 (i := 48) rfl) (kAt S1 (x := k) (by omega)) (vp_in_nI (n := 0) (by decide) (by decide)) p1 ?_
      refine r_cV (d := _) (q130 (i := 49) rfl) rfl rfl rfl (k_47 S1) (Nat.le_of_ble_eq_true rfl) (Nat.zero_le _) (Nat.zero_le _) Rf ?_
      show Wp _ _ _ 89 ls [.int 0] h2 _ _
      refine r_istore_n (ls' := lset1 ls 2 (.int 0)) (q130 (i := 50) rfl) (Nat.le_of_ble_eq_true rfl) rfl ?_
      have l3 := lk1 (k := 2) (v := .int 0) l3 (by decide) (Or.inr (by decide))
      have l1 := lk1 (k := 2) (v := .int 0) l1 (by decide) (Or.inl rfl)
      have l0 := lk1 (k := 2) (v := .int 0) l0 (by decide) (Or.inr (by decide))
      have l2 := lk0 ls 2 (.int 0)
      generalize lset1 ls 2 (.int 0) = ls at l2 l3 l1 l0 ⊢
      refine r_iinc (y := nI (k + 1)) (q130 (i := 51) rfl) (Nat.le_of_ble_eq_true rfl) l3 (nI_1 k) rfl ?_
      have l2 := lk1 (k := 3) (v := .int (nI (k + 1))) l2 (by decide) (Or.inl rfl)
      have l1 := lk1 (k := 3) (v := .int (nI (k + 1))) l1 (by decide) (Or.inr (by decide))
      have l0 := lk1 (k := 3) (v := .int (nI (k + 1))) l0 (by decide) (Or.inr (by decide))
      have l3 := lk0 ls 3 (.int (nI (k + 1)))
      generalize lset1 ls 3 (.int (nI (k + 1))) = ls at l3 l2 l1 l0 ⊢
      refine r_goto 53 (q130 (i := 52) rfl) (by decide) ?_
      refine r_iload_n (q130 (i := 29) rfl) l3 ?_
      refine r_aload_n (q130 (i := 30) rfl) l0 ?_
      refine r_getR (b := 1075) (q130 (i := 31) rfl) rfl (by decide) (k_47 S2) (fun _ _ _ => rfl) (r_47_30 S2) ?_
      refine r_iconst (v := 4) (q130 (i := 32) rfl) (by decide) ?_
      refine r_iaload (x := nI (tN t)) (q130 (i := 33) rfl) (k_1075 S2) (vp_in_nI (n := 4) (by decide) (by decide)) e4 ?_
      refine r_icmp 96 (q130 (i := 34) rfl) (by decide) (fun c60 => ?_) (fun c60 => ?_)
      · have c60 : nI (tN t) ≤ nI (k + 1) := c60
        exact kk ls l2 l1 l0
      · have c60 : ¬ (nI (tN t) ≤ nI (k + 1)) := c60
        refine r_iload_n (q130 (i := 35) rfl) l2 ?_
        refine r_if 96 (q130 (i := 36) rfl) (by decide) (fun _ => ?_) (fun zz => absurd (show (0 : Int32) = 0 from by decide) zz)
        exact kk ls l2 l1 l0
