def RX (h : hp) (B : Nat → Int32) (z n : Nat) (g : Int32) : Prop := match Fhead B z n with
  | .error e => g = 0 ∧ FTM h (some e) ∧ Sh h
  | .ok q => match Fbody B z n q.2 (q.1, s00.2) with
    | .error e => g = 0 ∧ FTM h (some e) ∧ Sh h
    | .ok s => g = 1 ∧ LSt h B z n (q.2 0) (q.2 3) (q.2 3) (q.2 4) s ∧ hI h 1075 3 = nI (q.2 3) ∧ hI h 1075 4 = nI (q.2 4)
set_option maxHeartbeats 2000000 in
set_option maxRecDepth 10000 in
theorem rd_24 {d : Nat} {B : Nat → Int32} {z n : Nat} (hn : n ≤ 12) {h : hp} (S : Sh h) (T : TM h B z) (e1 : hI h 47 1 = nI n) (ea : hI h 47 27 = 0) (ft : FTM h none) (x : Int32) : ∃ (h' : hp) (g : Int32), RX h' B z n g ∧ FrRd h h' ∧ ∀ (Q : resP) (bc bs : Nat), (∀ ls : List (Nat × Value), ls.lookup 2 = some (.int g) → ls.lookup 1 = some (.int x) → ls.lookup 0 = some (.ref 47) → Wp (Ex (d + 3)) 130 Q 51 ls [] h' bc bs) → Wp (Ex (d + 3)) 130 Q 24 [(0, .ref 47), (1, .int x)] [] h bc bs := by
  obtain ⟨h1, R1, E1, F1⟩ := sp_fl (d := d) hn S T e1 ea ft
  have S1 := F1.S S
  unfold RX
  cases q : Fhead B z n with
  | error e =>
    rw [q] at R1 E1
    refine ⟨h1, 0, ⟨rfl, E1, S1⟩, F1.Rd, fun Q bc bs kk => ?_⟩
    refine r_aload_n (q130 (i := 14) rfl) rfl ?_
    refine r_cV (d := _) (q130 (i := 15) rfl) rfl rfl rfl (k_47 S) (Nat.le_of_ble_eq_true rfl) (Nat.zero_le _) (Nat.zero_le _) R1 ?_
    show Wp _ _ _ 28 [(0, .ref 47), (1, .int x)] [.int 0] h1 _ _
    refine r_if 49 (q130 (i := 16) rfl) (by decide) (fun _ => ?_) (fun zz => absurd (show (0 : Int32) = 0 from by decide) zz)
    refine r_iconst (v := 0) (q130 (i := 25) rfl) (by decide) ?_
    refine r_istore_n (ls' := [(2, .int 0), (0, .ref 47), (1, .int x)]) (q130 (i := 26) rfl) (Nat.le_of_ble_eq_true rfl) rfl ?_
    exact kk _ rfl rfl rfl
  | ok p =>
    rw [q] at R1 E1
    obtain ⟨E2, ⟨E3, E4⟩, E5⟩ := E1
    obtain ⟨_, _, x0, x1, x3, x4, _⟩ := Fhead_ok (a := p.1) (hv := p.2) q
    have L := sp_lines (d := d) hn x0 x1 x3 x4 S1 (F1.T T) E2 E3 E4 E5
    have hd : ∀ {h2 : hp}, FrLn h1 h2 → hI h2 1075 3 = nI (p.2 3) ∧ hI h2 1075 4 = nI (p.2 4) := fun F => by
      rw [F.2.1 1075 (by decide) (by decide)]; exact ⟨E5 3 (by decide), E5 4 (by decide)⟩
    have eb : Fbody B z n p.2 (p.1, s00.2) = (Flines B z n p.2 (p.1, s00.2)).bind (fun s => Fnd s.2.2.1.2.2 0 s) := rfl
    unfold LRes at L
    cases r : Flines B z n p.2 (p.1, s00.2) with
    | error e =>
      rw [r] at L eb
      obtain ⟨h2, o, F2, K2⟩ := L
      have R2 : Run (d + 2 + 1) 122 [.ref 47] h1 0 0 (some (.int 0)) h2 := Run.of (Nat.le_of_ble_eq_true rfl) (fun Q hQ => K2 Q 0 0 hQ)
      refine ⟨h2, 0, ?_, F1.Rd.tr F2.Rd, fun Q bc bs kk => ?_⟩
      · show match Fbody B z n p.2 (p.1, s00.2) with | .error e => _ | .ok s => _
        rw [eb]
        exact ⟨rfl, o⟩
      refine r_aload_n (q130 (i := 14) rfl) rfl ?_
      refine r_cV (d := _) (q130 (i := 15) rfl) rfl rfl rfl (k_47 S) (Nat.le_of_ble_eq_true rfl) (Nat.zero_le _) (Nat.zero_le _) R1 ?_
      show Wp _ _ _ 28 [(0, .ref 47), (1, .int x)] [.int 1] h1 _ _
      refine r_if 49 (q130 (i := 16) rfl) (by decide) (fun zz => absurd zz (show ¬ ((1 : Int32) = 0) from by decide)) (fun _ => ?_)
      refine r_aload_n (q130 (i := 17) rfl) rfl ?_
      refine r_cV (d := _) (q130 (i := 18) rfl) rfl rfl rfl (k_47 S1) (Nat.le_of_ble_eq_true rfl) (Nat.zero_le _) (Nat.zero_le _) R2 ?_
      show Wp _ _ _ 35 [(0, .ref 47), (1, .int x)] [.int 0] h2 _ _
      refine r_if 49 (q130 (i := 19) rfl) (by decide) (fun _ => ?_) (fun zz => absurd (show (0 : Int32) = 0 from by decide) zz)
      refine r_iconst (v := 0) (q130 (i := 25) rfl) (by decide) ?_
      refine r_istore_n (ls' := [(2, .int 0), (0, .ref 47), (1, .int x)]) (q130 (i := 26) rfl) (Nat.le_of_ble_eq_true rfl) rfl ?_
      exact kk _ rfl rfl rfl
    | ok s =>
      rw [r] at L eb
      obtain ⟨h2, o, F2, K2⟩ := L
      have R2 : Run (d + 2 + 1) 122 [.ref 47] h1 0 0 (some (.int 1)) h2 := Run.of (Nat.le_of_ble_eq_true rfl) (fun Q hQ => K2 Q 0 0 hQ)
      have AD := lp_ad1 (d := d + 1) x3 x4 (hd F2).1 (hd F2).2 o.1 (p.2 3) 0 (Nat.zero_add _)
      have eb : Fbody B z n p.2 (p.1, s00.2) = Fnd (p.2 3 + 2 * p.2 4) 0 s := by
        rw [eb]
        show Fnd s.2.2.1.2.2 0 s = _
        rw [o.2.1]
      rw [← eb] at AD
      have en : ∀ (Q : resP), (∀ ls : List (Nat × Value), ls.lookup 1 = some (.int (nI 0)) → ls.lookup 0 = some (.ref 47) → Wp (Ex (d + 1 + 1)) 125 Q 2 ls [] h2 0 0) → Wp (Ex (d + 1 + 1)) 125 Q 0 [(0, .ref 47)] [] h2 0 0 := fun Q y => by
        have S := o.1.1.1
        refine r_iconst (v := nI 0) (q125 (i := 0) rfl) (by decide) ?_
        refine r_istore_n (ls' := [(1, .int (nI 0)), (0, .ref 47)]) (q125 (i := 1) rfl) (Nat.le_of_ble_eq_true rfl) rfl ?_
        exact y _ rfl rfl
      unfold LRes at AD
      cases r2 : Fbody B z n p.2 (p.1, s00.2) with
      | error e =>
        rw [r2] at AD
        obtain ⟨h3, o3, F3, K3⟩ := AD
        have R3 : Run (d + 1 + 1 + 1) 125 [.ref 47] h2 0 0 (some (.int 0)) h3 := Run.of (Nat.le_of_ble_eq_true rfl) (fun Q hQ => en Q (K3 Q 0 0 hQ))
        refine ⟨h3, 0, ?_, (F1.Rd.tr F2.Rd).tr F3.Rd, fun Q bc bs kk => ?_⟩
        · show match Fbody B z n p.2 (p.1, s00.2) with | .error e => _ | .ok s => _
          rw [r2]
          exact ⟨rfl, o3⟩
        refine r_aload_n (q130 (i := 14) rfl) rfl ?_
        refine r_cV (d := _) (q130 (i := 15) rfl) rfl rfl rfl (k_47 S) (Nat.le_of_ble_eq_true rfl) (Nat.zero_le _) (Nat.zero_le _) R1 ?_
        show Wp _ _ _ 28 [(0, .ref 47), (1, .int x)] [.int 1] h1 _ _
        refine r_if 49 (q130 (i := 16) rfl) (by decide) (fun zz => absurd zz (show ¬ ((1 : Int32) = 0) from by decide)) (fun _ => ?_)
        refine r_aload_n (q130 (i := 17) rfl) rfl ?_
        refine r_cV (d := _) (q130 (i := 18) rfl) rfl rfl rfl (k_47 S1) (Nat.le_of_ble_eq_true rfl) (Nat.zero_le _) (Nat.zero_le _) R2 ?_
        show Wp _ _ _ 35 [(0, .ref 47), (1, .int x)] [.int 1] h2 _ _
        refine r_if 49 (q130 (i := 19) rfl) (by decide) (fun zz => absurd zz (show ¬ ((1 : Int32) = 0) from by decide)) (fun _ => ?_)
        refine r_aload_n (q130 (i := 20) rfl) rfl ?_
        refine r_cV (d := _) (q130 (i := 21) rfl) rfl rfl rfl (k_47 (F2.S S1)) (Nat.le_of_ble_eq_true rfl) (Nat.zero_le _) (Nat.zero_le _) R3 ?_
        show Wp _ _ _ 42 [(0, .ref 47), (1, .int x)] [.int 0] h3 _ _
        refine r_if 49 (q130 (i := 22) rfl) (by decide) (fun _ => ?_) (fun zz => absurd (show (0 : Int32) = 0 from by decide) zz)
        refine r_iconst (v := 0) (q130 (i := 25) rfl) (by decide) ?_
        refine r_istore_n (ls' := [(2, .int 0), (0, .ref 47), (1, .int x)]) (q130 (i := 26) rfl) (Nat.le_of_ble_eq_true rfl) rfl ?_
        exact kk _ rfl rfl rfl
      | ok s3 =>
        rw [r2] at AD
        obtain ⟨h3, ⟨o3, o4⟩, F3, K3⟩ := AD
        subst o3
        subst o4
        have R3 : Run (d + 1 + 1 + 1) 125 [.ref 47] h3 0 0 (some (.int 1)) h3 := Run.of (Nat.le_of_ble_eq_true rfl) (fun Q hQ => en Q (K3 Q 0 0 hQ))
        refine ⟨h3, 1, ?_, F1.Rd.tr F2.Rd, fun Q bc bs kk => ?_⟩
        · show match Fbody B z n p.2 (p.1, s00.2) with | .error e => _ | .ok s => _
          rw [r2]
          exact ⟨rfl, o.1, hd F2⟩
        refine r_aload_n (q130 (i := 14) rfl) rfl ?_
        refine r_cV (d := _) (q130 (i := 15) rfl) rfl rfl rfl (k_47 S) (Nat.le_of_ble_eq_true rfl) (Nat.zero_le _) (Nat.zero_le _) R1 ?_
        show Wp _ _ _ 28 [(0, .ref 47), (1, .int x)] [.int 1] h1 _ _
        refine r_if 49 (q130 (i := 16) rfl) (by decide) (fun zz => absurd zz (show ¬ ((1 : Int32) = 0) from by decide)) (fun _ => ?_)
        refine r_aload_n (q130 (i := 17) rfl) rfl ?_
        refine r_cV (d := _) (q130 (i := 18) rfl) rfl rfl rfl (k_47 S1) (Nat.le_of_ble_eq_true rfl) (Nat.zero_le _) (Nat.zero_le _) R2 ?_
        show Wp _ _ _ 35 [(0, .ref 47), (1, .int x)] [.int 1] h3 _ _
        refine r_if 49 (q130 (i := 19) rfl) (by decide) (fun zz => absurd zz (show ¬ ((1 : Int32) = 0) from by decide)) (fun _ => ?_)
        refine r_aload_n (q130 (i := 20) rfl) rfl ?_
        refine r_cV (d := _) (q130 (i := 21) rfl) rfl rfl rfl (k_47 (F2.S S1)) (Nat.le_of_ble_eq_true rfl) (Nat.zero_le _) (Nat.zero_le _) R3 ?_
        show Wp _ _ _ 42 [(0, .ref 47), (1, .int x)] [.int 1] h3 _ _
        refine r_if 49 (q130 (i := 22) rfl) (by decide) (fun zz => absurd zz (show ¬ ((1 : Int32) = 0) from by decide)) (fun _ => ?_)
        refine r_iconst (v := 1) (q130 (i := 23) rfl) (by decide) ?_
        refine r_goto 50 (q130 (i := 24) rfl) (by decide) ?_
        refine r_istore_n (ls' := [(2, .int 1), (0, .ref 47), (1, .int x)]) (q130 (i := 26) rfl) (Nat.le_of_ble_eq_true rfl) rfl ?_
        exact kk _ rfl rfl rfl
