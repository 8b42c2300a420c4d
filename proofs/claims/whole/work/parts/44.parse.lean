/-! ===== the whole text ===== -/
def hfin (B : Nat → Int32) (z n : Nat) (q : hst) (r : pres) : pres := if lst (hbad n q) q.1 < q.1 then .error (2, q.2.2 (lst (hbad n q) q.1)) else r.bind (Fex B z 10)
def putT (h : hp) : hp := sI (sI (sI h 35 9 (hI h 36 3)) 35 10 (hI h 36 4)) 35 12 (2 * hI h 36 0 + 1)
theorem PS_put {h : hp} {z : Nat} {r : pres} (P : PS h z r) : PS (putT h) z r := by
  cases r with
  | ok s => exact P
  | error e => exact P
theorem FrZ_put (h : hp) : FrZ h (putT h) := ((FrZ.w35 (by decide) _).tr (FrZ.w35 (by decide) _)).tr (FrZ.w35 (by decide) _)
set_option maxHeartbeats 2000000 in
set_option maxRecDepth 10000 in
theorem hd_42 {d : Nat} {h : hp} (S : Sh h) {B : Nat → Int32} {z : Nat} (T : TC h B z) {r : pres} (P : PS h z r) {q : hst} (D : HD h q) {n : Nat} (h8 : hI h 35 8 = nI n) (hn : n ≤ 12) : ∃ h', PS h' z (hfin B z n q r) ∧ HD h' q ∧ FrZ h h' ∧ ∀ (Q : resP) (bc bs : Nat), Q none (putT h') → ∀ (ls : List (Nat × Value)), ls.lookup 0 = some (.ref 35) → Wp (Ex (d + 4)) 7 Q 42 ls [] h bc bs := by
  have R1 := sp_askH (d := d + 1) S D h8 hn
  by_cases g : lst (hbad n q) q.1 < q.1
  · rw [if_pos g] at R1
    have F1 : FrE h (sI (sI h 35 14 2) 35 15 (nI (q.2.2 (lst (hbad n q) q.1)))) := (FrE.w (by decide) _).tr (FrE.w (by decide) _)
    have P1 : PS (sI (sI h 35 14 2) 35 15 (nI (q.2.2 (lst (hbad n q) q.1)))) z (.error (2, q.2.2 (lst (hbad n q) q.1))) := ⟨rfl, rfl, show 0 < 2 by decide, show 2 < 7 by decide⟩
    have S1 := F1.S S
    obtain ⟨h2, R2, P2, F2⟩ := sp_expect (d := d + 1) S1 (F1.T T) P1 (c := 10) (by decide)
    have F12 := F1.tr F2
    have S2 := F12.S S
    have e : hfin B z n q r = .error (2, q.2.2 (lst (hbad n q) q.1)) := if_pos g
    rw [e]
    refine ⟨h2, P2, F12.D D, F12.Z, ?_⟩
    intro Q bc bs hQ ls l0
    refine r_aload_n (q7 (i := 21) rfl) l0 ?_
    refine r_cV (d := _) (q7 (i := 22) rfl) rfl rfl rfl (k_35 S) (Nat.le_of_ble_eq_true rfl) (Nat.zero_le _) (Nat.zero_le _) R1 ?_
    show Wp _ _ _ 46 ls [] (sI (sI h 35 14 2) 35 15 (nI (q.2.2 (lst (hbad n q) q.1)))) _ _
    refine r_aload_n (q7 (i := 23) rfl) l0 ?_
    refine r_bipush (v := 10) (q7 (i := 24) rfl) (by decide) ?_
    refine r_cV (d := _) (q7 (i := 25) rfl) rfl rfl rfl (k_35 S1) (Nat.le_of_ble_eq_true rfl) (Nat.zero_le _) (Nat.zero_le _) R2 ?_
    show Wp _ _ _ 52 ls [] h2 _ _
    refine r_aload_n (q7 (i := 26) rfl) l0 ?_
    refine r_aload_n (q7 (i := 27) rfl) l0 ?_
    refine r_getR (b := 36) (q7 (i := 28) rfl) rfl (by decide) (k_35 S2) (fun _ _ _ => rfl) (r_35_1 S2) ?_
    refine r_iconst (v := nI 3) (q7 (i := 29) rfl) (by decide) ?_
    refine r_iaN (x := hI h2 36 3) (q7 (i := 30) rfl) (k_36 S2) (by decide) (by decide) rfl ?_
    refine r_putI (q7 (i := 31) rfl) rfl (by decide) (k_35 S2) rfl rfl ?_
    refine r_aload_n (q7 (i := 32) rfl) l0 ?_
    refine r_aload_n (q7 (i := 33) rfl) l0 ?_
    refine r_getR (b := 36) (q7 (i := 34) rfl) rfl (by decide) (k_35 S2) (fun _ _ _ => rfl) (r_35_1 S2) ?_
    refine r_iconst (v := nI 4) (q7 (i := 35) rfl) (by decide) ?_
    refine r_iaN (x := hI h2 36 4) (q7 (i := 36) rfl) (k_36 S2) (by decide) (by decide) rfl ?_
    refine r_putI (q7 (i := 37) rfl) rfl (by decide) (k_35 S2) rfl rfl ?_
    refine r_aload_n (q7 (i := 38) rfl) l0 ?_
    refine r_iconst (v := 2) (q7 (i := 39) rfl) (by decide) ?_
    refine r_aload_n (q7 (i := 40) rfl) l0 ?_
    refine r_getR (b := 36) (q7 (i := 41) rfl) rfl (by decide) (k_35 S2) (fun _ _ _ => rfl) (r_35_1 S2) ?_
    refine r_iconst (v := nI 0) (q7 (i := 42) rfl) (by decide) ?_
    refine r_iaN (x := hI h2 36 0) (q7 (i := 43) rfl) (k_36 S2) (by decide) (by decide) rfl ?_
    refine r_imul (q7 (i := 44) rfl) ?_
    refine r_iconst (v := 1) (q7 (i := 45) rfl) (by decide) ?_
    refine r_iadd (q7 (i := 46) rfl) ?_
    refine r_putI (q7 (i := 47) rfl) rfl (by decide) (k_35 S2) rfl rfl ?_
    exact r_vret (q7 (i := 48) rfl) rfl hQ
  · rw [if_neg g] at R1
    obtain ⟨h2, R2, P2, F2⟩ := sp_expect (d := d + 1) S T P (c := 10) (by decide)
    have S2 := F2.S S
    have e : hfin B z n q r = r.bind (Fex B z 10) := if_neg g
    rw [e]
    refine ⟨h2, P2, F2.D D, F2.Z, ?_⟩
    intro Q bc bs hQ ls l0
    refine r_aload_n (q7 (i := 21) rfl) l0 ?_
    refine r_cV (d := _) (q7 (i := 22) rfl) rfl rfl rfl (k_35 S) (Nat.le_of_ble_eq_true rfl) (Nat.zero_le _) (Nat.zero_le _) R1 ?_
    show Wp _ _ _ 46 ls [] h _ _
    refine r_aload_n (q7 (i := 23) rfl) l0 ?_
    refine r_bipush (v := 10) (q7 (i := 24) rfl) (by decide) ?_
    refine r_cV (d := _) (q7 (i := 25) rfl) rfl rfl rfl (k_35 S) (Nat.le_of_ble_eq_true rfl) (Nat.zero_le _) (Nat.zero_le _) R2 ?_
    show Wp _ _ _ 52 ls [] h2 _ _
    refine r_aload_n (q7 (i := 26) rfl) l0 ?_
    refine r_aload_n (q7 (i := 27) rfl) l0 ?_
    refine r_getR (b := 36) (q7 (i := 28) rfl) rfl (by decide) (k_35 S2) (fun _ _ _ => rfl) (r_35_1 S2) ?_
    refine r_iconst (v := nI 3) (q7 (i := 29) rfl) (by decide) ?_
    refine r_iaN (x := hI h2 36 3) (q7 (i := 30) rfl) (k_36 S2) (by decide) (by decide) rfl ?_
    refine r_putI (q7 (i := 31) rfl) rfl (by decide) (k_35 S2) rfl rfl ?_
    refine r_aload_n (q7 (i := 32) rfl) l0 ?_
    refine r_aload_n (q7 (i := 33) rfl) l0 ?_
    refine r_getR (b := 36) (q7 (i := 34) rfl) rfl (by decide) (k_35 S2) (fun _ _ _ => rfl) (r_35_1 S2) ?_
    refine r_iconst (v := nI 4) (q7 (i := 35) rfl) (by decide) ?_
    refine r_iaN (x := hI h2 36 4) (q7 (i := 36) rfl) (k_36 S2) (by decide) (by decide) rfl ?_
    refine r_putI (q7 (i := 37) rfl) rfl (by decide) (k_35 S2) rfl rfl ?_
    refine r_aload_n (q7 (i := 38) rfl) l0 ?_
    refine r_iconst (v := 2) (q7 (i := 39) rfl) (by decide) ?_
    refine r_aload_n (q7 (i := 40) rfl) l0 ?_
    refine r_getR (b := 36) (q7 (i := 41) rfl) rfl (by decide) (k_35 S2) (fun _ _ _ => rfl) (r_35_1 S2) ?_
    refine r_iconst (v := nI 0) (q7 (i := 42) rfl) (by decide) ?_
    refine r_iaN (x := hI h2 36 0) (q7 (i := 43) rfl) (k_36 S2) (by decide) (by decide) rfl ?_
    refine r_imul (q7 (i := 44) rfl) ?_
    refine r_iconst (v := 1) (q7 (i := 45) rfl) (by decide) ?_
    refine r_iadd (q7 (i := 46) rfl) ?_
    refine r_putI (q7 (i := 47) rfl) rfl (by decide) (k_35 S2) rfl rfl ?_
    exact r_vret (q7 (i := 48) rfl) rfl hQ
theorem hdR_cnt (B : Nat → Int32) (z : Nat) : ∀ m a q a', (hdR B z m a q).2 = .ok a' → (hdR B z m a q).1.1 = q.1 + m
  | 0, a, q, a', h => rfl
  | m + 1, a, q, a', h => by
    unfold hdR at h ⊢
    split
    · rename_i g
      rw [if_pos g] at h
      split
      · rename_i g2
        rw [if_pos g2] at h
        have := hdR_cnt B z m _ _ a' h
        rw [this]
        show q.1 + 1 + m = q.1 + (m + 1)
        omega
      · rename_i g2
        rw [if_neg g2] at h
        cases h
    · rename_i g
      rw [if_neg g] at h
      cases h
theorem Fhead_ok {B : Nat → Int32} {z n a : Nat} {hv : Nat → Nat} (h : Fhead B z n = .ok (a, hv)) : (hdR B z 5 3 h00).1.1 = 5 ∧ (hdR B z 5 3 h00).1.2.1 = hv ∧ hv 0 ≤ 1000 ∧ hv 1 = n ∧ hv 3 ≤ 10 ∧ hv 4 ≤ 119 ∧ n + hv 4 ≤ hv 0 := by
  unfold Fhead at h
  split at h
  · split at h
    · split at h
      · split at h
        · cases h
        · rename_i g
          cases e : (hdR B z 5 3 h00).2 with
          | error e2 => rw [e] at h; cases h
          | ok a2 =>
            rw [e] at h
            have hc := hdR_cnt B z 5 3 h00 a2 e
            have hc : (hdR B z 5 3 h00).1.1 = 5 := hc
            have hb : ∀ k, k < 5 → hbad n (hdR B z 5 3 h00).1 k = false := by
              intro k hk
              obtain ⟨x1, x2, x3⟩ := lst_facts (hbad n (hdR B z 5 3 h00).1) (hdR B z 5 3 h00).1.1
              exact x2 k (by omega)
            have h : (if cb B z a2 = 10 then (Except.ok (a2 + 1, (hdR B z 5 3 h00).1.2.1) : Except (Nat × Nat) (Nat × (Nat → Nat))) else .error (1, a2)) = .ok (a, hv) := h
            split at h
            · have hv2 : (hdR B z 5 3 h00).1.2.1 = hv := (Prod.mk.inj (Except.ok.inj h)).2
              have b0 := of_decide_eq_false (hb 0 (by decide))
              have b1 := of_decide_eq_false (hb 1 (by decide))
              have b3 := of_decide_eq_false (hb 3 (by decide))
              have b4 := of_decide_eq_false (hb 4 (by decide))
              rw [hv2] at b0 b1 b3 b4
              have b1 : hv 1 = n := Classical.not_not.mp b1
              refine ⟨hc, hv2, ?_, b1, by omega, by omega, ?_⟩
              · rcases Nat.lt_or_ge 1000 (hv 0) with y | y
                · exact absurd (Or.inl y) b0
                · exact y
              · rcases Nat.lt_or_ge (hv 0) (hv 1 + hv 4) with y | y
                · exact absurd (Or.inr ⟨hc, y⟩) b0
                · omega
            · cases h
      · cases h
    · cases h
  · cases h
/-- what the head leaves: a FAULT, or the place behind it -/
def HQ (h' : hp) (z : Nat) (s : pst) (r : Except (Nat × Nat) (Nat × (Nat → Nat))) : Prop := match r with
  | .error e => PS h' z (.error e)
  | .ok q => PS h' z (.ok (q.1, s.2)) ∧ hI h' 35 9 = nI (q.2 3) ∧ hI h' 35 10 = nI (q.2 4) ∧ hI h' 35 12 = nI (2 * q.2 0 + 1)
set_option maxHeartbeats 2000000 in
set_option maxRecDepth 10000 in
theorem sp_head {d : Nat} {h : hp} (S : Sh h) {B : Nat → Int32} {z : Nat} (T : TC h B z) {s : pst} (hs : s.1 = 0) (P : PS h z (.ok s)) (D : HD h h00) {n : Nat} (h8 : hI h 35 8 = nI n) (hn : n ≤ 12) : ∃ h', Run (d + 4 + 1) 7 [.ref 35] h 0 0 none h' ∧ HQ h' z s (Fhead B z n) ∧ FrZ h h' := by
  obtain ⟨h1, R1, P1, F1⟩ := sp_expect (d := d + 1) S T P (c := 97) (by decide)
  have S1 := F1.S S
  obtain ⟨h2, R2, P2, F2⟩ := sp_expect (d := d + 1) S1 (F1.T T) P1 (c := 97) (by decide)
  have F12 := F1.tr F2
  have S2 := F12.S S
  obtain ⟨h3, R3, P3, F3⟩ := sp_expect (d := d + 1) S2 (F12.T T) P2 (c := 103) (by decide)
  have F13 := F12.tr F3
  have S3 := F13.S S
  have T3 := F13.T T
  have D3 := F13.D D
  have h83 : hI h3 35 8 = nI n := F13.Z.2.2.trans h8
  have bad : ∀ e, ((((Except.ok s : pres).bind (Fex B z 97)).bind (Fex B z 97)).bind (Fex B z 103)) = .error e → Fhead B z n = .error e → ∃ h', Run (d + 4 + 1) 7 [.ref 35] h 0 0 none h' ∧ HQ h' z s (Fhead B z n) ∧ FrZ h h' := by
    intro e he hf
    rw [he] at P3
    obtain ⟨h4, P4, D4, F4, K4⟩ := hd_42 (d := d) S3 T3 P3 D3 h83 hn
    have e4 : hfin B z n h00 (.error e) = .error e := rfl
    rw [e4] at P4
    rw [hf]
    refine ⟨putT h4, ?_, PS_put P4, F13.Z.tr (F4.tr (FrZ_put h4))⟩
    refine Run.of (Nat.le_of_ble_eq_true rfl) (fun Q hQ => ?_)
    show Wp (Ex (d + 4)) 7 Q 0 [(0, .ref 35)] [] h 0 0
    refine r_aload_n (q7 (i := 0) rfl) rfl ?_
    refine r_bipush (v := nI 97) (q7 (i := 1) rfl) (by decide) ?_
    refine r_cV (d := _) (q7 (i := 2) rfl) rfl rfl rfl (k_35 S) (Nat.le_of_ble_eq_true rfl) (Nat.zero_le _) (Nat.zero_le _) R1 ?_
    show Wp _ _ _ 6 [(0, .ref 35)] [] h1 _ _
    refine r_aload_n (q7 (i := 3) rfl) rfl ?_
    refine r_bipush (v := nI 97) (q7 (i := 4) rfl) (by decide) ?_
    refine r_cV (d := _) (q7 (i := 5) rfl) rfl rfl rfl (k_35 S1) (Nat.le_of_ble_eq_true rfl) (Nat.zero_le _) (Nat.zero_le _) R2 ?_
    show Wp _ _ _ 12 [(0, .ref 35)] [] h2 _ _
    refine r_aload_n (q7 (i := 6) rfl) rfl ?_
    refine r_bipush (v := nI 103) (q7 (i := 7) rfl) (by decide) ?_
    refine r_cV (d := _) (q7 (i := 8) rfl) rfl rfl rfl (k_35 S2) (Nat.le_of_ble_eq_true rfl) (Nat.zero_le _) (Nat.zero_le _) R3 ?_
    show Wp _ _ _ 18 [(0, .ref 35)] [] h3 _ _
    refine r_iconst (v := 0) (q7 (i := 9) rfl) (by decide) ?_
    refine r_istore_n (ls' := [(1, .int 0), (0, .ref 35)]) (q7 (i := 10) rfl) (Nat.le_of_ble_eq_true rfl) rfl ?_
    exact hd_out S3 P3 (fun ls l0 => K4 Q 0 0 hQ ls l0) 0 _ rfl rfl
  by_cases g0 : cb B z s.1 = 97
  · have e0 : Fex B z 97 s = .ok (s.1 + 1, s.2) := if_pos g0
    by_cases g1 : cb B z (s.1 + 1) = 97
    · have e1 : Fex B z 97 (s.1 + 1, s.2) = .ok (s.1 + 1 + 1, s.2) := if_pos g1
      by_cases g2 : cb B z (s.1 + 1 + 1) = 103
      · have e2 : Fex B z 103 (s.1 + 1 + 1, s.2) = .ok (s.1 + 1 + 1 + 1, s.2) := if_pos g2
        have er : ((((Except.ok s : pres).bind (Fex B z 97)).bind (Fex B z 97)).bind (Fex B z 103)) = .ok (3, s.2) := by
          show ((Fex B z 97 s).bind (Fex B z 97)).bind (Fex B z 103) = _
          rw [e0]
          show (Fex B z 97 (s.1 + 1, s.2)).bind (Fex B z 103) = _
          rw [e1]
          show Fex B z 103 (s.1 + 1 + 1, s.2) = _
          rw [e2, hs]
        rw [er] at P3
        rw [hs] at g0 g1 g2
        obtain ⟨h4, P4, D4, F4, K4⟩ := lp_hd (d := d) (B := B) 5 0 (3, s.2) h00 h3 rfl rfl S3 T3 P3 D3
        have G4 := F13.Z.tr F4
        obtain ⟨h5, P5, D5, F5, K5⟩ := hd_42 (d := d) (G4.S S) (G4.T T) P4 D4 (G4.2.2.trans h8) hn
        have G5 := G4.tr F5
        refine ⟨putT h5, ?_, ?_, G5.tr (FrZ_put h5)⟩
        · refine Run.of (Nat.le_of_ble_eq_true rfl) (fun Q hQ => ?_)
          show Wp (Ex (d + 4)) 7 Q 0 [(0, .ref 35)] [] h 0 0
          refine r_aload_n (q7 (i := 0) rfl) rfl ?_
          refine r_bipush (v := nI 97) (q7 (i := 1) rfl) (by decide) ?_
          refine r_cV (d := _) (q7 (i := 2) rfl) rfl rfl rfl (k_35 S) (Nat.le_of_ble_eq_true rfl) (Nat.zero_le _) (Nat.zero_le _) R1 ?_
          show Wp _ _ _ 6 [(0, .ref 35)] [] h1 _ _
          refine r_aload_n (q7 (i := 3) rfl) rfl ?_
          refine r_bipush (v := nI 97) (q7 (i := 4) rfl) (by decide) ?_
          refine r_cV (d := _) (q7 (i := 5) rfl) rfl rfl rfl (k_35 S1) (Nat.le_of_ble_eq_true rfl) (Nat.zero_le _) (Nat.zero_le _) R2 ?_
          show Wp _ _ _ 12 [(0, .ref 35)] [] h2 _ _
          refine r_aload_n (q7 (i := 6) rfl) rfl ?_
          refine r_bipush (v := nI 103) (q7 (i := 7) rfl) (by decide) ?_
          refine r_cV (d := _) (q7 (i := 8) rfl) rfl rfl rfl (k_35 S2) (Nat.le_of_ble_eq_true rfl) (Nat.zero_le _) (Nat.zero_le _) R3 ?_
          show Wp _ _ _ 18 [(0, .ref 35)] [] h3 _ _
          refine r_iconst (v := 0) (q7 (i := 9) rfl) (by decide) ?_
          refine r_istore_n (ls' := [(1, .int 0), (0, .ref 35)]) (q7 (i := 10) rfl) (Nat.le_of_ble_eq_true rfl) rfl ?_
          exact K4 Q 0 0 (fun ls l0 => K5 Q 0 0 hQ ls l0) _ rfl rfl
        · have ef : Fhead B z n = (if lst (hbad n (hdR B z 5 3 h00).1) (hdR B z 5 3 h00).1.1 < (hdR B z 5 3 h00).1.1 then .error (2, (hdR B z 5 3 h00).1.2.2 (lst (hbad n (hdR B z 5 3 h00).1) (hdR B z 5 3 h00).1.1)) else match (hdR B z 5 3 h00).2 with
            | .error e => .error e
            | .ok a => if cb B z a = 10 then .ok (a + 1, (hdR B z 5 3 h00).1.2.1) else .error (1, a)) := by
            unfold Fhead
            rw [if_pos g0, if_pos g1, if_pos g2]
            rfl
          have P5 : PS h5 z (hfin B z n (hdR B z 5 3 h00).1 (match (hdR B z 5 3 h00).2 with
            | .ok a => .ok (a, s.2)
            | .error e => .error e)) := P5
          have D5 : HD h5 (hdR B z 5 3 h00).1 := D5
          unfold hfin at P5
          by_cases gb : lst (hbad n (hdR B z 5 3 h00).1) (hdR B z 5 3 h00).1.1 < (hdR B z 5 3 h00).1.1
          · rw [if_pos gb] at P5 ef
            rw [ef]
            exact PS_put P5
          · rw [if_neg gb] at P5 ef
            rw [ef]
            cases e : (hdR B z 5 3 h00).2 with
            | error e =>
              rw [e] at P5
              exact PS_put P5
            | ok a =>
              have hc : (hdR B z 5 3 h00).1.1 = 5 := hdR_cnt B z 5 3 h00 a e
              rw [e] at P5
              have P5 : PS h5 z (if cb B z a = 10 then .ok (a + 1, s.2) else .error (1, a)) := P5
              show HQ (putT h5) z s (if cb B z a = 10 then .ok (a + 1, (hdR B z 5 3 h00).1.2.1) else .error (1, a))
              by_cases ga : cb B z a = 10
              · rw [if_pos ga] at P5
                rw [if_pos ga]
                refine ⟨PS_put P5, ?_, ?_, ?_⟩
                · exact (D5.2.2 3 (by omega)).1
                · exact (D5.2.2 4 (by omega)).1
                · show 2 * hI h5 36 0 + 1 = _
                  rw [(D5.2.2 0 (by omega)).1]
                  exact (congrArg (· + 1) (nI_mul 2 _)).trans (nI_1 _)
              · rw [if_neg ga] at P5
                rw [if_neg ga]
                exact PS_put P5
      · refine bad (1, 2) ?_ ?_
        · show ((Fex B z 97 s).bind (Fex B z 97)).bind (Fex B z 103) = _
          rw [e0]
          show (Fex B z 97 (s.1 + 1, s.2)).bind (Fex B z 103) = _
          rw [e1]
          show Fex B z 103 (s.1 + 1 + 1, s.2) = _
          unfold Fex
          rw [if_neg g2, hs]
        · rw [hs] at g0 g1 g2
          unfold Fhead
          rw [if_pos g0, if_pos g1, if_neg g2]
    · refine bad (1, 1) ?_ ?_
      · show ((Fex B z 97 s).bind (Fex B z 97)).bind (Fex B z 103) = _
        rw [e0]
        show (Fex B z 97 (s.1 + 1, s.2)).bind (Fex B z 103) = _
        have e1 : Fex B z 97 (s.1 + 1, s.2) = .error (1, s.1 + 1) := if_neg g1
        rw [e1, hs]
        rfl
      · rw [hs] at g0 g1
        unfold Fhead
        rw [if_pos g0, if_neg g1]
  · refine bad (1, 0) ?_ ?_
    · show ((Fex B z 97 s).bind (Fex B z 97)).bind (Fex B z 103) = _
      have e0 : Fex B z 97 s = .error (1, s.1) := if_neg g0
      rw [e0, hs]
      rfl
    · rw [hs] at g0
      unfold Fhead
      rw [if_neg g0]
def s00 : pst := (0, fun _ => 0, (fun _ => 0, fun _ => 0, 0), false, fun _ => 0, 0)
def FrY (h h' : hp) : Prop := h'.2 = h.2 ∧ ∀ k, k < 35 ∨ 41 < k → hI h' k = hI h k
def sta (h : hp) (n : Nat) : hp := sI (sI (sI (sI (sI (sI (sI (sI (sI (sI (sI (rI (rI h 36 (filI (hI h 36) 0 5)) 38 (filI (hI h 38) 0 1001)) 35 7 0) 35 8 (nI n)) 35 9 0) 35 10 0) 35 11 0) 35 12 0) 35 13 0) 35 14 0) 35 15 (-1)) 35 16 0) 35 17 0
set_option maxHeartbeats 2000000 in
set_option maxRecDepth 10000 in
theorem sp_start {d : Nat} {h : hp} (S : Sh h) (n : Nat) : Run (d + 1 + 1) 6 [.ref 35, .int (nI n)] h 0 0 none (sta h n) := by
  refine Run.of (Nat.le_of_ble_eq_true rfl) (fun Q hQ => ?_)
  show Wp (Ex (d + 1)) 6 Q 0 [(0, .ref 35), (1, .int (nI n))] [] h 0 0
  refine r_aload_n (q6 (i := 0) rfl) rfl ?_
  refine r_getR (b := 36) (q6 (i := 1) rfl) rfl (by decide) (k_35 S) (fun _ _ _ => rfl) (r_35_1 S) ?_
  refine r_iconst (v := 0) (q6 (i := 2) rfl) (by decide) ?_
  refine r_cS (d := _) (q6 (i := 3) rfl) rfl (Nat.le_of_ble_eq_true rfl) rfl rfl (Nat.le_of_ble_eq_true rfl) (Nat.zero_le _) (Nat.zero_le _) (sp_fillI (d := d) (k_36 S) (by decide) 0) ?_
  show Wp _ _ _ 8 [(0, .ref 35), (1, .int (nI n))] [] (rI h 36 (filI (hI h 36) 0 5)) _ _
  refine r_aload_n (q6 (i := 4) rfl) rfl ?_
  refine r_getR (b := 38) (q6 (i := 5) rfl) rfl (by decide) (k_35 (S.to (h' := rI h 36 (filI (hI h 36) 0 5)) rfl)) (fun _ _ _ => rfl) (r_35_3 (S.to (h' := rI h 36 (filI (hI h 36) 0 5)) rfl)) ?_
  refine r_iconst (v := 0) (q6 (i := 6) rfl) (by decide) ?_
  refine r_cS (d := _) (q6 (i := 7) rfl) rfl (Nat.le_of_ble_eq_true rfl) rfl rfl (Nat.le_of_ble_eq_true rfl) (Nat.zero_le _) (Nat.zero_le _) (sp_fillI (d := d) (h := rI h 36 (filI (hI h 36) 0 5)) (k_38 (S.to (h' := rI h 36 (filI (hI h 36) 0 5)) rfl)) (by decide) 0) ?_
  show Wp _ _ _ 16 [(0, .ref 35), (1, .int (nI n))] [] (rI (rI h 36 (filI (hI h 36) 0 5)) 38 (filI (hI h 38) 0 1001)) _ _
  refine r_aload_n (q6 (i := 8) rfl) rfl ?_
  refine r_iconst (v := 0) (q6 (i := 9) rfl) (by decide) ?_
  refine r_putI (q6 (i := 10) rfl) rfl (by decide) (k_35 (S.to (h' := rI (rI h 36 (filI (hI h 36) 0 5)) 38 (filI (hI h 38) 0 1001)) rfl)) rfl rfl ?_
  refine r_aload_n (q6 (i := 11) rfl) rfl ?_
  refine r_iload_n (q6 (i := 12) rfl) rfl ?_
  refine r_putI (q6 (i := 13) rfl) rfl (by decide) (k_35 (S.to (h' := rI (rI h 36 (filI (hI h 36) 0 5)) 38 (filI (hI h 38) 0 1001)) rfl)) rfl rfl ?_
  refine r_aload_n (q6 (i := 14) rfl) rfl ?_
  refine r_iconst (v := 0) (q6 (i := 15) rfl) (by decide) ?_
  refine r_putI (q6 (i := 16) rfl) rfl (by decide) (k_35 (S.to (h' := rI (rI h 36 (filI (hI h 36) 0 5)) 38 (filI (hI h 38) 0 1001)) rfl)) rfl rfl ?_
  refine r_aload_n (q6 (i := 17) rfl) rfl ?_
  refine r_iconst (v := 0) (q6 (i := 18) rfl) (by decide) ?_
  refine r_putI (q6 (i := 19) rfl) rfl (by decide) (k_35 (S.to (h' := rI (rI h 36 (filI (hI h 36) 0 5)) 38 (filI (hI h 38) 0 1001)) rfl)) rfl rfl ?_
  refine r_aload_n (q6 (i := 20) rfl) rfl ?_
  refine r_iconst (v := 0) (q6 (i := 21) rfl) (by decide) ?_
  refine r_putI (q6 (i := 22) rfl) rfl (by decide) (k_35 (S.to (h' := rI (rI h 36 (filI (hI h 36) 0 5)) 38 (filI (hI h 38) 0 1001)) rfl)) rfl rfl ?_
  refine r_aload_n (q6 (i := 23) rfl) rfl ?_
  refine r_iconst (v := 0) (q6 (i := 24) rfl) (by decide) ?_
  refine r_putI (q6 (i := 25) rfl) rfl (by decide) (k_35 (S.to (h' := rI (rI h 36 (filI (hI h 36) 0 5)) 38 (filI (hI h 38) 0 1001)) rfl)) rfl rfl ?_
  refine r_aload_n (q6 (i := 26) rfl) rfl ?_
  refine r_iconst (v := 0) (q6 (i := 27) rfl) (by decide) ?_
  refine r_putZ (q6 (i := 28) rfl) rfl (by decide) (k_35 (S.to (h' := rI (rI h 36 (filI (hI h 36) 0 5)) 38 (filI (hI h 38) 0 1001)) rfl)) rfl rfl (by decide) ?_
  refine r_aload_n (q6 (i := 29) rfl) rfl ?_
  refine r_iconst (v := 0) (q6 (i := 30) rfl) (by decide) ?_
  refine r_putI (q6 (i := 31) rfl) rfl (by decide) (k_35 (S.to (h' := rI (rI h 36 (filI (hI h 36) 0 5)) 38 (filI (hI h 38) 0 1001)) rfl)) rfl rfl ?_
  refine r_aload_n (q6 (i := 32) rfl) rfl ?_
  refine r_iconst (v := (-1)) (q6 (i := 33) rfl) (by decide) ?_
  refine r_putI (q6 (i := 34) rfl) rfl (by decide) (k_35 (S.to (h' := rI (rI h 36 (filI (hI h 36) 0 5)) 38 (filI (hI h 38) 0 1001)) rfl)) rfl rfl ?_
  refine r_aload_n (q6 (i := 35) rfl) rfl ?_
  refine r_iconst (v := 0) (q6 (i := 36) rfl) (by decide) ?_
  refine r_putI (q6 (i := 37) rfl) rfl (by decide) (k_35 (S.to (h' := rI (rI h 36 (filI (hI h 36) 0 5)) 38 (filI (hI h 38) 0 1001)) rfl)) rfl rfl ?_
  refine r_aload_n (q6 (i := 38) rfl) rfl ?_
  refine r_iconst (v := 0) (q6 (i := 39) rfl) (by decide) ?_
  refine r_putI (q6 (i := 40) rfl) rfl (by decide) (k_35 (S.to (h' := rI (rI h 36 (filI (hI h 36) 0 5)) 38 (filI (hI h 38) 0 1001)) rfl)) rfl rfl ?_
  exact r_vret (q6 (i := 41) rfl) rfl hQ
theorem sta_ok (h : hp) (n z : Nat) : PS (sta h n) z (.ok s00) ∧ HD (sta h n) h00 ∧ hI (sta h n) 35 8 = nI n ∧ FrY h (sta h n) := by
  refine ⟨⟨⟨rfl, rfl, Nat.zero_le z⟩, fun k hk => ⟨?_, Nat.zero_le _⟩, ⟨fun i hi => absurd hi (Nat.not_lt_zero i), rfl, by decide⟩, rfl, fun i hi => absurd hi (Nat.not_lt_zero i), by decide⟩, ⟨rfl, by decide, fun i hi => absurd hi (Nat.not_lt_zero i)⟩, rfl, rfl, fun k hk => ?_⟩
  · show (if k < 1001 then (0 : Int32) else _) = _
    rw [if_pos hk]; rfl
  · unfold sta
    show u2 (u2 (u2 (u2 (u2 (u2 (u2 (u2 (u2 (u2 (u2 (u1 (u1 h.1 36 _) 38 _) 35 _ _) 35 _ _) 35 _ _) 35 _ _) 35 _ _) 35 _ _) 35 _ _) 35 _ _) 35 _ _) 35 _ _) 35 _ _ k = _
    rw [u2_n (by omega), u2_n (by omega), u2_n (by omega), u2_n (by omega), u2_n (by omega), u2_n (by omega), u2_n (by omega), u2_n (by omega), u2_n (by omega), u2_n (by omega), u2_n (by omega), u1_n (by omega), u1_n (by omega)]
def Fend (z : Nat) (s : pst) : pres := if s.1 < z then .error (1, s.1) else .ok s
def Flines (B : Nat → Int32) (z n : Nat) (hv : Nat → Nat) (s : pst) : pres := (((Fins B z (2 * hv 0 + 1) n 0 s).bind (Fouts B z (2 * hv 0 + 1) (hv 3))).bind (Fands B z (2 * hv 0 + 1) n (hv 4))).bind (Fend z)
def Fbody (B : Nat → Int32) (z n : Nat) (hv : Nat → Nat) (s : pst) : pres := (Flines B z n hv s).bind (fun s => Fnd s.2.2.1.2.2 0 s)
set_option maxHeartbeats 2000000 in
set_option maxRecDepth 10000 in
theorem sp_ins_err {d : Nat} {h : hp} (S : Sh h) {z : Nat} {e : Nat × Nat} (P : PS h z (.error e)) : Run (d + 1) 12 [.ref 35] h 0 0 none h := by
  refine Run.of (Nat.le_of_ble_eq_true rfl) (fun Q hQ => ?_)
  show Wp (Ex d) 12 Q 0 [(0, .ref 35)] [] h 0 0
  refine r_iconst (v := 0) (q12 (i := 0) rfl) (by decide) ?_
  refine r_istore_n (ls' := [(1, .int 0), (0, .ref 35)]) (q12 (i := 1) rfl) (Nat.le_of_ble_eq_true rfl) rfl ?_
  refine r_iload_n (q12 (i := 2) rfl) rfl ?_
  refine r_aload_n (q12 (i := 3) rfl) rfl ?_
  refine r_getI (x := hI h 35 8) (q12 (i := 4) rfl) rfl (by decide) (k_35 S) (fun _ _ _ => rfl) rfl ?_
  refine r_icmp 36 (q12 (i := 5) rfl) (by decide) (fun c7 => ?_) (fun c7 => ?_)
  · have c7 : hI h 35 8 ≤ 0 := c7
    exact r_vret (q12 (i := 19) rfl) rfl hQ
  · have c7 : ¬ (hI h 35 8 ≤ 0) := c7
    refine r_aload_n (q12 (i := 6) rfl) rfl ?_
    refine r_getI (x := hI h 35 14) (q12 (i := 7) rfl) rfl (by decide) (k_35 S) (fun _ _ _ => rfl) rfl ?_
    refine r_if 36 (q12 (i := 8) rfl) (by decide) (fun _ => ?_) (fun zz => absurd (show ¬ hI h 35 14 = 0 from err_ne P) zz)
    exact r_vret (q12 (i := 19) rfl) rfl hQ
set_option maxHeartbeats 2000000 in
set_option maxRecDepth 10000 in
theorem sp_outs_err {d : Nat} {h : hp} (S : Sh h) {z : Nat} {e : Nat × Nat} (P : PS h z (.error e)) : Run (d + 1) 13 [.ref 35] h 0 0 none h := by
  refine Run.of (Nat.le_of_ble_eq_true rfl) (fun Q hQ => ?_)
  show Wp (Ex d) 13 Q 0 [(0, .ref 35)] [] h 0 0
  refine r_iconst (v := 0) (q13 (i := 0) rfl) (by decide) ?_
  refine r_istore_n (ls' := [(1, .int 0), (0, .ref 35)]) (q13 (i := 1) rfl) (Nat.le_of_ble_eq_true rfl) rfl ?_
  refine r_iload_n (q13 (i := 2) rfl) rfl ?_
  refine r_aload_n (q13 (i := 3) rfl) rfl ?_
  refine r_getI (x := hI h 35 9) (q13 (i := 4) rfl) rfl (by decide) (k_35 S) (fun _ _ _ => rfl) rfl ?_
  refine r_icmp 33 (q13 (i := 5) rfl) (by decide) (fun c7 => ?_) (fun c7 => ?_)
  · have c7 : hI h 35 9 ≤ 0 := c7
    exact r_vret (q13 (i := 16) rfl) rfl hQ
  · have c7 : ¬ (hI h 35 9 ≤ 0) := c7
    refine r_aload_n (q13 (i := 6) rfl) rfl ?_
    refine r_getI (x := hI h 35 14) (q13 (i := 7) rfl) rfl (by decide) (k_35 S) (fun _ _ _ => rfl) rfl ?_
    refine r_if 33 (q13 (i := 8) rfl) (by decide) (fun _ => ?_) (fun zz => absurd (show ¬ hI h 35 14 = 0 from err_ne P) zz)
    exact r_vret (q13 (i := 16) rfl) rfl hQ
set_option maxHeartbeats 2000000 in
set_option maxRecDepth 10000 in
theorem sp_ands_err {d : Nat} {h : hp} (S : Sh h) {z : Nat} {e : Nat × Nat} (P : PS h z (.error e)) : Run (d + 1) 14 [.ref 35] h 0 0 none h := by
  refine Run.of (Nat.le_of_ble_eq_true rfl) (fun Q hQ => ?_)
  show Wp (Ex d) 14 Q 0 [(0, .ref 35)] [] h 0 0
  refine r_iconst (v := 0) (q14 (i := 0) rfl) (by decide) ?_
  refine r_istore_n (ls' := [(1, .int 0), (0, .ref 35)]) (q14 (i := 1) rfl) (Nat.le_of_ble_eq_true rfl) rfl ?_
  refine r_iload_n (q14 (i := 2) rfl) rfl ?_
  refine r_aload_n (q14 (i := 3) rfl) rfl ?_
  refine r_getI (x := hI h 35 10) (q14 (i := 4) rfl) rfl (by decide) (k_35 S) (fun _ _ _ => rfl) rfl ?_
  refine r_icmp 71 (q14 (i := 5) rfl) (by decide) (fun c7 => ?_) (fun c7 => ?_)
  · have c7 : hI h 35 10 ≤ 0 := c7
    exact r_vret (q14 (i := 38) rfl) rfl hQ
  · have c7 : ¬ (hI h 35 10 ≤ 0) := c7
    refine r_aload_n (q14 (i := 6) rfl) rfl ?_
    refine r_getI (x := hI h 35 14) (q14 (i := 7) rfl) rfl (by decide) (k_35 S) (fun _ _ _ => rfl) rfl ?_
    refine r_if 71 (q14 (i := 8) rfl) (by decide) (fun _ => ?_) (fun zz => absurd (show ¬ hI h 35 14 = 0 from err_ne P) zz)
    exact r_vret (q14 (i := 38) rfl) rfl hQ
set_option maxHeartbeats 2000000 in
set_option maxRecDepth 10000 in
theorem sp_nd_err {d : Nat} {h : hp} (S : Sh h) {z : Nat} {e : Nat × Nat} (P : PS h z (.error e)) : Run (d + 1) 20 [.ref 35] h 0 0 none h := by
  refine Run.of (Nat.le_of_ble_eq_true rfl) (fun Q hQ => ?_)
  show Wp (Ex d) 20 Q 0 [(0, .ref 35)] [] h 0 0
  refine r_iconst (v := 0) (q20 (i := 0) rfl) (by decide) ?_
  refine r_istore_n (ls' := [(1, .int 0), (0, .ref 35)]) (q20 (i := 1) rfl) (Nat.le_of_ble_eq_true rfl) rfl ?_
  refine r_iload_n (q20 (i := 2) rfl) rfl ?_
  refine r_aload_n (q20 (i := 3) rfl) rfl ?_
  refine r_getI (x := hI h 35 11) (q20 (i := 4) rfl) rfl (by decide) (k_35 S) (fun _ _ _ => rfl) rfl ?_
  refine r_icmp 61 (q20 (i := 5) rfl) (by decide) (fun c7 => ?_) (fun c7 => ?_)
  · have c7 : hI h 35 11 ≤ 0 := c7
    exact r_vret (q20 (i := 35) rfl) rfl hQ
  · have c7 : ¬ (hI h 35 11 ≤ 0) := c7
    refine r_aload_n (q20 (i := 6) rfl) rfl ?_
    refine r_getI (x := hI h 35 14) (q20 (i := 7) rfl) rfl (by decide) (k_35 S) (fun _ _ _ => rfl) rfl ?_
    refine r_if 61 (q20 (i := 8) rfl) (by decide) (fun _ => ?_) (fun zz => absurd (show ¬ hI h 35 14 = 0 from err_ne P) zz)
    exact r_vret (q20 (i := 35) rfl) rfl hQ
set_option maxHeartbeats 2000000 in
set_option maxRecDepth 10000 in
theorem sp_ins {d : Nat} {B : Nat → Int32} {z H : Nat} (hH : H ≤ 2001) {n : Nat} (hn : n ≤ 12) {r : pres} {h : hp} (S : Sh h) (T : TC h B z) (P : PS h z r) (h12 : hI h 35 12 = nI H) (hc : hI h 35 8 = nI n) : ∃ h', Run (d + 4 + 1) 12 [.ref 35] h 0 0 none h' ∧ PS h' z (r.bind (Fins B z H n 0)) ∧ FrX h h' := by
  obtain ⟨h', P', F', hk⟩ := lp_ins (d := d) hH hn n 0 r h (Nat.zero_add n) S T P hc h12
  refine ⟨h', ?_, P', F'⟩
  refine Run.of (Nat.le_of_ble_eq_true rfl) (fun Q hQ => ?_)
  show Wp (Ex (d + 4)) 12 Q 0 [(0, .ref 35)] [] h 0 0
  refine r_iconst (v := 0) (q12 (i := 0) rfl) (by decide) ?_
  refine r_istore_n (ls' := [(1, .int 0), (0, .ref 35)]) (q12 (i := 1) rfl) (Nat.le_of_ble_eq_true rfl) rfl ?_
  exact hk Q hQ _ _ _ rfl rfl
set_option maxHeartbeats 2000000 in
set_option maxRecDepth 10000 in
theorem sp_outs {d : Nat} {B : Nat → Int32} {z H : Nat} (hH : H ≤ 2001) {O : Nat} (hO : O ≤ 10) {r : pres} {h : hp} (S : Sh h) (T : TC h B z) (P : PS h z r) (h12 : hI h 35 12 = nI H) (hc : hI h 35 9 = nI O) (hu : ∀ s, r = .ok s → s.2.2.1.2.2 = 0) : ∃ h', Run (d + 4 + 1) 13 [.ref 35] h 0 0 none h' ∧ PS h' z (r.bind (Fouts B z H O)) ∧ FrX h h' := by
  obtain ⟨h', P', F', hk⟩ := lp_outs (d := d) hH hO O 0 r h (Nat.zero_add O) S T P hc h12 hu
  refine ⟨h', ?_, P', F'⟩
  refine Run.of (Nat.le_of_ble_eq_true rfl) (fun Q hQ => ?_)
  show Wp (Ex (d + 4)) 13 Q 0 [(0, .ref 35)] [] h 0 0
  refine r_iconst (v := 0) (q13 (i := 0) rfl) (by decide) ?_
  refine r_istore_n (ls' := [(1, .int 0), (0, .ref 35)]) (q13 (i := 1) rfl) (Nat.le_of_ble_eq_true rfl) rfl ?_
  exact hk Q hQ _ _ _ rfl rfl
set_option maxHeartbeats 2000000 in
set_option maxRecDepth 10000 in
theorem sp_ands {d : Nat} {B : Nat → Int32} {z H : Nat} (hH : H ≤ 2001) {n N O : Nat} (hn : n ≤ 12) (hN : N ≤ 119) (hO : O ≤ 10) {r : pres} {h : hp} (S : Sh h) (T : TC h B z) (P : PS h z r) (h12 : hI h 35 12 = nI H) (hc : hI h 35 10 = nI N) (h8 : hI h 35 8 = nI n) (hu : ∀ s, r = .ok s → s.2.2.2.2.2 = 0 ∧ s.2.2.1.2.2 = O + 2 * 0) : ∃ h', Run (d + 4 + 1) 14 [.ref 35] h 0 0 none h' ∧ PS h' z (r.bind (Fands B z H n N)) ∧ FrX h h' := by
  obtain ⟨h', P', F', hk⟩ := lp_ands (d := d) hH hn hN hO N 0 r h (Nat.zero_add N) S T P hc h12 h8 hu
  refine ⟨h', ?_, P', F'⟩
  refine Run.of (Nat.le_of_ble_eq_true rfl) (fun Q hQ => ?_)
  show Wp (Ex (d + 4)) 14 Q 0 [(0, .ref 35)] [] h 0 0
  refine r_iconst (v := 0) (q14 (i := 0) rfl) (by decide) ?_
  refine r_istore_n (ls' := [(1, .int 0), (0, .ref 35)]) (q14 (i := 1) rfl) (Nat.le_of_ble_eq_true rfl) rfl ?_
  exact hk Q hQ _ _ _ rfl rfl
set_option maxHeartbeats 2000000 in
set_option maxRecDepth 10000 in
theorem sp_nd {d z : Nat} {s : pst} {h : hp} (S : Sh h) (P : PS h z (.ok s)) : ∃ h', Run (d + 2 + 1) 20 [.ref 35] h 0 0 none h' ∧ PS h' z (Fnd s.2.2.1.2.2 0 s) ∧ FrX h h' := by
  obtain ⟨h', P', F', hk⟩ := lp_nd (d := d) (z := z) s.2.2.1.2.2 0 (.ok s) h (by decide) S P (fun s' hs => by cases hs; omega)
  refine ⟨h', ?_, P', F'⟩
  refine Run.of (Nat.le_of_ble_eq_true rfl) (fun Q hQ => ?_)
  show Wp (Ex (d + 2)) 20 Q 0 [(0, .ref 35)] [] h 0 0
  refine r_iconst (v := 0) (q20 (i := 0) rfl) (by decide) ?_
  refine r_istore_n (ls' := [(1, .int 0), (0, .ref 35)]) (q20 (i := 1) rfl) (Nat.le_of_ble_eq_true rfl) rfl ?_
  exact hk Q hQ _ _ _ rfl rfl
theorem Fins_ok {B : Nat → Int32} {z H : Nat} : ∀ (m i : Nat) (s s' : pst), Fins B z H m i s = .ok s' → s'.2.2 = s.2.2
  | 0, i, s, s', h => by cases h; rfl
  | m + 1, i, s, s', h => by
    obtain ⟨s1, a1, b1⟩ := bind_ok h
    obtain ⟨s2, a2, b2⟩ := bind_ok a1
    rw [Fins_ok m (i + 1) s1 s' b1, Fex_ok b2, Fdef_ok a2]
theorem Fouts_ok {B : Nat → Int32} {z H : Nat} : ∀ (m : Nat) (s s' : pst), Fouts B z H m s = .ok s' → s'.2.2.1.2.2 = s.2.2.1.2.2 + m ∧ s'.2.2.2.2 = s.2.2.2.2
  | 0, s, s', h => by cases h; exact ⟨rfl, rfl⟩
  | m + 1, s, s', h => by
    obtain ⟨s1, a1, b1⟩ := bind_ok h
    obtain ⟨s2, a2, b2⟩ := bind_ok a1
    obtain ⟨x, y⟩ := Fouts_ok m s1 s' b1
    obtain ⟨p, q⟩ := Fuse_ok a2
    rw [x, y, Fex_ok b2, p, q]
    exact ⟨by omega, rfl⟩
set_option maxHeartbeats 2000000 in
set_option maxRecDepth 10000 in
theorem pa_21 {d : Nat} {h : hp} (S : Sh h) {B : Nat → Int32} {z : Nat} (T : TC h B z) {r : pres} (P : PS h z r) : ∃ h', PS h' z ((r.bind (Fend z)).bind (fun s => Fnd s.2.2.1.2.2 0 s)) ∧ FrX h h' ∧ ∀ (Q : resP) (bc bs : Nat), Q none h' → ∀ (ls : List (Nat × Value)), ls.lookup 0 = some (.ref 35) → Wp (Ex (d + 3)) 2 Q 21 ls [] h bc bs := by
  obtain ⟨t1, t2, t3⟩ := id T
  cases r with
  | error e =>
    refine ⟨h, P, FrX.rf h, ?_⟩
    intro Q bc bs hQ ls l0
    have R1 := sp_fail (d := d + 2) S 1 (hI h 35 16)
    rw [fail_err P] at R1
    have R2 := sp_nd_err (d := d + 2) S P
    refine r_aload_n (q2 (i := 11) rfl) l0 ?_
    refine r_getI (x := hI h 35 16) (q2 (i := 12) rfl) rfl (by decide) (k_35 S) (fun _ _ _ => rfl) rfl ?_
    refine r_aload_n (q2 (i := 13) rfl) l0 ?_
    refine r_getR (b := 33) (q2 (i := 14) rfl) rfl (by decide) (k_35 S) (fun _ _ _ => rfl) (r_35_0 S) ?_
    refine r_getI (x := nI z) (q2 (i := 15) rfl) rfl (by decide) (k_33 S) (fun _ _ _ => rfl) t2 ?_
    refine r_icmp 44 (q2 (i := 16) rfl) (by decide) (fun c32 => ?_) (fun c32 => ?_)
    · have c32 : nI z ≤ hI h 35 16 := c32
      refine r_aload_n (q2 (i := 22) rfl) l0 ?_
      refine r_cV (d := _) (q2 (i := 23) rfl) rfl rfl rfl (k_35 S) (Nat.le_of_ble_eq_true rfl) (Nat.zero_le _) (Nat.zero_le _) R2 ?_
      show Wp _ _ _ 48 ls [] h _ _
      exact r_vret (q2 (i := 24) rfl) rfl hQ
    · have c32 : ¬ (nI z ≤ hI h 35 16) := c32
      refine r_aload_n (q2 (i := 17) rfl) l0 ?_
      refine r_iconst (v := 1) (q2 (i := 18) rfl) (by decide) ?_
      refine r_aload_n (q2 (i := 19) rfl) l0 ?_
      refine r_getI (x := hI h 35 16) (q2 (i := 20) rfl) rfl (by decide) (k_35 S) (fun _ _ _ => rfl) rfl ?_
      refine r_cV (d := _) (q2 (i := 21) rfl) rfl rfl rfl (k_35 S) (Nat.le_of_ble_eq_true rfl) (Nat.zero_le _) (Nat.zero_le _) R1 ?_
      show Wp _ _ _ 44 ls [] h _ _
      refine r_aload_n (q2 (i := 22) rfl) l0 ?_
      refine r_cV (d := _) (q2 (i := 23) rfl) rfl rfl rfl (k_35 S) (Nat.le_of_ble_eq_true rfl) (Nat.zero_le _) (Nat.zero_le _) R2 ?_
      show Wp _ _ _ 48 ls [] h _ _
      exact r_vret (q2 (i := 24) rfl) rfl hQ
  | ok s =>
    have f16 := P.1.2.1
    have hz := P.1.2.2
    by_cases g : s.1 < z
    · have e : (Except.ok s : pres).bind (Fend z) = .error (1, s.1) := if_pos g
      rw [e]
      have P1 := PS_err P (f := 1) (by decide) s.1
      have F1 : FrX h (sI (sI h 35 14 (nI 1)) 35 15 (nI s.1)) := ((FrE.w (by decide) _).tr (FrE.w (by decide) _)).X
      refine ⟨sI (sI h 35 14 (nI 1)) 35 15 (nI s.1), P1, F1, ?_⟩
      intro Q bc bs hQ ls l0
      have R1 := sp_fail (d := d + 2) S 1 (nI s.1)
      rw [fail_ok P] at R1
      have R2 := sp_nd_err (d := d + 2) (F1.S S) P1
      refine r_aload_n (q2 (i := 11) rfl) l0 ?_
      refine r_getI (x := nI s.1) (q2 (i := 12) rfl) rfl (by decide) (k_35 S) (fun _ _ _ => rfl) f16 ?_
      refine r_aload_n (q2 (i := 13) rfl) l0 ?_
      refine r_getR (b := 33) (q2 (i := 14) rfl) rfl (by decide) (k_35 S) (fun _ _ _ => rfl) (r_35_0 S) ?_
      refine r_getI (x := nI z) (q2 (i := 15) rfl) rfl (by decide) (k_33 S) (fun _ _ _ => rfl) t2 ?_
      refine r_icmp 44 (q2 (i := 16) rfl) (by decide) (fun zz => absurd zz (show ¬ (nI z ≤ nI s.1) from nI_ge g (by omega))) (fun _ => ?_)
      refine r_aload_n (q2 (i := 17) rfl) l0 ?_
      refine r_iconst (v := 1) (q2 (i := 18) rfl) (by decide) ?_
      refine r_aload_n (q2 (i := 19) rfl) l0 ?_
      refine r_getI (x := nI s.1) (q2 (i := 20) rfl) rfl (by decide) (k_35 S) (fun _ _ _ => rfl) f16 ?_
      refine r_cV (d := _) (q2 (i := 21) rfl) rfl rfl rfl (k_35 S) (Nat.le_of_ble_eq_true rfl) (Nat.zero_le _) (Nat.zero_le _) R1 ?_
      show Wp _ _ _ 44 ls [] (sI (sI h 35 14 (nI 1)) 35 15 (nI s.1)) _ _
      refine r_aload_n (q2 (i := 22) rfl) l0 ?_
      refine r_cV (d := _) (q2 (i := 23) rfl) rfl rfl rfl (k_35 (F1.S S)) (Nat.le_of_ble_eq_true rfl) (Nat.zero_le _) (Nat.zero_le _) R2 ?_
      show Wp _ _ _ 48 ls [] (sI (sI h 35 14 (nI 1)) 35 15 (nI s.1)) _ _
      exact r_vret (q2 (i := 24) rfl) rfl hQ
    · have e : (Except.ok s : pres).bind (Fend z) = .ok s := if_neg g
      rw [e]
      obtain ⟨h', R2, P', F'⟩ := sp_nd (d := d) S P
      refine ⟨h', P', F', ?_⟩
      intro Q bc bs hQ ls l0
      refine r_aload_n (q2 (i := 11) rfl) l0 ?_
      refine r_getI (x := nI s.1) (q2 (i := 12) rfl) rfl (by decide) (k_35 S) (fun _ _ _ => rfl) f16 ?_
      refine r_aload_n (q2 (i := 13) rfl) l0 ?_
      refine r_getR (b := 33) (q2 (i := 14) rfl) rfl (by decide) (k_35 S) (fun _ _ _ => rfl) (r_35_0 S) ?_
      refine r_getI (x := nI z) (q2 (i := 15) rfl) rfl (by decide) (k_33 S) (fun _ _ _ => rfl) t2 ?_
      refine r_icmp 44 (q2 (i := 16) rfl) (by decide) (fun _ => ?_) (fun zz => absurd (show nI z ≤ nI s.1 from nI_le (by omega) (by omega)) zz)
      refine r_aload_n (q2 (i := 22) rfl) l0 ?_
      refine r_cV (d := _) (q2 (i := 23) rfl) rfl rfl rfl (k_35 S) (Nat.le_of_ble_eq_true rfl) (Nat.zero_le _) (Nat.zero_le _) R2 ?_
      show Wp _ _ _ 48 ls [] h' _ _
      exact r_vret (q2 (i := 24) rfl) rfl hQ
/-- what parse leaves -/
def PQ (h' : hp) (B : Nat → Int32) (z n : Nat) : Prop := match Fhead B z n with
  | .error e => PS h' z (.error e)
  | .ok q => PS h' z (Fbody B z n q.2 (q.1, s00.2)) ∧ hI h' 35 8 = nI n ∧ hI h' 35 9 = nI (q.2 3) ∧ hI h' 35 10 = nI (q.2 4)
set_option maxHeartbeats 2000000 in
set_option maxRecDepth 10000 in
theorem sp_parse {d : Nat} {h : hp} (S : Sh h) {B : Nat → Int32} {z n : Nat} (T : TC h B z) (hn : n ≤ 12) : ∃ h', Run (d + 5 + 1) 2 [.ref 35, .int (nI n)] h 0 0 none h' ∧ PQ h' B z n ∧ FrY h h' := by
  have R1 := sp_start (d := d + 3) S n
  obtain ⟨P1, D1, a8, Y1⟩ := sta_ok h n z
  have S1 : Sh (sta h n) := S.to (by rw [Y1.1])
  have T1 : TC (sta h n) B z := ⟨(Y1.2 34 (by decide)).trans T.1, by rw [Y1.2 33 (by decide)]; exact T.2.1, T.2.2⟩
  obtain ⟨h2, R2, H2, F2⟩ := sp_head (d := d) S1 T1 rfl P1 D1 a8 hn
  have S2 := F2.S S1
  have T2 := F2.T T1
  have c8 : hI h2 35 8 = nI n := F2.2.2.trans a8
  unfold PQ
  cases eh : Fhead B z n with
  | error e =>
    rw [eh] at H2
    have H2 : PS h2 z (.error e) := H2
    have R3 := sp_ins_err (d := d + 4) S2 H2
    have R4 := sp_outs_err (d := d + 4) S2 H2
    have R5 := sp_ands_err (d := d + 4) S2 H2
    obtain ⟨h6, P6, F6, K6⟩ := pa_21 (d := d + 2) S2 T2 H2
    refine ⟨h6, ?_, P6, F6.1.trans (F2.1.trans Y1.1), fun k hk => (F6.2.1 k hk).trans ((F2.2.1 k hk).trans (Y1.2 k hk))⟩
    refine Run.of (Nat.le_of_ble_eq_true rfl) (fun Q hQ => ?_)
    show Wp (Ex (d + 5)) 2 Q 0 [(0, .ref 35), (1, .int (nI n))] [] h 0 0
    refine r_aload_n (q2 (i := 0) rfl) rfl ?_
    refine r_iload_n (q2 (i := 1) rfl) rfl ?_
    refine r_cV (d := _) (q2 (i := 2) rfl) rfl rfl rfl (k_35 S) (Nat.le_of_ble_eq_true rfl) (Nat.zero_le _) (Nat.zero_le _) R1 ?_
    show Wp _ _ _ 5 [(0, .ref 35), (1, .int (nI n))] [] (sta h n) _ _
    refine r_aload_n (q2 (i := 3) rfl) rfl ?_
    refine r_cV (d := _) (q2 (i := 4) rfl) rfl rfl rfl (k_35 S1) (Nat.le_of_ble_eq_true rfl) (Nat.zero_le _) (Nat.zero_le _) R2 ?_
    show Wp _ _ _ 9 [(0, .ref 35), (1, .int (nI n))] [] h2 _ _
    refine r_aload_n (q2 (i := 5) rfl) rfl ?_
    refine r_cV (d := _) (q2 (i := 6) rfl) rfl rfl rfl (k_35 S2) (Nat.le_of_ble_eq_true rfl) (Nat.zero_le _) (Nat.zero_le _) R3 ?_
    show Wp _ _ _ 13 [(0, .ref 35), (1, .int (nI n))] [] h2 _ _
    refine r_aload_n (q2 (i := 7) rfl) rfl ?_
    refine r_cV (d := _) (q2 (i := 8) rfl) rfl rfl rfl (k_35 S2) (Nat.le_of_ble_eq_true rfl) (Nat.zero_le _) (Nat.zero_le _) R4 ?_
    show Wp _ _ _ 17 [(0, .ref 35), (1, .int (nI n))] [] h2 _ _
    refine r_aload_n (q2 (i := 9) rfl) rfl ?_
    refine r_cV (d := _) (q2 (i := 10) rfl) rfl rfl rfl (k_35 S2) (Nat.le_of_ble_eq_true rfl) (Nat.zero_le _) (Nat.zero_le _) R5 ?_
    show Wp _ _ _ 21 [(0, .ref 35), (1, .int (nI n))] [] h2 _ _
    exact K6 Q 0 0 hQ _ rfl
  | ok q =>
    obtain ⟨a, hv⟩ := q
    obtain ⟨_, _, m0, m1, m3, m4, m5⟩ := Fhead_ok eh
    rw [eh] at H2
    obtain ⟨P2, b9, b10, b12⟩ := H2
    have P2 : PS h2 z (.ok (a, s00.2)) := P2
    have b9 : hI h2 35 9 = nI (hv 3) := b9
    have b10 : hI h2 35 10 = nI (hv 4) := b10
    have b12 : hI h2 35 12 = nI (2 * hv 0 + 1) := b12
    obtain ⟨h3, R3, P3, F3⟩ := sp_ins (d := d) (H := 2 * hv 0 + 1) (by omega) hn S2 T2 P2 b12 c8
    have S3 := F3.S S2
    obtain ⟨h4, R4, P4, F4⟩ := sp_outs (d := d) (H := 2 * hv 0 + 1) (by omega) m3 S3 (F3.T T2) P3 ((F3.2.2 12 (by decide)).trans b12) ((F3.2.2 9 (by decide)).trans b9) (fun s hs => by
      have := Fins_ok _ _ _ s hs
      rw [this]; rfl)
    have F34 := F3.tr F4
    have S4 := F34.S S2
    obtain ⟨h5, R5, P5, F5⟩ := sp_ands (d := d) (H := 2 * hv 0 + 1) (O := hv 3) (by omega) hn m4 m3 S4 (F34.T T2) P4 ((F34.2.2 12 (by decide)).trans b12) ((F34.2.2 10 (by decide)).trans b10) ((F34.2.2 8 (by decide)).trans c8) (fun s hs => by
      obtain ⟨s1, x1, y1⟩ := bind_ok hs
      have q1 := Fins_ok _ _ _ s1 x1
      obtain ⟨q2, q3⟩ := Fouts_ok _ _ _ y1
      rw [q3, q2, q1]
      exact ⟨rfl, by show 0 + hv 3 = _; omega⟩)
    have F35 := F34.tr F5
    have S5 := F35.S S2
    obtain ⟨h6, P6, F6, K6⟩ := pa_21 (d := d + 2) S5 (F35.T T2) P5
    have F36 := F35.tr F6
    refine ⟨h6, ?_, ⟨P6, (F36.2.2 8 (by decide)).trans c8, (F36.2.2 9 (by decide)).trans b9, (F36.2.2 10 (by decide)).trans b10⟩, F36.1.trans (F2.1.trans Y1.1), fun k hk => (F36.2.1 k hk).trans ((F2.2.1 k hk).trans (Y1.2 k hk))⟩
    refine Run.of (Nat.le_of_ble_eq_true rfl) (fun Q hQ => ?_)
    show Wp (Ex (d + 5)) 2 Q 0 [(0, .ref 35), (1, .int (nI n))] [] h 0 0
    refine r_aload_n (q2 (i := 0) rfl) rfl ?_
    refine r_iload_n (q2 (i := 1) rfl) rfl ?_
    refine r_cV (d := _) (q2 (i := 2) rfl) rfl rfl rfl (k_35 S) (Nat.le_of_ble_eq_true rfl) (Nat.zero_le _) (Nat.zero_le _) R1 ?_
    show Wp _ _ _ 5 [(0, .ref 35), (1, .int (nI n))] [] (sta h n) _ _
    refine r_aload_n (q2 (i := 3) rfl) rfl ?_
    refine r_cV (d := _) (q2 (i := 4) rfl) rfl rfl rfl (k_35 S1) (Nat.le_of_ble_eq_true rfl) (Nat.zero_le _) (Nat.zero_le _) R2 ?_
    show Wp _ _ _ 9 [(0, .ref 35), (1, .int (nI n))] [] h2 _ _
    refine r_aload_n (q2 (i := 5) rfl) rfl ?_
    refine r_cV (d := _) (q2 (i := 6) rfl) rfl rfl rfl (k_35 S2) (Nat.le_of_ble_eq_true rfl) (Nat.zero_le _) (Nat.zero_le _) R3 ?_
    show Wp _ _ _ 13 [(0, .ref 35), (1, .int (nI n))] [] h3 _ _
    refine r_aload_n (q2 (i := 7) rfl) rfl ?_
    refine r_cV (d := _) (q2 (i := 8) rfl) rfl rfl rfl (k_35 S3) (Nat.le_of_ble_eq_true rfl) (Nat.zero_le _) (Nat.zero_le _) R4 ?_
    show Wp _ _ _ 17 [(0, .ref 35), (1, .int (nI n))] [] h4 _ _
    refine r_aload_n (q2 (i := 9) rfl) rfl ?_
    refine r_cV (d := _) (q2 (i := 10) rfl) rfl rfl rfl (k_35 S4) (Nat.le_of_ble_eq_true rfl) (Nat.zero_le _) (Nat.zero_le _) R5 ?_
    show Wp _ _ _ 21 [(0, .ref 35), (1, .int (nI n))] [] h5 _ _
    exact K6 Q 0 0 hQ _ rfl
