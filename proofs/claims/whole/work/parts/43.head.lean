/-! ===== the first line ===== -/
abbrev hst : Type := Nat × (Nat → Nat) × (Nat → Nat)
def hdR (B : Nat → Int32) (z : Nat) : Nat → Nat → hst → hst × Except (Nat × Nat) Nat
  | 0, a, q => (q, .ok a)
  | m + 1, a, q => if cb B z a = 32 then (if dg B z (a + 1) then hdR B z m (numP B z (a + 1)).2 (q.1 + 1, u1 q.2.1 q.1 (numP B z (a + 1)).1, u1 q.2.2 q.1 (a + 1)) else (q, .error (1, a + 1))) else (q, .error (1, a))
def hbad (n : Nat) (q : hst) (k : Nat) : Bool := if k = 0 then decide (1000 < q.2.1 0 ∨ (q.1 = 5 ∧ q.2.1 0 < q.2.1 1 + q.2.1 4)) else if k = 1 then decide (q.2.1 1 ≠ n) else if k = 2 then decide (q.2.1 2 ≠ 0) else if k = 3 then decide (10 < q.2.1 3) else decide (119 < q.2.1 4)
def h00 : hst := (0, fun _ => 0, fun _ => 0)
/-- the first line: where it ends and its NUMBERS, or the first FAULT -/
def Fhead (B : Nat → Int32) (z n : Nat) : Except (Nat × Nat) (Nat × (Nat → Nat)) :=
  if cb B z 0 = 97 then (if cb B z 1 = 97 then (if cb B z 2 = 103 then (
    if lst (hbad n (hdR B z 5 3 h00).1) (hdR B z 5 3 h00).1.1 < (hdR B z 5 3 h00).1.1 then .error (2, (hdR B z 5 3 h00).1.2.2 (lst (hbad n (hdR B z 5 3 h00).1) (hdR B z 5 3 h00).1.1)) else match (hdR B z 5 3 h00).2 with
      | .error e => .error e
      | .ok a => if cb B z a = 10 then .ok (a + 1, (hdR B z 5 3 h00).1.2.1) else .error (1, a)) else .error (1, 2)) else .error (1, 1)) else .error (1, 0)
def HD (h : hp) (q : hst) : Prop := hI h 35 7 = nI q.1 ∧ q.1 ≤ 5 ∧ ∀ i, i < q.1 → hI h 36 i = nI (q.2.1 i) ∧ hI h 37 i = nI (q.2.2 i) ∧ q.2.1 i < 1000000000
def FrZ (h h' : hp) : Prop := h'.2 = h.2 ∧ (∀ k, k < 35 ∨ 41 < k → hI h' k = hI h k) ∧ hI h' 35 8 = hI h 35 8
theorem FrZ.rf (h : hp) : FrZ h h := ⟨rfl, fun _ _ => rfl, rfl⟩
theorem FrZ.tr {h h' h'' : hp} (a : FrZ h h') (b : FrZ h' h'') : FrZ h h'' := ⟨b.1.trans a.1, fun k x => (b.2.1 k x).trans (a.2.1 k x), b.2.2.trans a.2.2⟩
theorem FrZ.S {h h' : hp} (F : FrZ h h') (S : Sh h) : Sh h' := S.to (by rw [F.1])
theorem FrZ.T {h h' : hp} (F : FrZ h h') {B : Nat → Int32} {z : Nat} (T : TC h B z) : TC h' B z := ⟨(F.2.1 34 (by decide)).trans T.1, by rw [F.2.1 33 (by decide)]; exact T.2.1, T.2.2⟩
theorem FrX.Z {h h' : hp} (F : FrX h h') : FrZ h h' := ⟨F.1, F.2.1, F.2.2 8 (Or.inl rfl)⟩
theorem FrE.Z {h h' : hp} (F : FrE h h') : FrZ h h' := F.X.Z
theorem FrZ.w35 {h : hp} {j : Nat} (hj : j ≠ 8) (v : Int32) : FrZ h (sI h 35 j v) := ⟨rfl, fun k x => by
  show u2 h.1 35 _ _ k = _
  rw [u2_n (by omega)], by
  show u2 h.1 35 _ _ 35 8 = _
  rw [u2_s, u1_n (fun q => hj q.symm)]⟩
theorem FrE.D {h h' : hp} (F : FrE h h') {q : hst} (D : HD h q) : HD h' q := by
  unfold HD at *
  rw [F.2.2 7 (by decide), F.2.1 36 (by decide), F.2.1 37 (by decide)]
  exact D
theorem HD_add {h : hp} {q : hst} (D : HD h q) (hq : q.1 < 5) {v p : Nat} (hv : v < 1000000000) : HD (sI (sI (sI h 36 q.1 (nI v)) 37 q.1 (nI p)) 35 7 (nI (q.1 + 1))) (q.1 + 1, u1 q.2.1 q.1 v, u1 q.2.2 q.1 p) := by
  refine ⟨rfl, hq, fun i hi => ?_⟩
  show u1 (hI h 36) q.1 (nI v) i = nI (u1 q.2.1 q.1 v i) ∧ u1 (hI h 37) q.1 (nI p) i = nI (u1 q.2.2 q.1 p i) ∧ u1 q.2.1 q.1 v i < 1000000000
  by_cases g : i = q.1
  · rw [g, u1_s, u1_s, u1_s, u1_s]; exact ⟨rfl, rfl, hv⟩
  · rw [u1_n g, u1_n g, u1_n g, u1_n g]; exact D.2.2 i (by have : i < q.1 + 1 := hi; omega)
theorem PS_hd {h : hp} {z : Nat} {r : pres} (P : PS h z r) (i : Nat) (x y w : Int32) : PS (sI (sI (sI h 36 i x) 37 i y) 35 7 w) z r := by
  cases r with
  | ok s => exact P
  | error e => exact P
/-- what the loop over the head's NUMBERS leaves -/
def hdX (B : Nat → Int32) (z : Nat) (m : Nat) (s : pst) (q : hst) : hst × pres := ((hdR B z m s.1 q).1, match (hdR B z m s.1 q).2 with
  | .ok a => .ok (a, s.2)
  | .error e => .error e)
set_option maxHeartbeats 2000000 in
set_option maxRecDepth 10000 in
theorem sp_hnum {d : Nat} {h : hp} (S : Sh h) {B : Nat → Int32} {z : Nat} (T : TC h B z) {s : pst} (P : PS h z (.ok s)) {q : hst} (D : HD h q) (hq : q.1 < 5) : ∃ h', Run (d + 3 + 1) 8 [.ref 35] h 0 0 none h' ∧ FrZ h h' ∧ (if cb B z s.1 = 32 then (if dg B z (s.1 + 1) then PS h' z (.ok ((numP B z (s.1 + 1)).2, s.2)) ∧ HD h' (q.1 + 1, u1 q.2.1 q.1 (numP B z (s.1 + 1)).1, u1 q.2.2 q.1 (s.1 + 1)) else PS h' z (.error (1, s.1 + 1)) ∧ HD h' q) else PS h' z (.error (1, s.1)) ∧ HD h' q) := by
  obtain ⟨h1, R1, P1, F1⟩ := sp_expect (d := d) S T P (c := 32) (by decide)
  have S1 := F1.S S
  obtain ⟨h2, R2, P2, F2, N2⟩ := sp_num (d := d) S1 (F1.T T) P1
  have F12 := F1.tr F2
  have S2 := F12.S S
  have D2 := F12.D D
  by_cases g : cb B z s.1 = 32
  · have e1 : (Except.ok s : pres).bind (Fex B z 32) = .ok (s.1 + 1, s.2) := if_pos g
    rw [e1] at P2 R2 N2 P1
    by_cases g2 : dg B z (s.1 + 1) = true
    · have e2 : (Except.ok (s.1 + 1, s.2) : pres).bind (Fnum B z) = .ok ((numP B z (s.1 + 1)).2, s.2) := if_pos g2
      have e3 : numV B z (.ok (s.1 + 1, s.2)) = (numP B z (s.1 + 1)).1 := if_pos g2
      rw [e2] at P2
      rw [e3] at R2
      have n17 : hI h2 35 17 = nI (s.1 + 1) := N2 _ rfl g2
      have f0 : hI h2 35 14 = 0 := P2.1.1
      have d7 := D2.1
      refine ⟨sI (sI (sI h2 36 q.1 (nI (numP B z (s.1 + 1)).1)) 37 q.1 (nI (s.1 + 1))) 35 7 (nI (q.1 + 1)), ?_, F12.Z.tr (((FrX.w (by decide) _ _).tr (FrX.w (by decide) _ _)).Z.tr (FrZ.w35 (by decide) _)), by rw [if_pos g, if_pos g2]; exact ⟨PS_hd P2 _ _ _ _, HD_add D2 hq (numP_le B z (Nat.le_of_lt (dg_lt g2).1)).2.2⟩⟩
      refine Run.of (Nat.le_of_ble_eq_true rfl) (fun Q hQ => ?_)
      show Wp (Ex (d + 3)) 8 Q 0 [(0, .ref 35)] [] h 0 0
      refine r_aload_n (q8 (i := 0) rfl) rfl ?_
      refine r_bipush (v := 32) (q8 (i := 1) rfl) (by decide) ?_
      refine r_cV (d := _) (q8 (i := 2) rfl) rfl rfl rfl (k_35 S) (Nat.le_of_ble_eq_true rfl) (Nat.zero_le _) (Nat.zero_le _) R1 ?_
      show Wp _ _ _ 6 [(0, .ref 35)] [] h1 _ _
      refine r_aload_n (q8 (i := 3) rfl) rfl ?_
      refine r_cV (d := _) (q8 (i := 4) rfl) rfl rfl rfl (k_35 S1) (Nat.le_of_ble_eq_true rfl) (Nat.zero_le _) (Nat.zero_le _) R2 ?_
      show Wp _ _ _ 10 [(0, .ref 35)] [.int (nI (numP B z (s.1 + 1)).1)] h2 _ _
      refine r_istore_n (ls' := [(1, .int (nI (numP B z (s.1 + 1)).1)), (0, .ref 35)]) (q8 (i := 5) rfl) (Nat.le_of_ble_eq_true rfl) rfl ?_
      refine r_aload_n (q8 (i := 6) rfl) rfl ?_
      refine r_getI (x := hI h2 35 14) (q8 (i := 7) rfl) rfl (by decide) (k_35 S2) (fun _ _ _ => rfl) rfl ?_
      refine r_if 59 (q8 (i := 8) rfl) (by decide) (fun zz => absurd zz (show ¬ (¬ hI h2 35 14 = 0) from fun y => y f0)) (fun _ => ?_)
      refine r_aload_n (q8 (i := 9) rfl) rfl ?_
      refine r_getI (x := nI q.1) (q8 (i := 10) rfl) rfl (by decide) (k_35 S2) (fun _ _ _ => rfl) d7 ?_
      refine r_iconst (v := 5) (q8 (i := 11) rfl) (by decide) ?_
      refine r_icmp 59 (q8 (i := 12) rfl) (by decide) (fun zz => absurd zz (show ¬ (5 ≤ nI q.1) from nI_ge (b := 5) hq (by decide))) (fun _ => ?_)
      refine r_aload_n (q8 (i := 13) rfl) rfl ?_
      refine r_getR (b := 36) (q8 (i := 14) rfl) rfl (by decide) (k_35 S2) (fun _ _ _ => rfl) (r_35_1 S2) ?_
      refine r_aload_n (q8 (i := 15) rfl) rfl ?_
      refine r_getI (x := nI q.1) (q8 (i := 16) rfl) rfl (by decide) (k_35 S2) (fun _ _ _ => rfl) d7 ?_
      refine r_iload_n (q8 (i := 17) rfl) rfl ?_
      refine r_iasN (q8 (i := 18) rfl) (k_36 S2) (by omega) (by decide) ?_
      refine r_aload_n (q8 (i := 19) rfl) rfl ?_
      refine r_getR (b := 37) (q8 (i := 20) rfl) rfl (by decide) (k_35 S2) (fun _ _ _ => rfl) (r_35_2 S2) ?_
      refine r_aload_n (q8 (i := 21) rfl) rfl ?_
      refine r_getI (x := nI q.1) (q8 (i := 22) rfl) rfl (by decide) (k_35 S2) (fun _ _ _ => rfl) d7 ?_
      refine r_aload_n (q8 (i := 23) rfl) rfl ?_
      refine r_getI (x := nI (s.1 + 1)) (q8 (i := 24) rfl) rfl (by decide) (k_35 S2) (fun _ _ _ => rfl) n17 ?_
      refine r_iasN (q8 (i := 25) rfl) (k_37 S2) (by omega) (by decide) ?_
      refine r_aload_n (q8 (i := 26) rfl) rfl ?_
      refine r_dup (q8 (i := 27) rfl) rfl ?_
      refine r_getI (x := nI q.1) (q8 (i := 28) rfl) rfl (by decide) (k_35 S2) (fun _ _ _ => rfl) d7 ?_
      refine r_iconst (v := 1) (q8 (i := 29) rfl) (by decide) ?_
      refine r_iadd (q8 (i := 30) rfl) ?_
      rw [show ((nI q.1) + 1 : Int32) = nI (q.1 + 1) from nI_1 _]
      refine r_putI (q8 (i := 31) rfl) rfl (by decide) (k_35 S2) rfl rfl ?_
      exact r_vret (q8 (i := 32) rfl) rfl hQ
    · have e2 : (Except.ok (s.1 + 1, s.2) : pres).bind (Fnum B z) = .error (1, s.1 + 1) := if_neg g2
      have e3 : numV B z (.ok (s.1 + 1, s.2)) = 0 := if_neg g2
      rw [e2] at P2
      rw [e3] at R2
      refine ⟨h2, ?_, F12.Z, by rw [if_pos g, if_neg g2]; exact ⟨P2, D2⟩⟩
      refine Run.of (Nat.le_of_ble_eq_true rfl) (fun Q hQ => ?_)
      show Wp (Ex (d + 3)) 8 Q 0 [(0, .ref 35)] [] h 0 0
      refine r_aload_n (q8 (i := 0) rfl) rfl ?_
      refine r_bipush (v := 32) (q8 (i := 1) rfl) (by decide) ?_
      refine r_cV (d := _) (q8 (i := 2) rfl) rfl rfl rfl (k_35 S) (Nat.le_of_ble_eq_true rfl) (Nat.zero_le _) (Nat.zero_le _) R1 ?_
      show Wp _ _ _ 6 [(0, .ref 35)] [] h1 _ _
      refine r_aload_n (q8 (i := 3) rfl) rfl ?_
      refine r_cV (d := _) (q8 (i := 4) rfl) rfl rfl rfl (k_35 S1) (Nat.le_of_ble_eq_true rfl) (Nat.zero_le _) (Nat.zero_le _) R2 ?_
      show Wp _ _ _ 10 [(0, .ref 35)] [.int (nI 0)] h2 _ _
      refine r_istore_n (ls' := [(1, .int (nI 0)), (0, .ref 35)]) (q8 (i := 5) rfl) (Nat.le_of_ble_eq_true rfl) rfl ?_
      refine r_aload_n (q8 (i := 6) rfl) rfl ?_
      refine r_getI (x := hI h2 35 14) (q8 (i := 7) rfl) rfl (by decide) (k_35 S2) (fun _ _ _ => rfl) rfl ?_
      refine r_if 59 (q8 (i := 8) rfl) (by decide) (fun _ => ?_) (fun zz => absurd (show ¬ hI h2 35 14 = 0 from err_ne P2) zz)
      exact r_vret (q8 (i := 32) rfl) rfl hQ
  · have e1 : (Except.ok s : pres).bind (Fex B z 32) = .error (1, s.1) := if_neg g
    rw [e1] at P2 R2 N2 P1
    refine ⟨h2, ?_, F12.Z, by rw [if_neg g]; exact ⟨P2, D2⟩⟩
    refine Run.of (Nat.le_of_ble_eq_true rfl) (fun Q hQ => ?_)
    show Wp (Ex (d + 3)) 8 Q 0 [(0, .ref 35)] [] h 0 0
    refine r_aload_n (q8 (i := 0) rfl) rfl ?_
    refine r_bipush (v := 32) (q8 (i := 1) rfl) (by decide) ?_
    refine r_cV (d := _) (q8 (i := 2) rfl) rfl rfl rfl (k_35 S) (Nat.le_of_ble_eq_true rfl) (Nat.zero_le _) (Nat.zero_le _) R1 ?_
    show Wp _ _ _ 6 [(0, .ref 35)] [] h1 _ _
    refine r_aload_n (q8 (i := 3) rfl) rfl ?_
    refine r_cV (d := _) (q8 (i := 4) rfl) rfl rfl rfl (k_35 S1) (Nat.le_of_ble_eq_true rfl) (Nat.zero_le _) (Nat.zero_le _) R2 ?_
    show Wp _ _ _ 10 [(0, .ref 35)] [.int (nI 0)] h2 _ _
    refine r_istore_n (ls' := [(1, .int (nI 0)), (0, .ref 35)]) (q8 (i := 5) rfl) (Nat.le_of_ble_eq_true rfl) rfl ?_
    refine r_aload_n (q8 (i := 6) rfl) rfl ?_
    refine r_getI (x := hI h2 35 14) (q8 (i := 7) rfl) rfl (by decide) (k_35 S2) (fun _ _ _ => rfl) rfl ?_
    refine r_if 59 (q8 (i := 8) rfl) (by decide) (fun _ => ?_) (fun zz => absurd (show ¬ hI h2 35 14 = 0 from err_ne P2) zz)
    exact r_vret (q8 (i := 32) rfl) rfl hQ
set_option maxHeartbeats 2000000 in
set_option maxRecDepth 10000 in
theorem sp_few {d : Nat} {h : hp} (S : Sh h) {q : hst} (D : HD h q) : Run (d + 1) 11 [.ref 35] h 0 0 (some (.int (if q.1 = 5 ∧ q.2.1 0 < q.2.1 1 + q.2.1 4 then 1 else 0))) h := by
  refine Run.of (Nat.le_of_ble_eq_true rfl) (fun Q hQ => ?_)
  show Wp (Ex d) 11 Q 0 [(0, .ref 35)] [] h 0 0
  obtain ⟨d7, d5, dd⟩ := D
  by_cases g : q.1 = 5
  · obtain ⟨a0, _, a2⟩ := dd 0 (by omega)
    obtain ⟨b0, _, b2⟩ := dd 1 (by omega)
    obtain ⟨c0, _, c2⟩ := dd 4 (by omega)
    by_cases g2 : q.2.1 0 < q.2.1 1 + q.2.1 4
    · rw [if_pos ⟨g, g2⟩] at hQ
      rw [g] at d7
      refine r_aload_n (q11 (i := 0) rfl) rfl ?_
      refine r_getI (x := nI 5) (q11 (i := 1) rfl) rfl (by decide) (k_35 S) (fun _ _ _ => rfl) d7 ?_
      refine r_iconst (v := 5) (q11 (i := 2) rfl) (by decide) ?_
      refine r_icmp 34 (q11 (i := 3) rfl) (by decide) (fun zz => absurd zz (show ¬ (¬ nI 5 = 5) from fun y => y rfl)) (fun _ => ?_)
      refine r_aload_n (q11 (i := 4) rfl) rfl ?_
      refine r_getR (b := 36) (q11 (i := 5) rfl) rfl (by decide) (k_35 S) (fun _ _ _ => rfl) (r_35_1 S) ?_
      refine r_iconst (v := nI 0) (q11 (i := 6) rfl) (by decide) ?_
      refine r_iaN (x := nI (q.2.1 0)) (q11 (i := 7) rfl) (k_36 S) (by decide) (by decide) a0 ?_
      refine r_aload_n (q11 (i := 8) rfl) rfl ?_
      refine r_getR (b := 36) (q11 (i := 9) rfl) rfl (by decide) (k_35 S) (fun _ _ _ => rfl) (r_35_1 S) ?_
      refine r_iconst (v := nI 1) (q11 (i := 10) rfl) (by decide) ?_
      refine r_iaN (x := nI (q.2.1 1)) (q11 (i := 11) rfl) (k_36 S) (by decide) (by decide) b0 ?_
      refine r_aload_n (q11 (i := 12) rfl) rfl ?_
      refine r_getR (b := 36) (q11 (i := 13) rfl) rfl (by decide) (k_35 S) (fun _ _ _ => rfl) (r_35_1 S) ?_
      refine r_iconst (v := nI 4) (q11 (i := 14) rfl) (by decide) ?_
      refine r_iaN (x := nI (q.2.1 4)) (q11 (i := 15) rfl) (k_36 S) (by decide) (by decide) c0 ?_
      refine r_iadd (q11 (i := 16) rfl) ?_
      rw [show ((nI (q.2.1 1)) + (nI (q.2.1 4)) : Int32) = nI (q.2.1 1 + q.2.1 4) from nI_add _ _]
      refine r_icmp 34 (q11 (i := 17) rfl) (by decide) (fun zz => absurd zz (show ¬ (nI (q.2.1 1 + q.2.1 4) ≤ nI (q.2.1 0)) from nI_ge g2 (by omega))) (fun _ => ?_)
      refine r_iconst (v := 1) (q11 (i := 18) rfl) (by decide) ?_
      refine r_goto 35 (q11 (i := 19) rfl) (by decide) ?_
      exact r_zret (q11 (i := 21) rfl) rfl (by decide) hQ
    · rw [if_neg (fun y => g2 y.2)] at hQ
      rw [g] at d7
      refine r_aload_n (q11 (i := 0) rfl) rfl ?_
      refine r_getI (x := nI 5) (q11 (i := 1) rfl) rfl (by decide) (k_35 S) (fun _ _ _ => rfl) d7 ?_
      refine r_iconst (v := 5) (q11 (i := 2) rfl) (by decide) ?_
      refine r_icmp 34 (q11 (i := 3) rfl) (by decide) (fun zz => absurd zz (show ¬ (¬ nI 5 = 5) from fun y => y rfl)) (fun _ => ?_)
      refine r_aload_n (q11 (i := 4) rfl) rfl ?_
      refine r_getR (b := 36) (q11 (i := 5) rfl) rfl (by decide) (k_35 S) (fun _ _ _ => rfl) (r_35_1 S) ?_
      refine r_iconst (v := nI 0) (q11 (i := 6) rfl) (by decide) ?_
      refine r_iaN (x := nI (q.2.1 0)) (q11 (i := 7) rfl) (k_36 S) (by decide) (by decide) a0 ?_
      refine r_aload_n (q11 (i := 8) rfl) rfl ?_
      refine r_getR (b := 36) (q11 (i := 9) rfl) rfl (by decide) (k_35 S) (fun _ _ _ => rfl) (r_35_1 S) ?_
      refine r_iconst (v := nI 1) (q11 (i := 10) rfl) (by decide) ?_
      refine r_iaN (x := nI (q.2.1 1)) (q11 (i := 11) rfl) (k_36 S) (by decide) (by decide) b0 ?_
      refine r_aload_n (q11 (i := 12) rfl) rfl ?_
      refine r_getR (b := 36) (q11 (i := 13) rfl) rfl (by decide) (k_35 S) (fun _ _ _ => rfl) (r_35_1 S) ?_
      refine r_iconst (v := nI 4) (q11 (i := 14) rfl) (by decide) ?_
      refine r_iaN (x := nI (q.2.1 4)) (q11 (i := 15) rfl) (k_36 S) (by decide) (by decide) c0 ?_
      refine r_iadd (q11 (i := 16) rfl) ?_
      rw [show ((nI (q.2.1 1)) + (nI (q.2.1 4)) : Int32) = nI (q.2.1 1 + q.2.1 4) from nI_add _ _]
      refine r_icmp 34 (q11 (i := 17) rfl) (by decide) (fun _ => ?_) (fun zz => absurd (show nI (q.2.1 1 + q.2.1 4) ≤ nI (q.2.1 0) from nI_le (by omega) (by omega)) zz)
      refine r_iconst (v := 0) (q11 (i := 20) rfl) (by decide) ?_
      exact r_zret (q11 (i := 21) rfl) rfl (by decide) hQ
  · rw [if_neg (fun y => g y.1)] at hQ
    refine r_aload_n (q11 (i := 0) rfl) rfl ?_
    refine r_getI (x := nI q.1) (q11 (i := 1) rfl) rfl (by decide) (k_35 S) (fun _ _ _ => rfl) d7 ?_
    refine r_iconst (v := 5) (q11 (i := 2) rfl) (by decide) ?_
    refine r_icmp 34 (q11 (i := 3) rfl) (by decide) (fun _ => ?_) (fun zz => absurd (show ¬ nI q.1 = 5 from neN (b := 5) (by omega) (by decide) g) zz)
    refine r_iconst (v := 0) (q11 (i := 20) rfl) (by decide) ?_
    exact r_zret (q11 (i := 21) rfl) rfl (by decide) hQ
set_option maxHeartbeats 2000000 in
set_option maxRecDepth 10000 in
theorem sp_isBad {d : Nat} {h : hp} (S : Sh h) {q : hst} (D : HD h q) {n : Nat} (h8 : hI h 35 8 = nI n) (hn : n ≤ 12) : ∀ k, k < q.1 → Run (d + 1 + 1) 10 [.ref 35, .int (nI k)] h 0 0 (some (.int (if hbad n q k then 1 else 0))) h := by
  have R0 := sp_few (d := d) S D
  obtain ⟨d7, d5, dd⟩ := D
  intro k hk
  obtain ⟨a0, _, a2⟩ := dd k hk
  refine Run.of (Nat.le_of_ble_eq_true rfl) (fun Q hQ => ?_)
  show Wp (Ex (d + 1)) 10 Q 0 [(0, .ref 35), (1, .int (nI k))] [] h 0 0
  have hk5 : k = 0 ∨ k = 1 ∨ k = 2 ∨ k = 3 ∨ k = 4 := by omega
  rcases hk5 with rfl | rfl | rfl | rfl | rfl
  · by_cases g : 1000 < q.2.1 0
    · have e : hbad n q 0 = true := decide_eq_true (Or.inl g)
      rw [e] at hQ
      refine r_iload_n (q10 (i := 0) rfl) rfl ?_
      refine r_swIn (off := 31) 32 (q10 (i := 1) rfl) (by decide) (by decide) (by decide) (by decide) ?_
      refine r_aload_n (q10 (i := 2) rfl) rfl ?_
      refine r_getR (b := 36) (q10 (i := 3) rfl) rfl (by decide) (k_35 S) (fun _ _ _ => rfl) (r_35_1 S) ?_
      refine r_iload_n (q10 (i := 4) rfl) rfl ?_
      refine r_iaN (x := nI (q.2.1 0)) (q10 (i := 5) rfl) (k_36 S) (by omega) (by decide) a0 ?_
      refine r_sipush (v := 1000) (q10 (i := 6) rfl) (by decide) ?_
      refine r_icmp 51 (q10 (i := 7) rfl) (by decide) (fun _ => ?_) (fun zz => absurd (show 1000 < nI (q.2.1 0) from nI_lt (a := 1000) g (by omega)) zz)
      refine r_iconst (v := 1) (q10 (i := 11) rfl) (by decide) ?_
      refine r_goto 56 (q10 (i := 12) rfl) (by decide) ?_
      exact r_zret (q10 (i := 14) rfl) rfl (by decide) hQ
    · by_cases g2 : q.1 = 5 ∧ q.2.1 0 < q.2.1 1 + q.2.1 4
      · have e : hbad n q 0 = true := decide_eq_true (Or.inr g2)
        rw [e] at hQ
        rw [if_pos g2] at R0
        refine r_iload_n (q10 (i := 0) rfl) rfl ?_
        refine r_swIn (off := 31) 32 (q10 (i := 1) rfl) (by decide) (by decide) (by decide) (by decide) ?_
        refine r_aload_n (q10 (i := 2) rfl) rfl ?_
        refine r_getR (b := 36) (q10 (i := 3) rfl) rfl (by decide) (k_35 S) (fun _ _ _ => rfl) (r_35_1 S) ?_
        refine r_iload_n (q10 (i := 4) rfl) rfl ?_
        refine r_iaN (x := nI (q.2.1 0)) (q10 (i := 5) rfl) (k_36 S) (by omega) (by decide) a0 ?_
        refine r_sipush (v := 1000) (q10 (i := 6) rfl) (by decide) ?_
        refine r_icmp 51 (q10 (i := 7) rfl) (by decide) (fun zz => absurd zz (show ¬ (1000 < nI (q.2.1 0)) from nI_nlt (b := q.2.1 0) (a := 1000) (by omega) (by decide))) (fun _ => ?_)
        refine r_aload_n (q10 (i := 8) rfl) rfl ?_
        refine r_cV (d := _) (q10 (i := 9) rfl) rfl rfl rfl (k_35 S) (Nat.le_of_ble_eq_true rfl) (Nat.zero_le _) (Nat.zero_le _) R0 ?_
        show Wp _ _ _ 48 [(0, .ref 35), (1, .int (nI 0))] [.int 1] h _ _
        refine r_if 55 (q10 (i := 10) rfl) (by decide) (fun zz => absurd zz (show ¬ ((1 : Int32) = 0) from by decide)) (fun _ => ?_)
        refine r_iconst (v := 1) (q10 (i := 11) rfl) (by decide) ?_
        refine r_goto 56 (q10 (i := 12) rfl) (by decide) ?_
        exact r_zret (q10 (i := 14) rfl) rfl (by decide) hQ
      · have e : hbad n q 0 = false := decide_eq_false (fun y => y.elim g g2)
        rw [e] at hQ
        rw [if_neg g2] at R0
        refine r_iload_n (q10 (i := 0) rfl) rfl ?_
        refine r_swIn (off := 31) 32 (q10 (i := 1) rfl) (by decide) (by decide) (by decide) (by decide) ?_
        refine r_aload_n (q10 (i := 2) rfl) rfl ?_
        refine r_getR (b := 36) (q10 (i := 3) rfl) rfl (by decide) (k_35 S) (fun _ _ _ => rfl) (r_35_1 S) ?_
        refine r_iload_n (q10 (i := 4) rfl) rfl ?_
        refine r_iaN (x := nI (q.2.1 0)) (q10 (i := 5) rfl) (k_36 S) (by omega) (by decide) a0 ?_
        refine r_sipush (v := 1000) (q10 (i := 6) rfl) (by decide) ?_
        refine r_icmp 51 (q10 (i := 7) rfl) (by decide) (fun zz => absurd zz (show ¬ (1000 < nI (q.2.1 0)) from nI_nlt (b := q.2.1 0) (a := 1000) (by omega) (by decide))) (fun _ => ?_)
        refine r_aload_n (q10 (i := 8) rfl) rfl ?_
        refine r_cV (d := _) (q10 (i := 9) rfl) rfl rfl rfl (k_35 S) (Nat.le_of_ble_eq_true rfl) (Nat.zero_le _) (Nat.zero_le _) R0 ?_
        show Wp _ _ _ 48 [(0, .ref 35), (1, .int (nI 0))] [.int 0] h _ _
        refine r_if 55 (q10 (i := 10) rfl) (by decide) (fun _ => ?_) (fun zz => absurd (show (0 : Int32) = 0 from by decide) zz)
        refine r_iconst (v := 0) (q10 (i := 13) rfl) (by decide) ?_
        exact r_zret (q10 (i := 14) rfl) rfl (by decide) hQ
  · by_cases g : q.2.1 1 ≠ n
    · have e : hbad n q 1 = true := decide_eq_true g
      rw [e] at hQ
      refine r_iload_n (q10 (i := 0) rfl) rfl ?_
      refine r_swIn (off := 56) 57 (q10 (i := 1) rfl) (by decide) (by decide) (by decide) (by decide) ?_
      refine r_aload_n (q10 (i := 15) rfl) rfl ?_
      refine r_getR (b := 36) (q10 (i := 16) rfl) rfl (by decide) (k_35 S) (fun _ _ _ => rfl) (r_35_1 S) ?_
      refine r_iload_n (q10 (i := 17) rfl) rfl ?_
      refine r_iaN (x := nI (q.2.1 1)) (q10 (i := 18) rfl) (k_36 S) (by omega) (by decide) a0 ?_
      refine r_aload_n (q10 (i := 19) rfl) rfl ?_
      refine r_getI (x := nI n) (q10 (i := 20) rfl) rfl (by decide) (k_35 S) (fun _ _ _ => rfl) h8 ?_
      refine r_icmp 74 (q10 (i := 21) rfl) (by decide) (fun zz => absurd zz (show ¬ (nI (q.2.1 1) = nI n) from neN (by omega) (by omega) g)) (fun _ => ?_)
      refine r_iconst (v := 1) (q10 (i := 22) rfl) (by decide) ?_
      refine r_goto 75 (q10 (i := 23) rfl) (by decide) ?_
      exact r_zret (q10 (i := 25) rfl) rfl (by decide) hQ
    · have e : hbad n q 1 = false := decide_eq_false g
      rw [e] at hQ
      have g : q.2.1 1 = n := Classical.not_not.mp g
      refine r_iload_n (q10 (i := 0) rfl) rfl ?_
      refine r_swIn (off := 56) 57 (q10 (i := 1) rfl) (by decide) (by decide) (by decide) (by decide) ?_
      refine r_aload_n (q10 (i := 15) rfl) rfl ?_
      refine r_getR (b := 36) (q10 (i := 16) rfl) rfl (by decide) (k_35 S) (fun _ _ _ => rfl) (r_35_1 S) ?_
      refine r_iload_n (q10 (i := 17) rfl) rfl ?_
      refine r_iaN (x := nI (q.2.1 1)) (q10 (i := 18) rfl) (k_36 S) (by omega) (by decide) a0 ?_
      refine r_aload_n (q10 (i := 19) rfl) rfl ?_
      refine r_getI (x := nI n) (q10 (i := 20) rfl) rfl (by decide) (k_35 S) (fun _ _ _ => rfl) h8 ?_
      refine r_icmp 74 (q10 (i := 21) rfl) (by decide) (fun _ => ?_) (fun zz => absurd (show nI (q.2.1 1) = nI n from congrArg nI g) zz)
      refine r_iconst (v := 0) (q10 (i := 24) rfl) (by decide) ?_
      exact r_zret (q10 (i := 25) rfl) rfl (by decide) hQ
  · by_cases g : q.2.1 2 ≠ 0
    · have e : hbad n q 2 = true := decide_eq_true g
      rw [e] at hQ
      refine r_iload_n (q10 (i := 0) rfl) rfl ?_
      refine r_swIn (off := 75) 76 (q10 (i := 1) rfl) (by decide) (by decide) (by decide) (by decide) ?_
      refine r_aload_n (q10 (i := 26) rfl) rfl ?_
      refine r_getR (b := 36) (q10 (i := 27) rfl) rfl (by decide) (k_35 S) (fun _ _ _ => rfl) (r_35_1 S) ?_
      refine r_iload_n (q10 (i := 28) rfl) rfl ?_
      refine r_iaN (x := nI (q.2.1 2)) (q10 (i := 29) rfl) (k_36 S) (by omega) (by decide) a0 ?_
      refine r_if 89 (q10 (i := 30) rfl) (by decide) (fun zz => absurd zz (show ¬ (nI (q.2.1 2) = 0) from nI_ne0 (by omega) (by omega))) (fun _ => ?_)
      refine r_iconst (v := 1) (q10 (i := 31) rfl) (by decide) ?_
      refine r_goto 90 (q10 (i := 32) rfl) (by decide) ?_
      exact r_zret (q10 (i := 34) rfl) rfl (by decide) hQ
    · have e : hbad n q 2 = false := decide_eq_false g
      rw [e] at hQ
      have g : q.2.1 2 = 0 := Classical.not_not.mp g
      refine r_iload_n (q10 (i := 0) rfl) rfl ?_
      refine r_swIn (off := 75) 76 (q10 (i := 1) rfl) (by decide) (by decide) (by decide) (by decide) ?_
      refine r_aload_n (q10 (i := 26) rfl) rfl ?_
      refine r_getR (b := 36) (q10 (i := 27) rfl) rfl (by decide) (k_35 S) (fun _ _ _ => rfl) (r_35_1 S) ?_
      refine r_iload_n (q10 (i := 28) rfl) rfl ?_
      refine r_iaN (x := nI (q.2.1 2)) (q10 (i := 29) rfl) (k_36 S) (by omega) (by decide) a0 ?_
      refine r_if 89 (q10 (i := 30) rfl) (by decide) (fun _ => ?_) (fun zz => absurd (show nI (q.2.1 2) = 0 from congrArg nI g) zz)
      refine r_iconst (v := 0) (q10 (i := 33) rfl) (by decide) ?_
      exact r_zret (q10 (i := 34) rfl) rfl (by decide) hQ
  · by_cases g : 10 < q.2.1 3
    · have e : hbad n q 3 = true := decide_eq_true g
      rw [e] at hQ
      refine r_iload_n (q10 (i := 0) rfl) rfl ?_
      refine r_swIn (off := 90) 91 (q10 (i := 1) rfl) (by decide) (by decide) (by decide) (by decide) ?_
      refine r_aload_n (q10 (i := 35) rfl) rfl ?_
      refine r_getR (b := 36) (q10 (i := 36) rfl) rfl (by decide) (k_35 S) (fun _ _ _ => rfl) (r_35_1 S) ?_
      refine r_iload_n (q10 (i := 37) rfl) rfl ?_
      refine r_iaN (x := nI (q.2.1 3)) (q10 (i := 38) rfl) (k_36 S) (by omega) (by decide) a0 ?_
      refine r_bipush (v := 10) (q10 (i := 39) rfl) (by decide) ?_
      refine r_icmp 106 (q10 (i := 40) rfl) (by decide) (fun zz => absurd zz (show ¬ (nI (q.2.1 3) ≤ 10) from nI_ge (a := 10) g (by omega))) (fun _ => ?_)
      refine r_iconst (v := 1) (q10 (i := 41) rfl) (by decide) ?_
      refine r_goto 107 (q10 (i := 42) rfl) (by decide) ?_
      exact r_zret (q10 (i := 44) rfl) rfl (by decide) hQ
    · have e : hbad n q 3 = false := decide_eq_false g
      rw [e] at hQ
      refine r_iload_n (q10 (i := 0) rfl) rfl ?_
      refine r_swIn (off := 90) 91 (q10 (i := 1) rfl) (by decide) (by decide) (by decide) (by decide) ?_
      refine r_aload_n (q10 (i := 35) rfl) rfl ?_
      refine r_getR (b := 36) (q10 (i := 36) rfl) rfl (by decide) (k_35 S) (fun _ _ _ => rfl) (r_35_1 S) ?_
      refine r_iload_n (q10 (i := 37) rfl) rfl ?_
      refine r_iaN (x := nI (q.2.1 3)) (q10 (i := 38) rfl) (k_36 S) (by omega) (by decide) a0 ?_
      refine r_bipush (v := 10) (q10 (i := 39) rfl) (by decide) ?_
      refine r_icmp 106 (q10 (i := 40) rfl) (by decide) (fun _ => ?_) (fun zz => absurd (show nI (q.2.1 3) ≤ 10 from nI_le (b := 10) (by omega) (by decide)) zz)
      refine r_iconst (v := 0) (q10 (i := 43) rfl) (by decide) ?_
      exact r_zret (q10 (i := 44) rfl) rfl (by decide) hQ
  · by_cases g : 119 < q.2.1 4
    · have e : hbad n q 4 = true := decide_eq_true g
      rw [e] at hQ
      refine r_iload_n (q10 (i := 0) rfl) rfl ?_
      refine r_swOut 108 (q10 (i := 1) rfl) (by decide) (by decide) ?_
      refine r_aload_n (q10 (i := 45) rfl) rfl ?_
      refine r_getR (b := 36) (q10 (i := 46) rfl) rfl (by decide) (k_35 S) (fun _ _ _ => rfl) (r_35_1 S) ?_
      refine r_iload_n (q10 (i := 47) rfl) rfl ?_
      refine r_iaN (x := nI (q.2.1 4)) (q10 (i := 48) rfl) (k_36 S) (by omega) (by decide) a0 ?_
      refine r_bipush (v := 119) (q10 (i := 49) rfl) (by decide) ?_
      refine r_icmp 123 (q10 (i := 50) rfl) (by decide) (fun zz => absurd zz (show ¬ (nI (q.2.1 4) ≤ 119) from nI_ge (a := 119) g (by omega))) (fun _ => ?_)
      refine r_iconst (v := 1) (q10 (i := 51) rfl) (by decide) ?_
      refine r_goto 124 (q10 (i := 52) rfl) (by decide) ?_
      exact r_zret (q10 (i := 54) rfl) rfl (by decide) hQ
    · have e : hbad n q 4 = false := decide_eq_false g
      rw [e] at hQ
      refine r_iload_n (q10 (i := 0) rfl) rfl ?_
      refine r_swOut 108 (q10 (i := 1) rfl) (by decide) (by decide) ?_
      refine r_aload_n (q10 (i := 45) rfl) rfl ?_
      refine r_getR (b := 36) (q10 (i := 46) rfl) rfl (by decide) (k_35 S) (fun _ _ _ => rfl) (r_35_1 S) ?_
      refine r_iload_n (q10 (i := 47) rfl) rfl ?_
      refine r_iaN (x := nI (q.2.1 4)) (q10 (i := 48) rfl) (k_36 S) (by omega) (by decide) a0 ?_
      refine r_bipush (v := 119) (q10 (i := 49) rfl) (by decide) ?_
      refine r_icmp 123 (q10 (i := 50) rfl) (by decide) (fun _ => ?_) (fun zz => absurd (show nI (q.2.1 4) ≤ 119 from nI_le (b := 119) (by omega) (by decide)) zz)
      refine r_iconst (v := 0) (q10 (i := 53) rfl) (by decide) ?_
      exact r_zret (q10 (i := 54) rfl) rfl (by decide) hQ
set_option maxHeartbeats 2000000 in
set_option maxRecDepth 10000 in
theorem lp_askH {d : Nat} {h : hp} (S : Sh h) {q : hst} (D : HD h q) {n : Nat} (h8 : hI h 35 8 = nI n) (hn : n ≤ 12) {Q : resP} {bc bs : Nat} (hQ : Q none (if lst (hbad n q) q.1 < q.1 then sI (sI h 35 14 2) 35 15 (nI (q.2.2 (lst (hbad n q) q.1))) else h)) : ∀ (m k : Nat), k + m = q.1 → (∀ i, i < k → hbad n q i = false) → ∀ ls : List (Nat × Value), ls.lookup 1 = some (.int (nI k)) → ls.lookup 0 = some (.ref 35) → Wp (Ex (d + 2)) 9 Q 2 ls [] h bc bs := by
  have R0 := sp_isBad (d := d) S D h8 hn
  obtain ⟨d7, d5, dd⟩ := D
  intro m
  induction m with
  | zero =>
    intro k hk hz ls l1 l0
    have e : k = q.1 := by omega
    subst e
    rw [lst_no hz, if_neg (Nat.lt_irrefl _)] at hQ
    refine r_iload_n (q9 (i := 2) rfl) l1 ?_
    refine r_aload_n (q9 (i := 3) rfl) l0 ?_
    refine r_getI (x := nI q.1) (q9 (i := 4) rfl) rfl (by decide) (k_35 S) (fun _ _ _ => rfl) d7 ?_
    refine r_icmp 40 (q9 (i := 5) rfl) (by decide) (fun _ => ?_) (fun zz => absurd (show nI q.1 ≤ nI q.1 from Int32.le_refl _) zz)
    exact r_vret (q9 (i := 22) rfl) rfl hQ
  | succ m ih =>
    intro k hk hz ls l1 l0
    have R1 := R0 k (by omega)
    obtain ⟨_, a1, _⟩ := dd k (by omega)
    cases g : hbad n q k with
    | true =>
      rw [g] at R1
      rw [lst_is (show k < q.1 by omega) hz g, if_pos (by omega)] at hQ
      refine r_iload_n (q9 (i := 2) rfl) l1 ?_
      refine r_aload_n (q9 (i := 3) rfl) l0 ?_
      refine r_getI (x := nI q.1) (q9 (i := 4) rfl) rfl (by decide) (k_35 S) (fun _ _ _ => rfl) d7 ?_
      refine r_icmp 40 (q9 (i := 5) rfl) (by decide) (fun zz => absurd zz (show ¬ (nI q.1 ≤ nI k) from nI_ge (by omega) (by omega))) (fun _ => ?_)
      refine r_aload_n (q9 (i := 6) rfl) l0 ?_
      refine r_iload_n (q9 (i := 7) rfl) l1 ?_
      refine r_cV (d := _) (q9 (i := 8) rfl) rfl rfl rfl (k_35 S) (Nat.le_of_ble_eq_true rfl) (Nat.zero_le _) (Nat.zero_le _) R1 ?_
      show Wp _ _ _ 15 ls [.int 1] h _ _
      refine r_if 34 (q9 (i := 9) rfl) (by decide) (fun zz => absurd zz (show ¬ ((1 : Int32) = 0) from by decide)) (fun _ => ?_)
      refine r_aload_n (q9 (i := 10) rfl) l0 ?_
      refine r_iconst (v := 2) (q9 (i := 11) rfl) (by decide) ?_
      refine r_putI (q9 (i := 12) rfl) rfl (by decide) (k_35 S) rfl rfl ?_
      refine r_aload_n (q9 (i := 13) rfl) l0 ?_
      refine r_aload_n (q9 (i := 14) rfl) l0 ?_
      refine r_getR (b := 37) (q9 (i := 15) rfl) rfl (by decide) (k_35 S) (fun _ _ _ => rfl) (r_35_2 S) ?_
      refine r_iload_n (q9 (i := 16) rfl) l1 ?_
      refine r_iaN (x := nI (q.2.2 k)) (q9 (i := 17) rfl) (k_37 S) (by omega) (by decide) a1 ?_
      refine r_putI (q9 (i := 18) rfl) rfl (by decide) (k_35 S) rfl rfl ?_
      exact r_vret (q9 (i := 19) rfl) rfl hQ
    | false =>
      rw [g] at R1
      refine r_iload_n (q9 (i := 2) rfl) l1 ?_
      refine r_aload_n (q9 (i := 3) rfl) l0 ?_
      refine r_getI (x := nI q.1) (q9 (i := 4) rfl) rfl (by decide) (k_35 S) (fun _ _ _ => rfl) d7 ?_
      refine r_icmp 40 (q9 (i := 5) rfl) (by decide) (fun zz => absurd zz (show ¬ (nI q.1 ≤ nI k) from nI_ge (by omega) (by omega))) (fun _ => ?_)
      refine r_aload_n (q9 (i := 6) rfl) l0 ?_
      refine r_iload_n (q9 (i := 7) rfl) l1 ?_
      refine r_cV (d := _) (q9 (i := 8) rfl) rfl rfl rfl (k_35 S) (Nat.le_of_ble_eq_true rfl) (Nat.zero_le _) (Nat.zero_le _) R1 ?_
      show Wp _ _ _ 15 ls [.int 0] h _ _
      refine r_if 34 (q9 (i := 9) rfl) (by decide) (fun _ => ?_) (fun zz => absurd (show (0 : Int32) = 0 from by decide) zz)
      refine r_iinc (y := nI (k + 1)) (q9 (i := 20) rfl) (Nat.le_of_ble_eq_true rfl) l1 (nI_1 k) rfl ?_
      have l0 := lk1 (k := 1) (v := .int (nI (k + 1))) l0 (by decide) (Or.inl rfl)
      have l1 := lk0 ls 1 (.int (nI (k + 1)))
      generalize lset1 ls 1 (.int (nI (k + 1))) = ls at l1 l0 ⊢
      refine r_goto 2 (q9 (i := 21) rfl) (by decide) ?_
      exact ih (k + 1) (by omega) (fun i hi => by
        by_cases y : i = k
        · rw [y]; exact g
        · exact hz i (by omega)) ls l1 l0
set_option maxHeartbeats 2000000 in
set_option maxRecDepth 10000 in
theorem sp_askH {d : Nat} {h : hp} (S : Sh h) {q : hst} (D : HD h q) {n : Nat} (h8 : hI h 35 8 = nI n) (hn : n ≤ 12) : Run (d + 2 + 1) 9 [.ref 35] h 0 0 none (if lst (hbad n q) q.1 < q.1 then sI (sI h 35 14 2) 35 15 (nI (q.2.2 (lst (hbad n q) q.1))) else h) := by
  refine Run.of (Nat.le_of_ble_eq_true rfl) (fun Q hQ => ?_)
  show Wp (Ex (d + 2)) 9 Q 0 [(0, .ref 35)] [] h 0 0
  refine r_iconst (v := 0) (q9 (i := 0) rfl) (by decide) ?_
  refine r_istore_n (ls' := [(1, .int 0), (0, .ref 35)]) (q9 (i := 1) rfl) (Nat.le_of_ble_eq_true rfl) rfl ?_
  exact lp_askH S D h8 hn hQ q.1 0 (Nat.zero_add _) (fun i hi => absurd hi (Nat.not_lt_zero i)) _ rfl rfl
set_option maxHeartbeats 2000000 in
set_option maxRecDepth 10000 in
theorem hd_out {d : Nat} {h : hp} (S : Sh h) {z : Nat} {e : Nat × Nat} (P : PS h z (.error e)) {Q : resP} {bc bs : Nat} (hk : ∀ ls : List (Nat × Value), ls.lookup 0 = some (.ref 35) → Wp (Ex d) 7 Q 42 ls [] h bc bs) (k : Nat) (ls : List (Nat × Value)) (l1 : ls.lookup 1 = some (.int (nI k))) (l0 : ls.lookup 0 = some (.ref 35)) : Wp (Ex d) 7 Q 20 ls [] h bc bs := by
  refine r_iload_n (q7 (i := 11) rfl) l1 ?_
  refine r_iconst (v := 5) (q7 (i := 12) rfl) (by decide) ?_
  refine r_icmp 42 (q7 (i := 13) rfl) (by decide) (fun c22 => ?_) (fun c22 => ?_)
  · have c22 : 5 ≤ nI k := c22
    exact hk ls l0
  · have c22 : ¬ (5 ≤ nI k) := c22
    refine r_aload_n (q7 (i := 14) rfl) l0 ?_
    refine r_getI (x := hI h 35 14) (q7 (i := 15) rfl) rfl (by decide) (k_35 S) (fun _ _ _ => rfl) rfl ?_
    refine r_if 42 (q7 (i := 16) rfl) (by decide) (fun _ => ?_) (fun zz => absurd (show ¬ hI h 35 14 = 0 from err_ne P) zz)
    exact hk ls l0
set_option maxHeartbeats 2000000 in
set_option maxRecDepth 10000 in
theorem lp_hd {d : Nat} {B : Nat → Int32} {z : Nat} : ∀ (m k : Nat) (s : pst) (q : hst) (h : hp), k + m = 5 → q.1 = k → Sh h → TC h B z → PS h z (.ok s) → HD h q → ∃ h', PS h' z (hdX B z m s q).2 ∧ HD h' (hdX B z m s q).1 ∧ FrZ h h' ∧ ∀ (Q : resP) (bc bs : Nat), (∀ ls : List (Nat × Value), ls.lookup 0 = some (.ref 35) → Wp (Ex (d + 4)) 7 Q 42 ls [] h' bc bs) → ∀ (ls : List (Nat × Value)), ls.lookup 1 = some (.int (nI k)) → ls.lookup 0 = some (.ref 35) → Wp (Ex (d + 4)) 7 Q 20 ls [] h bc bs := by
  intro m
  induction m with
  | zero =>
    intro k s q h hk hq S T P D
    have e : k = 5 := by omega
    subst e
    refine ⟨h, P, D, FrZ.rf h, ?_⟩
    intro Q bc bs hkk ls l1 l0
    refine r_iload_n (q7 (i := 11) rfl) l1 ?_
    refine r_iconst (v := 5) (q7 (i := 12) rfl) (by decide) ?_
    refine r_icmp 42 (q7 (i := 13) rfl) (by decide) (fun _ => ?_) (fun zz => absurd (show 5 ≤ nI 5 from Int32.le_refl _) zz)
    exact hkk ls l0
  | succ m ih =>
    intro k s q h hk hq S T P D
    have f0 := P.1.1
    obtain ⟨h1, R1, F1, X1⟩ := sp_hnum (d := d) S T P D (by omega)
    have S1 := F1.S S
    by_cases g : cb B z s.1 = 32
    · rw [if_pos g] at X1
      by_cases g2 : dg B z (s.1 + 1) = true
      · rw [if_pos g2] at X1
        obtain ⟨h', P', D', F', hkk⟩ := ih (k + 1) ((numP B z (s.1 + 1)).2, s.2) (q.1 + 1, u1 q.2.1 q.1 (numP B z (s.1 + 1)).1, u1 q.2.2 q.1 (s.1 + 1)) h1 (by omega) (by rw [hq]) S1 (F1.T T) X1.1 X1.2
        have e : hdX B z (m + 1) s q = hdX B z m ((numP B z (s.1 + 1)).2, s.2) (q.1 + 1, u1 q.2.1 q.1 (numP B z (s.1 + 1)).1, u1 q.2.2 q.1 (s.1 + 1)) := by
          have e0 : hdR B z (m + 1) s.1 q = hdR B z m (numP B z (s.1 + 1)).2 (q.1 + 1, u1 q.2.1 q.1 (numP B z (s.1 + 1)).1, u1 q.2.2 q.1 (s.1 + 1)) := (if_pos g).trans (if_pos g2)
          unfold hdX
          rw [e0]
        rw [e]
        refine ⟨h', P', D', F1.tr F', ?_⟩
        intro Q bc bs hK ls l1 l0
        have hgo := fun ls => hkk Q bc bs hK ls
        refine r_iload_n (q7 (i := 11) rfl) l1 ?_
        refine r_iconst (v := 5) (q7 (i := 12) rfl) (by decide) ?_
        refine r_icmp 42 (q7 (i := 13) rfl) (by decide) (fun zz => absurd zz (show ¬ (5 ≤ nI k) from nI_ge (b := 5) (by omega) (by decide))) (fun _ => ?_)
        refine r_aload_n (q7 (i := 14) rfl) l0 ?_
        refine r_getI (x := hI h 35 14) (q7 (i := 15) rfl) rfl (by decide) (k_35 S) (fun _ _ _ => rfl) rfl ?_
        refine r_if 42 (q7 (i := 16) rfl) (by decide) (fun zz => absurd zz (show ¬ (¬ hI h 35 14 = 0) from fun y => y f0)) (fun _ => ?_)
        refine r_aload_n (q7 (i := 17) rfl) l0 ?_
        refine r_cV (d := _) (q7 (i := 18) rfl) rfl rfl rfl (k_35 S) (Nat.le_of_ble_eq_true rfl) (Nat.zero_le _) (Nat.zero_le _) R1 ?_
        show Wp _ _ _ 36 ls [] h1 _ _
        refine r_iinc (y := nI (k + 1)) (q7 (i := 19) rfl) (Nat.le_of_ble_eq_true rfl) l1 (nI_1 k) rfl ?_
        have l0 := lk1 (k := 1) (v := .int (nI (k + 1))) l0 (by decide) (Or.inl rfl)
        have l1 := lk0 ls 1 (.int (nI (k + 1)))
        generalize lset1 ls 1 (.int (nI (k + 1))) = ls at l1 l0 ⊢
        refine r_goto 20 (q7 (i := 20) rfl) (by decide) ?_
        exact hgo ls l1 l0
      · rw [if_neg g2] at X1
        have e : hdX B z (m + 1) s q = (q, .error (1, s.1 + 1)) := by
          have e0 : hdR B z (m + 1) s.1 q = (q, .error (1, s.1 + 1)) := (if_pos g).trans (if_neg g2)
          unfold hdX
          rw [e0]
        rw [e]
        refine ⟨h1, X1.1, X1.2, F1, ?_⟩
        intro Q bc bs hK ls l1 l0
        have hgo := fun ls a b => hd_out S1 X1.1 hK (k + 1) ls a b
        refine r_iload_n (q7 (i := 11) rfl) l1 ?_
        refine r_iconst (v := 5) (q7 (i := 12) rfl) (by decide) ?_
        refine r_icmp 42 (q7 (i := 13) rfl) (by decide) (fun zz => absurd zz (show ¬ (5 ≤ nI k) from nI_ge (b := 5) (by omega) (by decide))) (fun _ => ?_)
        refine r_aload_n (q7 (i := 14) rfl) l0 ?_
        refine r_getI (x := hI h 35 14) (q7 (i := 15) rfl) rfl (by decide) (k_35 S) (fun _ _ _ => rfl) rfl ?_
        refine r_if 42 (q7 (i := 16) rfl) (by decide) (fun zz => absurd zz (show ¬ (¬ hI h 35 14 = 0) from fun y => y f0)) (fun _ => ?_)
        refine r_aload_n (q7 (i := 17) rfl) l0 ?_
        refine r_cV (d := _) (q7 (i := 18) rfl) rfl rfl rfl (k_35 S) (Nat.le_of_ble_eq_true rfl) (Nat.zero_le _) (Nat.zero_le _) R1 ?_
        show Wp _ _ _ 36 ls [] h1 _ _
        refine r_iinc (y := nI (k + 1)) (q7 (i := 19) rfl) (Nat.le_of_ble_eq_true rfl) l1 (nI_1 k) rfl ?_
        have l0 := lk1 (k := 1) (v := .int (nI (k + 1))) l0 (by decide) (Or.inl rfl)
        have l1 := lk0 ls 1 (.int (nI (k + 1)))
        generalize lset1 ls 1 (.int (nI (k + 1))) = ls at l1 l0 ⊢
        refine r_goto 20 (q7 (i := 20) rfl) (by decide) ?_
        exact hgo ls l1 l0
    · rw [if_neg g] at X1
      have e : hdX B z (m + 1) s q = (q, .error (1, s.1)) := by
        have e0 : hdR B z (m + 1) s.1 q = (q, .error (1, s.1)) := if_neg g
        unfold hdX
        rw [e0]
      rw [e]
      refine ⟨h1, X1.1, X1.2, F1, ?_⟩
      intro Q bc bs hK ls l1 l0
      have hgo := fun ls a b => hd_out S1 X1.1 hK (k + 1) ls a b
      refine r_iload_n (q7 (i := 11) rfl) l1 ?_
      refine r_iconst (v := 5) (q7 (i := 12) rfl) (by decide) ?_
      refine r_icmp 42 (q7 (i := 13) rfl) (by decide) (fun zz => absurd zz (show ¬ (5 ≤ nI k) from nI_ge (b := 5) (by omega) (by decide))) (fun _ => ?_)
      refine r_aload_n (q7 (i := 14) rfl) l0 ?_
      refine r_getI (x := hI h 35 14) (q7 (i := 15) rfl) rfl (by decide) (k_35 S) (fun _ _ _ => rfl) rfl ?_
      refine r_if 42 (q7 (i := 16) rfl) (by decide) (fun zz => absurd zz (show ¬ (¬ hI h 35 14 = 0) from fun y => y f0)) (fun _ => ?_)
      refine r_aload_n (q7 (i := 17) rfl) l0 ?_
      refine r_cV (d := _) (q7 (i := 18) rfl) rfl rfl rfl (k_35 S) (Nat.le_of_ble_eq_true rfl) (Nat.zero_le _) (Nat.zero_le _) R1 ?_
      show Wp _ _ _ 36 ls [] h1 _ _
      refine r_iinc (y := nI (k + 1)) (q7 (i := 19) rfl) (Nat.le_of_ble_eq_true rfl) l1 (nI_1 k) rfl ?_
      have l0 := lk1 (k := 1) (v := .int (nI (k + 1))) l0 (by decide) (Or.inl rfl)
      have l1 := lk0 ls 1 (.int (nI (k + 1)))
      generalize lset1 ls 1 (.int (nI (k + 1))) = ls at l1 l0 ⊢
      refine r_goto 20 (q7 (i := 20) rfl) (by decide) ?_
      exact hgo ls l1 l0
