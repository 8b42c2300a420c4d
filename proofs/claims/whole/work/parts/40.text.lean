/-! ===== the text, pure ===== -/
def cb (B : Nat → Int32) (z a : Nat) : Nat := if a < z then (B a &&& 255).toNatClampNeg else 256
def dg (B : Nat → Int32) (z a : Nat) : Bool := decide (48 ≤ cb B z a ∧ cb B z a ≤ 57)
abbrev pst : Type := Nat × (Nat → Nat) × ((Nat → Nat) × (Nat → Nat) × Nat) × Bool × (Nat → Nat) × Nat
abbrev pres : Type := Except (Nat × Nat) pst
def numL (B : Nat → Int32) (z : Nat) : Nat → Nat → Nat → Nat × Nat
  | 0, a, v => (v, a)
  | m + 1, a, v => if dg B z a then numL B z m (a + 1) (10 * v + (cb B z a - 48)) else (v, a)
def numP (B : Nat → Int32) (z a : Nat) : Nat × Nat := if cb B z a = 48 then numL B z 1 a 0 else numL B z 9 a 0
def Fex (B : Nat → Int32) (z c : Nat) (s : pst) : pres := if cb B z s.1 = c then .ok (s.1 + 1, s.2) else .error (1, s.1)
def Fnum (B : Nat → Int32) (z : Nat) (s : pst) : pres := if dg B z s.1 then .ok ((numP B z s.1).2, s.2) else .error (1, s.1)
def numV (B : Nat → Int32) (z : Nat) : pres → Nat
  | .ok s => if dg B z s.1 then (numP B z s.1).1 else 0
  | .error _ => 0
theorem and255 (x : Int32) : ∃ k, k < 256 ∧ x &&& 255 = nI k := by
  obtain ⟨n, hn, rfl⟩ := wb_of32 x
  exact ⟨n % 256, Nat.mod_lt _ (by decide), pk_andN hn 8 (by decide)⟩
theorem cb_in {B : Nat → Int32} {z a : Nat} (h : a < z) (hz : z ≤ 3000) : byAt B z (nI a) = nI (cb B z a) ∧ cb B z a < 256 := by
  obtain ⟨k, hk, e⟩ := and255 (B a)
  have e1 : cb B z a = k := by
    unfold cb
    rw [if_pos h, e, nI_clamp (by omega)]
  refine ⟨?_, by omega⟩
  unfold byAt
  rw [if_neg (nI_pos (by omega)), if_neg (nI_ge h (by omega)), nI_clamp (by omega), e, e1]
theorem cb_out {B : Nat → Int32} {z a : Nat} (h : z ≤ a) (ha : a < 2 ^ 31) : byAt B z (nI a) = -1 ∧ cb B z a = 256 := by
  refine ⟨?_, if_neg (by omega)⟩
  unfold byAt
  rw [if_neg (nI_pos (by omega)), if_pos (nI_le h ha)]
theorem cb_is {B : Nat → Int32} {z a c : Nat} (hz : z ≤ 3000) (ha : a ≤ z) (hc : c < 256) : byAt B z (nI a) = nI c ↔ cb B z a = c := by
  rcases Nat.lt_or_ge a z with h | h
  · obtain ⟨e1, e2⟩ := cb_in (B := B) h hz
    rw [e1]
    exact nI_eq (by omega) (by omega)
  · obtain ⟨e1, e2⟩ := cb_out (B := B) (z := z) h (by omega)
    rw [e1, e2]
    exact ⟨fun q => absurd q.symm (nI_ne1 (by omega)), fun q => absurd q (by omega)⟩
theorem dg_is {B : Nat → Int32} {z a : Nat} (hz : z ≤ 3000) (ha : a ≤ z) : isDig (byAt B z (nI a)) = if dg B z a then 1 else 0 := by
  unfold isDig dg
  rcases Nat.lt_or_ge a z with h | h
  · obtain ⟨e1, e2⟩ := cb_in (B := B) h hz
    rw [e1]
    have q1 : (nI (cb B z a) < 48) ↔ cb B z a < 48 := nI_ltI (b := 48) (by omega) (by omega)
    have q2 : (57 < nI (cb B z a)) ↔ 57 < cb B z a := nI_ltI (a := 57) (by omega) (by omega)
    by_cases p1 : cb B z a < 48
    · rw [if_pos (q1.mpr p1), decide_eq_false (by omega)]; rfl
    · rw [if_neg (fun q => p1 (q1.mp q))]
      by_cases p2 : 57 < cb B z a
      · rw [if_pos (q2.mpr p2), decide_eq_false (by omega)]; rfl
      · rw [if_neg (fun q => p2 (q2.mp q)), decide_eq_true (by omega)]; rfl
  · obtain ⟨e1, e2⟩ := cb_out (B := B) (z := z) h (by omega)
    rw [e1, e2]
    decide
theorem dg_lt {B : Nat → Int32} {z a : Nat} (h : dg B z a = true) : a < z ∧ 48 ≤ cb B z a ∧ cb B z a ≤ 57 := by
  unfold dg at h
  have h := of_decide_eq_true h
  refine ⟨?_, h⟩
  rcases Nat.lt_or_ge a z with q | q
  · exact q
  · unfold cb at h
    rw [if_neg (by omega)] at h
    omega
theorem numL_le (B : Nat → Int32) (z : Nat) : ∀ m a v, a ≤ z → a ≤ (numL B z m a v).2 ∧ (numL B z m a v).2 ≤ z ∧ (numL B z m a v).1 + 1 ≤ (v + 1) * 10 ^ m
  | 0, a, v, h => ⟨Nat.le_refl _, h, by show v + 1 ≤ (v + 1) * 1; omega⟩
  | m + 1, a, v, h => by
    unfold numL
    split
    · rename_i q
      obtain ⟨q1, q2, q3⟩ := dg_lt q
      obtain ⟨a1, a2, a3⟩ := numL_le B z m (a + 1) (10 * v + (cb B z a - 48)) (by omega)
      refine ⟨by omega, a2, Nat.le_trans a3 ?_⟩
      rw [Nat.pow_succ, Nat.mul_comm (10 ^ m), ← Nat.mul_assoc]
      exact Nat.mul_le_mul_right _ (by omega)
    · refine ⟨Nat.le_refl _, h, ?_⟩
      show v + 1 ≤ (v + 1) * 10 ^ (m + 1)
      exact Nat.le_mul_of_pos_right _ (Nat.pow_pos (by decide))
theorem numP_le (B : Nat → Int32) (z : Nat) {a : Nat} (h : a ≤ z) : a ≤ (numP B z a).2 ∧ (numP B z a).2 ≤ z ∧ (numP B z a).1 < 1000000000 := by
  unfold numP
  split
  · obtain ⟨a1, a2, a3⟩ := numL_le B z 1 a 0 h
    exact ⟨a1, a2, by omega⟩
  · obtain ⟨a1, a2, a3⟩ := numL_le B z 9 a 0 h
    exact ⟨a1, a2, by omega⟩
/-- the class's text holds a state or a FAULT -/
def PS (h : hp) (z : Nat) : pres → Prop
  | .ok s => (hI h 35 14 = 0 ∧ hI h 35 16 = nI s.1 ∧ s.1 ≤ z) ∧ (∀ k, k < 1001 → hI h 38 k = nI (s.2.1 k) ∧ s.2.1 k ≤ 1000) ∧ ((∀ i, i < s.2.2.1.2.2 → hI h 39 i = nI (s.2.2.1.1 i) ∧ hI h 40 i = nI (s.2.2.1.2.1 i) ∧ s.2.2.1.1 i ≤ 2001) ∧ hI h 35 11 = nI s.2.2.1.2.2 ∧ s.2.2.1.2.2 ≤ 248) ∧ hI h 35 13 = (if s.2.2.2.1 then 1 else 0) ∧ (∀ i, i < s.2.2.2.2.2 → hI h 41 i = nI (s.2.2.2.2.1 i)) ∧ s.2.2.2.2.2 ≤ 119
  | .error e => hI h 35 14 = nI e.1 ∧ hI h 35 15 = nI e.2 ∧ 0 < e.1 ∧ e.1 < 7
def FrE (h h' : hp) : Prop := h'.2 = h.2 ∧ (∀ k, k ≠ 35 → hI h' k = hI h k) ∧ ∀ j, (j < 14 ∨ 17 < j) → hI h' 35 j = hI h 35 j
theorem FrE.rf (h : hp) : FrE h h := ⟨rfl, fun _ _ => rfl, fun _ _ => rfl⟩
theorem FrE.tr {h h' h'' : hp} (a : FrE h h') (b : FrE h' h'') : FrE h h'' := ⟨b.1.trans a.1, fun k x => (b.2.1 k x).trans (a.2.1 k x), fun k x => (b.2.2 k x).trans (a.2.2 k x)⟩
theorem FrE.S {h h' : hp} (F : FrE h h') (S : Sh h) : Sh h' := S.to (by rw [F.1])
theorem FrE.w {h : hp} {j : Nat} (hj : 14 ≤ j ∧ j ≤ 17) (v : Int32) : FrE h (sI h 35 j v) := ⟨rfl, fun k x => by
  show u2 h.1 35 _ _ k = _
  rw [u2_n x], fun k x => by
  show u2 h.1 35 j _ 35 k = _
  rw [u2_s, u1_n (by omega)]⟩
/-- the tape as the text sees it -/
def TC (h : hp) (B : Nat → Int32) (z : Nat) : Prop := hI h 34 = B ∧ hI h 33 1 = nI z ∧ z ≤ 3000
theorem FrE.T {h h' : hp} (F : FrE h h') {B : Nat → Int32} {z : Nat} (T : TC h B z) : TC h' B z := ⟨(F.2.1 34 (by decide)).trans T.1, by rw [F.2.1 33 (by decide)]; exact T.2.1, T.2.2⟩
theorem PS_at {h : hp} {z : Nat} {s : pst} (P : PS h z (.ok s)) {a : Nat} (ha : a ≤ z) : PS (sI h 35 16 (nI a)) z (.ok (a, s.2)) := ⟨⟨P.1.1, rfl, ha⟩, P.2⟩
theorem PS_na {h : hp} {z : Nat} {r : pres} (P : PS h z r) (v : Int32) : PS (sI h 35 17 v) z r := by
  cases r with
  | ok s => exact P
  | error e => exact P
theorem PS_err {h : hp} {z : Nat} {s : pst} (P : PS h z (.ok s)) {f : Nat} (hf : 0 < f ∧ f < 7) (p : Nat) : PS (sI (sI h 35 14 (nI f)) 35 15 (nI p)) z (.error (f, p)) := ⟨rfl, rfl, hf⟩
def failH (h : hp) (k p : Int32) : hp := if hI h 35 14 = 0 then sI (sI h 35 14 k) 35 15 p else h
theorem fail_ok {h : hp} {z : Nat} {s : pst} (P : PS h z (.ok s)) (k p : Int32) : failH h k p = sI (sI h 35 14 k) 35 15 p := if_pos P.1.1
theorem err_ne {h : hp} {z : Nat} {e : Nat × Nat} (P : PS h z (.error e)) : ¬ hI h 35 14 = 0 := by
  rw [P.1]
  exact neN (b := 0) (by have := P.2.2.2; omega) (by decide) (by have := P.2.2.1; omega)
theorem fail_err {h : hp} {z : Nat} {e : Nat × Nat} (P : PS h z (.error e)) (k p : Int32) : failH h k p = h := if_neg (err_ne P)
set_option maxHeartbeats 2000000 in
set_option maxRecDepth 10000 in
theorem sp_fail {d : Nat} {h : hp} (S : Sh h) (k p : Int32) : Run (d + 1) 3 [.ref 35, .int k, .int p] h 0 0 none (failH h k p) := by
  refine Run.of (Nat.le_of_ble_eq_true rfl) (fun Q hQ => ?_)
  show Wp (Ex d) 3 Q 0 [(0, .ref 35), (1, .int k), (2, .int p)] [] h 0 0
  unfold failH at hQ
  by_cases q : hI h 35 14 = 0
  · rw [if_pos q] at hQ
    refine r_aload_n (q3 (i := 0) rfl) rfl ?_
    refine r_getI (x := hI h 35 14) (q3 (i := 1) rfl) rfl (by decide) (k_35 S) (fun _ _ _ => rfl) rfl ?_
    refine r_if 17 (q3 (i := 2) rfl) (by decide) (fun zz => absurd zz (show ¬ (¬ hI h 35 14 = 0) from fun z => z q)) (fun _ => ?_)
    refine r_aload_n (q3 (i := 3) rfl) rfl ?_
    refine r_iload_n (q3 (i := 4) rfl) rfl ?_
    refine r_putI (q3 (i := 5) rfl) rfl (by decide) (k_35 S) rfl rfl ?_
    refine r_aload_n (q3 (i := 6) rfl) rfl ?_
    refine r_iload_n (q3 (i := 7) rfl) rfl ?_
    refine r_putI (q3 (i := 8) rfl) rfl (by decide) (k_35 S) rfl rfl ?_
    exact r_vret (q3 (i := 9) rfl) rfl hQ
  · rw [if_neg q] at hQ
    refine r_aload_n (q3 (i := 0) rfl) rfl ?_
    refine r_getI (x := hI h 35 14) (q3 (i := 1) rfl) rfl (by decide) (k_35 S) (fun _ _ _ => rfl) rfl ?_
    refine r_if 17 (q3 (i := 2) rfl) (by decide) (fun _ => ?_) (fun zz => absurd (show ¬ hI h 35 14 = 0 from q) zz)
    exact r_vret (q3 (i := 9) rfl) rfl hQ
set_option maxHeartbeats 2000000 in
set_option maxRecDepth 10000 in
theorem sp_failIf0 {d : Nat} {h : hp} (k p : Int32) : Run (d + 1) 19 [.ref 35, .int 0, .int k, .int p] h 0 0 none h := by
  refine Run.of (Nat.le_of_ble_eq_true rfl) (fun Q hQ => ?_)
  show Wp (Ex (d)) 19 Q 0 [(0, .ref 35), (1, .int 0), (2, .int k), (3, .int p)] [] h 0 0
  refine r_iload_n (q19 (i := 0) rfl) rfl ?_
  refine r_if 10 (q19 (i := 1) rfl) (by decide) (fun _ => ?_) (fun zz => absurd (show (0 : Int32) = 0 from by decide) zz)
  exact r_vret (q19 (i := 6) rfl) rfl hQ
set_option maxHeartbeats 2000000 in
set_option maxRecDepth 10000 in
theorem sp_failIf1 {d : Nat} {h : hp} (S : Sh h) (k p : Int32) : Run (d + 1 + 1) 19 [.ref 35, .int 1, .int k, .int p] h 0 0 none (failH h k p) := by
  refine Run.of (Nat.le_of_ble_eq_true rfl) (fun Q hQ => ?_)
  show Wp (Ex (d + 1)) 19 Q 0 [(0, .ref 35), (1, .int 1), (2, .int k), (3, .int p)] [] h 0 0
  refine r_iload_n (q19 (i := 0) rfl) rfl ?_
  refine r_if 10 (q19 (i := 1) rfl) (by decide) (fun zz => absurd zz (show ¬ ((1 : Int32) = 0) from by decide)) (fun _ => ?_)
  refine r_aload_n (q19 (i := 2) rfl) rfl ?_
  refine r_iload_n (q19 (i := 3) rfl) rfl ?_
  refine r_iload_n (q19 (i := 4) rfl) rfl ?_
  refine r_cV (d := _) (q19 (i := 5) rfl) rfl rfl rfl (k_35 S) (Nat.le_of_ble_eq_true rfl) (Nat.zero_le _) (Nat.zero_le _) (sp_fail S k p) ?_
  show Wp _ _ _ 10 [(0, .ref 35), (1, .int 1), (2, .int k), (3, .int p)] [] (failH h k p) _ _
  exact r_vret (q19 (i := 6) rfl) rfl hQ
set_option maxHeartbeats 2000000 in
set_option maxRecDepth 10000 in
theorem sp_expect {d : Nat} {h : hp} (S : Sh h) {B : Nat → Int32} {z : Nat} (T : TC h B z) {r : pres} (P : PS h z r) {c : Nat} (hc : c < 256) : ∃ h', Run (d + 2 + 1) 18 [.ref 35, .int (nI c)] h 0 0 none h' ∧ PS h' z (r.bind (Fex B z c)) ∧ FrE h h' := by
  obtain ⟨t1, t2, t3⟩ := T
  cases r with
  | ok s =>
    obtain ⟨⟨p1, p2, p3⟩, p4⟩ := id P
    have R0 := sp_byteAt (d := d + 1) S t2 t3 (nI s.1)
    rw [t1] at R0
    have ec := cb_is (B := B) t3 p3 hc
    by_cases q : cb B z s.1 = c
    · have e : (Except.ok s : pres).bind (Fex B z c) = .ok (s.1 + 1, s.2) := if_pos q
      have hlt : s.1 + 1 ≤ z := by
        rcases Nat.lt_or_ge s.1 z with g | g
        · exact g
        · have := (cb_out (B := B) g (by omega)).2; omega
      rw [e]
      refine ⟨sI h 35 16 (nI (s.1 + 1)), ?_, PS_at P hlt, FrE.w (by decide) _⟩
      refine Run.of (Nat.le_of_ble_eq_true rfl) (fun Q hQ => ?_)
      show Wp (Ex (d + 2)) 18 Q 0 [(0, .ref 35), (1, .int (nI c))] [] h 0 0
      rw [ec.mpr q] at R0
      refine r_aload_n (q18 (i := 0) rfl) rfl ?_
      refine r_aload_n (q18 (i := 1) rfl) rfl ?_
      refine r_getR (b := 33) (q18 (i := 2) rfl) rfl (by decide) (k_35 S) (fun _ _ _ => rfl) (r_35_0 S) ?_
      refine r_aload_n (q18 (i := 3) rfl) rfl ?_
      refine r_getI (x := nI s.1) (q18 (i := 4) rfl) rfl (by decide) (k_35 S) (fun _ _ _ => rfl) p2 ?_
      refine r_cV (d := _) (q18 (i := 5) rfl) rfl rfl rfl (k_33 S) (Nat.le_of_ble_eq_true rfl) (Nat.zero_le _) (Nat.zero_le _) R0 ?_
      show Wp _ _ _ 12 [(0, .ref 35), (1, .int (nI c))] [.int (nI c), .ref 35] h _ _
      refine r_iload_n (q18 (i := 6) rfl) rfl ?_
      refine r_icmp 20 (q18 (i := 7) rfl) (by decide) (fun _ => ?_) (fun zz => absurd (show nI c = nI c from rfl) zz)
      refine r_iconst (v := 0) (q18 (i := 10) rfl) (by decide) ?_
      refine r_iconst (v := 1) (q18 (i := 11) rfl) (by decide) ?_
      refine r_aload_n (q18 (i := 12) rfl) rfl ?_
      refine r_getI (x := nI s.1) (q18 (i := 13) rfl) rfl (by decide) (k_35 S) (fun _ _ _ => rfl) p2 ?_
      refine r_cV (d := _) (q18 (i := 14) rfl) rfl rfl rfl (k_35 S) (Nat.le_of_ble_eq_true rfl) (Nat.zero_le _) (Nat.zero_le _) (sp_failIf0 (d := d + 1) _ _) ?_
      show Wp _ _ _ 29 [(0, .ref 35), (1, .int (nI c))] [] h _ _
      refine r_aload_n (q18 (i := 15) rfl) rfl ?_
      refine r_getI (x := hI h 35 14) (q18 (i := 16) rfl) rfl (by decide) (k_35 S) (fun _ _ _ => rfl) rfl ?_
      refine r_if 46 (q18 (i := 17) rfl) (by decide) (fun zz => absurd zz (show ¬ (¬ hI h 35 14 = 0) from fun z => z p1)) (fun _ => ?_)
      refine r_aload_n (q18 (i := 18) rfl) rfl ?_
      refine r_dup (q18 (i := 19) rfl) rfl ?_
      refine r_getI (x := nI s.1) (q18 (i := 20) rfl) rfl (by decide) (k_35 S) (fun _ _ _ => rfl) p2 ?_
      refine r_iconst (v := 1) (q18 (i := 21) rfl) (by decide) ?_
      refine r_iadd (q18 (i := 22) rfl) ?_
      rw [show ((nI s.1) + 1 : Int32) = nI (s.1 + 1) from nI_1 _]
      refine r_putI (q18 (i := 23) rfl) rfl (by decide) (k_35 S) rfl rfl ?_
      exact r_vret (q18 (i := 24) rfl) rfl hQ
    · have e : (Except.ok s : pres).bind (Fex B z c) = .error (1, s.1) := if_neg q
      rw [e]
      refine ⟨sI (sI h 35 14 1) 35 15 (nI s.1), ?_, PS_err P (by decide) s.1, (FrE.w (by decide) _).tr (FrE.w (by decide) _)⟩
      refine Run.of (Nat.le_of_ble_eq_true rfl) (fun Q hQ => ?_)
      show Wp (Ex (d + 2)) 18 Q 0 [(0, .ref 35), (1, .int (nI c))] [] h 0 0
      have R1 := sp_failIf1 (d := d) S 1 (nI s.1)
      rw [fail_ok P] at R1
      refine r_aload_n (q18 (i := 0) rfl) rfl ?_
      refine r_aload_n (q18 (i := 1) rfl) rfl ?_
      refine r_getR (b := 33) (q18 (i := 2) rfl) rfl (by decide) (k_35 S) (fun _ _ _ => rfl) (r_35_0 S) ?_
      refine r_aload_n (q18 (i := 3) rfl) rfl ?_
      refine r_getI (x := nI s.1) (q18 (i := 4) rfl) rfl (by decide) (k_35 S) (fun _ _ _ => rfl) p2 ?_
      refine r_cV (d := _) (q18 (i := 5) rfl) rfl rfl rfl (k_33 S) (Nat.le_of_ble_eq_true rfl) (Nat.zero_le _) (Nat.zero_le _) R0 ?_
      show Wp _ _ _ 12 [(0, .ref 35), (1, .int (nI c))] [.int (byAt B z (nI s.1)), .ref 35] h _ _
      refine r_iload_n (q18 (i := 6) rfl) rfl ?_
      refine r_icmp 20 (q18 (i := 7) rfl) (by decide) (fun zz => absurd zz (show ¬ (byAt B z (nI s.1) = nI c) from fun g => q (ec.mp g))) (fun _ => ?_)
      refine r_iconst (v := 1) (q18 (i := 8) rfl) (by decide) ?_
      refine r_goto 21 (q18 (i := 9) rfl) (by decide) ?_
      refine r_iconst (v := 1) (q18 (i := 11) rfl) (by decide) ?_
      refine r_aload_n (q18 (i := 12) rfl) rfl ?_
      refine r_getI (x := nI s.1) (q18 (i := 13) rfl) rfl (by decide) (k_35 S) (fun _ _ _ => rfl) p2 ?_
      refine r_cV (d := _) (q18 (i := 14) rfl) rfl rfl rfl (k_35 S) (Nat.le_of_ble_eq_true rfl) (Nat.zero_le _) (Nat.zero_le _) R1 ?_
      show Wp _ _ _ 29 [(0, .ref 35), (1, .int (nI c))] [] (sI (sI h 35 14 1) 35 15 (nI s.1)) _ _
      refine r_aload_n (q18 (i := 15) rfl) rfl ?_
      refine r_getI (x := 1) (q18 (i := 16) rfl) rfl (by decide) (k_35 S) (fun _ _ _ => rfl) rfl ?_
      refine r_if 46 (q18 (i := 17) rfl) (by decide) (fun _ => ?_) (fun zz => absurd (show ¬ (1 : Int32) = 0 from by decide) zz)
      exact r_vret (q18 (i := 24) rfl) rfl hQ
  | error e =>
    have R0 := sp_byteAt (d := d + 1) S t2 t3 (hI h 35 16)
    refine ⟨h, ?_, P, FrE.rf h⟩
    refine Run.of (Nat.le_of_ble_eq_true rfl) (fun Q hQ => ?_)
    show Wp (Ex (d + 2)) 18 Q 0 [(0, .ref 35), (1, .int (nI c))] [] h 0 0
    have R1 := sp_failIf1 (d := d) S 1 (hI h 35 16)
    rw [fail_err P] at R1
    have R2 := sp_failIf0 (d := d + 1) (h := h) 1 (hI h 35 16)
    refine r_aload_n (q18 (i := 0) rfl) rfl ?_
    refine r_aload_n (q18 (i := 1) rfl) rfl ?_
    refine r_getR (b := 33) (q18 (i := 2) rfl) rfl (by decide) (k_35 S) (fun _ _ _ => rfl) (r_35_0 S) ?_
    refine r_aload_n (q18 (i := 3) rfl) rfl ?_
    refine r_getI (x := hI h 35 16) (q18 (i := 4) rfl) rfl (by decide) (k_35 S) (fun _ _ _ => rfl) rfl ?_
    refine r_cV (d := _) (q18 (i := 5) rfl) rfl rfl rfl (k_33 S) (Nat.le_of_ble_eq_true rfl) (Nat.zero_le _) (Nat.zero_le _) R0 ?_
    show Wp _ _ _ 12 [(0, .ref 35), (1, .int (nI c))] [.int (byAt (hI h 34) z (hI h 35 16)), .ref 35] h _ _
    refine r_iload_n (q18 (i := 6) rfl) rfl ?_
    refine r_icmp 20 (q18 (i := 7) rfl) (by decide) (fun c13 => ?_) (fun c13 => ?_)
    · have c13 : byAt (hI h 34) z (hI h 35 16) = nI c := c13
      refine r_iconst (v := 0) (q18 (i := 10) rfl) (by decide) ?_
      refine r_iconst (v := 1) (q18 (i := 11) rfl) (by decide) ?_
      refine r_aload_n (q18 (i := 12) rfl) rfl ?_
      refine r_getI (x := hI h 35 16) (q18 (i := 13) rfl) rfl (by decide) (k_35 S) (fun _ _ _ => rfl) rfl ?_
      refine r_cV (d := _) (q18 (i := 14) rfl) rfl rfl rfl (k_35 S) (Nat.le_of_ble_eq_true rfl) (Nat.zero_le _) (Nat.zero_le _) R2 ?_
      show Wp _ _ _ 29 [(0, .ref 35), (1, .int (nI c))] [] h _ _
      refine r_aload_n (q18 (i := 15) rfl) rfl ?_
      refine r_getI (x := hI h 35 14) (q18 (i := 16) rfl) rfl (by decide) (k_35 S) (fun _ _ _ => rfl) rfl ?_
      refine r_if 46 (q18 (i := 17) rfl) (by decide) (fun _ => ?_) (fun zz => absurd (show ¬ hI h 35 14 = 0 from err_ne P) zz)
      exact r_vret (q18 (i := 24) rfl) rfl hQ
    · have c13 : ¬ (byAt (hI h 34) z (hI h 35 16) = nI c) := c13
      refine r_iconst (v := 1) (q18 (i := 8) rfl) (by decide) ?_
      refine r_goto 21 (q18 (i := 9) rfl) (by decide) ?_
      refine r_iconst (v := 1) (q18 (i := 11) rfl) (by decide) ?_
      refine r_aload_n (q18 (i := 12) rfl) rfl ?_
      refine r_getI (x := hI h 35 16) (q18 (i := 13) rfl) rfl (by decide) (k_35 S) (fun _ _ _ => rfl) rfl ?_
      refine r_cV (d := _) (q18 (i := 14) rfl) rfl rfl rfl (k_35 S) (Nat.le_of_ble_eq_true rfl) (Nat.zero_le _) (Nat.zero_le _) R1 ?_
      show Wp _ _ _ 29 [(0, .ref 35), (1, .int (nI c))] [] h _ _
      refine r_aload_n (q18 (i := 15) rfl) rfl ?_
      refine r_getI (x := hI h 35 14) (q18 (i := 16) rfl) rfl (by decide) (k_35 S) (fun _ _ _ => rfl) rfl ?_
      refine r_if 46 (q18 (i := 17) rfl) (by decide) (fun _ => ?_) (fun zz => absurd (show ¬ hI h 35 14 = 0 from err_ne P) zz)
      exact r_vret (q18 (i := 24) rfl) rfl hQ
