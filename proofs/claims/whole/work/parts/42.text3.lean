/-! ===== lines ===== -/
def Fins (B : Nat → Int32) (z H : Nat) : Nat → Nat → pst → pres
  | 0, _, s => .ok s
  | m + 1, i, s => ((Fdef B z H (i + 1) s).bind (Fex B z 10)).bind (Fins B z H m (i + 1))
def Fouts (B : Nat → Int32) (z H : Nat) : Nat → pst → pres
  | 0, s => .ok s
  | m + 1, s => ((Fuse B z H s).bind (Fex B z 10)).bind (Fouts B z H m)
def Fap (s : pst) : pst := (s.1, s.2.1, s.2.2.1, s.2.2.2.1, u1 s.2.2.2.2.1 s.2.2.2.2.2 s.1, s.2.2.2.2.2 + 1)
def Fline (B : Nat → Int32) (z H n : Nat) (s : pst) : pres := (((((Fdef B z H (n + 1 + s.2.2.2.2.2) (Fap s)).bind (Fex B z 32)).bind (Fuse B z H)).bind (Fex B z 32)).bind (Fuse B z H)).bind (Fex B z 10)
def Fands (B : Nat → Int32) (z H n : Nat) : Nat → pst → pres
  | 0, s => .ok s
  | m + 1, s => (Fline B z H n s).bind (Fands B z H n m)
def Fnd : Nat → Nat → pst → pres
  | 0, _, s => .ok s
  | m + 1, k, s => if 0 < s.2.2.1.1 k / 2 ∧ s.2.1 (s.2.2.1.1 k / 2) = 0 then .error (5, s.2.2.1.2.1 k) else Fnd m (k + 1) s
theorem bind_ok {r : pres} {f : pst → pres} {s' : pst} (h : r.bind f = .ok s') : ∃ s, r = .ok s ∧ f s = .ok s' := by
  cases r with
  | ok s => exact ⟨s, rfl, h⟩
  | error e => cases h
theorem Fex_ok {B : Nat → Int32} {z c : Nat} {s s' : pst} (h : Fex B z c s = .ok s') : s'.2 = s.2 := by
  unfold Fex at h
  split at h
  · cases h; rfl
  · cases h
theorem Fdef_ok {B : Nat → Int32} {z H j : Nat} {s s' : pst} (h : Fdef B z H j s = .ok s') : s'.2.2 = s.2.2 := by
  unfold Fdef at h
  split at h
  · split at h
    · cases h
    · cases h; rfl
  · cases h
theorem Fuse_ok {B : Nat → Int32} {z H : Nat} {s s' : pst} (h : Fuse B z H s = .ok s') : s'.2.2.1.2.2 = s.2.2.1.2.2 + 1 ∧ s'.2.2.2.2 = s.2.2.2.2 := by
  unfold Fuse at h
  split at h
  · split at h
    · cases h
    · cases h; exact ⟨rfl, rfl⟩
  · cases h
theorem PS_ap {h : hp} {z : Nat} {s : pst} (P : PS h z (.ok s)) (hc : s.2.2.2.2.2 < 119) : PS (sI h 41 s.2.2.2.2.2 (nI s.1)) z (.ok (Fap s)) := by
  refine ⟨P.1, P.2.1, P.2.2.1, P.2.2.2.1, fun i hi => ?_, hc⟩
  show u1 (hI h 41) s.2.2.2.2.2 (nI s.1) i = nI (u1 s.2.2.2.2.1 s.2.2.2.2.2 s.1 i)
  by_cases q : i = s.2.2.2.2.2
  · rw [q, u1_s, u1_s]
  · rw [u1_n q, u1_n q]; exact P.2.2.2.2.1 i (by have : i < s.2.2.2.2.2 + 1 := hi; omega)
set_option maxHeartbeats 2000000 in
set_option maxRecDepth 10000 in
theorem lp_ins {d : Nat} {B : Nat → Int32} {z H : Nat} (hH : H ≤ 2001) {n : Nat} (hn : n ≤ 12) : ∀ (m i : Nat) (r : pres) (h : hp), i + m = n → Sh h → TC h B z → PS h z r → hI h 35 8 = nI n → hI h 35 12 = nI H → ∃ h', PS h' z (r.bind (Fins B z H m i)) ∧ FrX h h' ∧ ∀ (Q : resP), Q none h' → ∀ (bc bs : Nat) (ls : List (Nat × Value)), ls.lookup 1 = some (.int (nI i)) → ls.lookup 0 = some (.ref 35) → Wp (Ex (d + 4)) 12 Q 2 ls [] h bc bs := by
  intro m
  induction m with
  | zero =>
    intro i r h hm S T P hc h12
    have e : i = n := by omega
    have er : r.bind (Fins B z H 0 i) = r := by cases r <;> rfl
    rw [er]
    refine ⟨h, P, FrX.rf h, ?_⟩
    intro Q hQ bc bs ls l1 l0
    rw [← e] at hc
    refine r_iload_n (q12 (i := 2) rfl) l1 ?_
    refine r_aload_n (q12 (i := 3) rfl) l0 ?_
    refine r_getI (x := nI i) (q12 (i := 4) rfl) rfl (by decide) (k_35 S) (fun _ _ _ => rfl) hc ?_
    refine r_icmp 36 (q12 (i := 5) rfl) (by decide) (fun _ => ?_) (fun zz => absurd (show nI i ≤ nI i from Int32.le_refl _) zz)
    exact r_vret (q12 (i := 19) rfl) rfl hQ
  | succ m ih =>
    intro i r h hm S T P hc h12
    cases r with
    | error e =>
      refine ⟨h, P, FrX.rf h, ?_⟩
      intro Q hQ bc bs ls l1 l0
      refine r_iload_n (q12 (i := 2) rfl) l1 ?_
      refine r_aload_n (q12 (i := 3) rfl) l0 ?_
      refine r_getI (x := nI n) (q12 (i := 4) rfl) rfl (by decide) (k_35 S) (fun _ _ _ => rfl) hc ?_
      refine r_icmp 36 (q12 (i := 5) rfl) (by decide) (fun zz => absurd zz (show ¬ (nI n ≤ nI i) from nI_ge (by omega) (by omega))) (fun _ => ?_)
      refine r_aload_n (q12 (i := 6) rfl) l0 ?_
      refine r_getI (x := hI h 35 14) (q12 (i := 7) rfl) rfl (by decide) (k_35 S) (fun _ _ _ => rfl) rfl ?_
      refine r_if 36 (q12 (i := 8) rfl) (by decide) (fun _ => ?_) (fun zz => absurd (show ¬ hI h 35 14 = 0 from err_ne P) zz)
      exact r_vret (q12 (i := 19) rfl) rfl hQ
    | ok s =>
      have f0 := P.1.1
      have f16 := P.1.2.1
      obtain ⟨h1, R1, P1, F1⟩ := sp_def (d := d) S T P (j := i + 1) h12 hH (by omega)
      have S1 := F1.S S
      obtain ⟨h2, R2, P2, F2⟩ := sp_expect (d := d + 1) S1 (F1.T T) P1 (c := 10) (by decide)
      have F12 := F1.tr F2.X
      have S2 := F12.S S
      obtain ⟨h', P', F', hk⟩ := ih (i + 1) _ h2 (by omega) S2 (F12.T T) P2 ((F12.2.2 8 (by decide)).trans hc) ((F12.2.2 12 (by decide)).trans h12)
      refine ⟨h', P', F12.tr F', ?_⟩
      intro Q hQ bc bs ls l1 l0
      refine r_iload_n (q12 (i := 2) rfl) l1 ?_
      refine r_aload_n (q12 (i := 3) rfl) l0 ?_
      refine r_getI (x := nI n) (q12 (i := 4) rfl) rfl (by decide) (k_35 S) (fun _ _ _ => rfl) hc ?_
      refine r_icmp 36 (q12 (i := 5) rfl) (by decide) (fun zz => absurd zz (show ¬ (nI n ≤ nI i) from nI_ge (by omega) (by omega))) (fun _ => ?_)
      refine r_aload_n (q12 (i := 6) rfl) l0 ?_
      refine r_getI (x := hI h 35 14) (q12 (i := 7) rfl) rfl (by decide) (k_35 S) (fun _ _ _ => rfl) rfl ?_
      refine r_if 36 (q12 (i := 8) rfl) (by decide) (fun zz => absurd zz (show ¬ (¬ hI h 35 14 = 0) from fun y => y f0)) (fun _ => ?_)
      refine r_aload_n (q12 (i := 9) rfl) l0 ?_
      refine r_iload_n (q12 (i := 10) rfl) l1 ?_
      refine r_iconst (v := 1) (q12 (i := 11) rfl) (by decide) ?_
      refine r_iadd (q12 (i := 12) rfl) ?_
      rw [show ((nI i) + 1 : Int32) = nI (i + 1) from nI_1 i]
      refine r_cV (d := _) (q12 (i := 13) rfl) rfl rfl rfl (k_35 S) (Nat.le_of_ble_eq_true rfl) (Nat.zero_le _) (Nat.zero_le _) R1 ?_
      show Wp _ _ _ 24 ls [] h1 _ _
      refine r_aload_n (q12 (i := 14) rfl) l0 ?_
      refine r_bipush (v := 10) (q12 (i := 15) rfl) (by decide) ?_
      refine r_cV (d := _) (q12 (i := 16) rfl) rfl rfl rfl (k_35 S1) (Nat.le_of_ble_eq_true rfl) (Nat.zero_le _) (Nat.zero_le _) R2 ?_
      show Wp _ _ _ 30 ls [] h2 _ _
      refine r_iinc (y := nI (i + 1)) (q12 (i := 17) rfl) (Nat.le_of_ble_eq_true rfl) l1 (nI_1 i) rfl ?_
      have l0 := lk1 (k := 1) (v := .int (nI (i + 1))) l0 (by decide) (Or.inl rfl)
      have l1 := lk0 ls 1 (.int (nI (i + 1)))
      generalize lset1 ls 1 (.int (nI (i + 1))) = ls at l1 l0 ⊢
      refine r_goto 2 (q12 (i := 18) rfl) (by decide) ?_
      exact hk Q hQ bc bs ls l1 l0
set_option maxHeartbeats 2000000 in
set_option maxRecDepth 10000 in
theorem lp_outs {d : Nat} {B : Nat → Int32} {z H : Nat} (hH : H ≤ 2001) {O : Nat} (hO : O ≤ 10) : ∀ (m i : Nat) (r : pres) (h : hp), i + m = O → Sh h → TC h B z → PS h z r → hI h 35 9 = nI O → hI h 35 12 = nI H → (∀ s, r = .ok s → s.2.2.1.2.2 = i) → ∃ h', PS h' z (r.bind (Fouts B z H m)) ∧ FrX h h' ∧ ∀ (Q : resP), Q none h' → ∀ (bc bs : Nat) (ls : List (Nat × Value)), ls.lookup 1 = some (.int (nI i)) → ls.lookup 0 = some (.ref 35) → Wp (Ex (d + 4)) 13 Q 2 ls [] h bc bs := by
  intro m
  induction m with
  | zero =>
    intro i r h hm S T P hc h12 hu
    have e : i = O := by omega
    have er : r.bind (Fouts B z H 0) = r := by cases r <;> rfl
    rw [er]
    refine ⟨h, P, FrX.rf h, ?_⟩
    intro Q hQ bc bs ls l1 l0
    rw [← e] at hc
    refine r_iload_n (q13 (i := 2) rfl) l1 ?_
    refine r_aload_n (q13 (i := 3) rfl) l0 ?_
    refine r_getI (x := nI i) (q13 (i := 4) rfl) rfl (by decide) (k_35 S) (fun _ _ _ => rfl) hc ?_
    refine r_icmp 33 (q13 (i := 5) rfl) (by decide) (fun _ => ?_) (fun zz => absurd (show nI i ≤ nI i from Int32.le_refl _) zz)
    exact r_vret (q13 (i := 16) rfl) rfl hQ
  | succ m ih =>
    intro i r h hm S T P hc h12 hu
    cases r with
    | error e =>
      refine ⟨h, P, FrX.rf h, ?_⟩
      intro Q hQ bc bs ls l1 l0
      refine r_iload_n (q13 (i := 2) rfl) l1 ?_
      refine r_aload_n (q13 (i := 3) rfl) l0 ?_
      refine r_getI (x := nI O) (q13 (i := 4) rfl) rfl (by decide) (k_35 S) (fun _ _ _ => rfl) hc ?_
      refine r_icmp 33 (q13 (i := 5) rfl) (by decide) (fun zz => absurd zz (show ¬ (nI O ≤ nI i) from nI_ge (by omega) (by omega))) (fun _ => ?_)
      refine r_aload_n (q13 (i := 6) rfl) l0 ?_
      refine r_getI (x := hI h 35 14) (q13 (i := 7) rfl) rfl (by decide) (k_35 S) (fun _ _ _ => rfl) rfl ?_
      refine r_if 33 (q13 (i := 8) rfl) (by decide) (fun _ => ?_) (fun zz => absurd (show ¬ hI h 35 14 = 0 from err_ne P) zz)
      exact r_vret (q13 (i := 16) rfl) rfl hQ
    | ok s =>
      have f0 := P.1.1
      have f16 := P.1.2.1
      have hui := hu s rfl
      obtain ⟨h1, R1, P1, F1⟩ := sp_use (d := d) S T P h12 hH (fun s' hs => by cases hs; omega)
      have S1 := F1.S S
      obtain ⟨h2, R2, P2, F2⟩ := sp_expect (d := d + 1) S1 (F1.T T) P1 (c := 10) (by decide)
      have F12 := F1.tr F2.X
      have S2 := F12.S S
      obtain ⟨h', P', F', hk⟩ := ih (i + 1) _ h2 (by omega) S2 (F12.T T) P2 ((F12.2.2 9 (by decide)).trans hc) ((F12.2.2 12 (by decide)).trans h12) (fun s' hs => by
        obtain ⟨s1, a1, b1⟩ := bind_ok hs
        have q1 := (Fuse_ok (show Fuse B z H s = .ok s1 from a1)).1
        have q2 := Fex_ok b1
        rw [q2]; omega)
      refine ⟨h', P', F12.tr F', ?_⟩
      intro Q hQ bc bs ls l1 l0
      refine r_iload_n (q13 (i := 2) rfl) l1 ?_
      refine r_aload_n (q13 (i := 3) rfl) l0 ?_
      refine r_getI (x := nI O) (q13 (i := 4) rfl) rfl (by decide) (k_35 S) (fun _ _ _ => rfl) hc ?_
      refine r_icmp 33 (q13 (i := 5) rfl) (by decide) (fun zz => absurd zz (show ¬ (nI O ≤ nI i) from nI_ge (by omega) (by omega))) (fun _ => ?_)
      refine r_aload_n (q13 (i := 6) rfl) l0 ?_
      refine r_getI (x := hI h 35 14) (q13 (i := 7) rfl) rfl (by decide) (k_35 S) (fun _ _ _ => rfl) rfl ?_
      refine r_if 33 (q13 (i := 8) rfl) (by decide) (fun zz => absurd zz (show ¬ (¬ hI h 35 14 = 0) from fun y => y f0)) (fun _ => ?_)
      refine r_aload_n (q13 (i := 9) rfl) l0 ?_
      refine r_cV (d := _) (q13 (i := 10) rfl) rfl rfl rfl (k_35 S) (Nat.le_of_ble_eq_true rfl) (Nat.zero_le _) (Nat.zero_le _) R1 ?_
      show Wp _ _ _ 21 ls [] h1 _ _
      refine r_aload_n (q13 (i := 11) rfl) l0 ?_
      refine r_bipush (v := 10) (q13 (i := 12) rfl) (by decide) ?_
      refine r_cV (d := _) (q13 (i := 13) rfl) rfl rfl rfl (k_35 S1) (Nat.le_of_ble_eq_true rfl) (Nat.zero_le _) (Nat.zero_le _) R2 ?_
      show Wp _ _ _ 27 ls [] h2 _ _
      refine r_iinc (y := nI (i + 1)) (q13 (i := 14) rfl) (Nat.le_of_ble_eq_true rfl) l1 (nI_1 i) rfl ?_
      have l0 := lk1 (k := 1) (v := .int (nI (i + 1))) l0 (by decide) (Or.inl rfl)
      have l1 := lk0 ls 1 (.int (nI (i + 1)))
      generalize lset1 ls 1 (.int (nI (i + 1))) = ls at l1 l0 ⊢
      refine r_goto 2 (q13 (i := 15) rfl) (by decide) ?_
      exact hk Q hQ bc bs ls l1 l0
set_option maxHeartbeats 2000000 in
set_option maxRecDepth 10000 in
theorem lp_ands {d : Nat} {B : Nat → Int32} {z H : Nat} (hH : H ≤ 2001) {n N O : Nat} (hn : n ≤ 12) (hN : N ≤ 119) (hO : O ≤ 10) : ∀ (m i : Nat) (r : pres) (h : hp), i + m = N → Sh h → TC h B z → PS h z r → hI h 35 10 = nI N → hI h 35 12 = nI H → hI h 35 8 = nI n → (∀ s, r = .ok s → s.2.2.2.2.2 = i ∧ s.2.2.1.2.2 = O + 2 * i) → ∃ h', PS h' z (r.bind (Fands B z H n m)) ∧ FrX h h' ∧ ∀ (Q : resP), Q none h' → ∀ (bc bs : Nat) (ls : List (Nat × Value)), ls.lookup 1 = some (.int (nI i)) → ls.lookup 0 = some (.ref 35) → Wp (Ex (d + 4)) 14 Q 2 ls [] h bc bs := by
  intro m
  induction m with
  | zero =>
    intro i r h hm S T P hc h12 h8 hu
    have e : i = N := by omega
    have er : r.bind (Fands B z H n 0) = r := by cases r <;> rfl
    rw [er]
    refine ⟨h, P, FrX.rf h, ?_⟩
    intro Q hQ bc bs ls l1 l0
    rw [← e] at hc
    refine r_iload_n (q14 (i := 2) rfl) l1 ?_
    refine r_aload_n (q14 (i := 3) rfl) l0 ?_
    refine r_getI (x := nI i) (q14 (i := 4) rfl) rfl (by decide) (k_35 S) (fun _ _ _ => rfl) hc ?_
    refine r_icmp 71 (q14 (i := 5) rfl) (by decide) (fun _ => ?_) (fun zz => absurd (show nI i ≤ nI i from Int32.le_refl _) zz)
    exact r_vret (q14 (i := 38) rfl) rfl hQ
  | succ m ih =>
    intro i r h hm S T P hc h12 h8 hu
    cases r with
    | error e =>
      refine ⟨h, P, FrX.rf h, ?_⟩
      intro Q hQ bc bs ls l1 l0
      refine r_iload_n (q14 (i := 2) rfl) l1 ?_
      refine r_aload_n (q14 (i := 3) rfl) l0 ?_
      refine r_getI (x := nI N) (q14 (i := 4) rfl) rfl (by decide) (k_35 S) (fun _ _ _ => rfl) hc ?_
      refine r_icmp 71 (q14 (i := 5) rfl) (by decide) (fun zz => absurd zz (show ¬ (nI N ≤ nI i) from nI_ge (by omega) (by omega))) (fun _ => ?_)
      refine r_aload_n (q14 (i := 6) rfl) l0 ?_
      refine r_getI (x := hI h 35 14) (q14 (i := 7) rfl) rfl (by decide) (k_35 S) (fun _ _ _ => rfl) rfl ?_
      refine r_if 71 (q14 (i := 8) rfl) (by decide) (fun _ => ?_) (fun zz => absurd (show ¬ hI h 35 14 = 0 from err_ne P) zz)
      exact r_vret (q14 (i := 38) rfl) rfl hQ
    | ok s =>
      have f0 := P.1.1
      have f16 := P.1.2.1
      obtain ⟨hai, hui⟩ := hu s rfl
      have P0 := PS_ap P (by omega)
      have F0 := FrX.w (h := h) (a := 41) (by decide) s.2.2.2.2.2 (nI s.1)
      rw [hai] at P0 F0
      have S0 := F0.S S
      have h8' : hI (sI h 41 i (nI s.1)) 35 8 = nI n := h8
      obtain ⟨h1, R1, P1, F1⟩ := sp_def (d := d) S0 (F0.T T) P0 (j := n + 1 + i) h12 hH (by omega)
      have G1 := F0.tr F1
      have S1 := G1.S S
      obtain ⟨h2, R2, P2, F2⟩ := sp_expect (d := d + 1) S1 (G1.T T) P1 (c := 32) (by decide)
      have G2 := G1.tr F2.X
      have S2 := G2.S S
      have u2 : ∀ s', ((Except.ok (Fap s) : pres).bind (Fdef B z H (n + 1 + i))).bind (Fex B z 32) = .ok s' → s'.2.2.1.2.2 = O + 2 * i ∧ s'.2.2.2.2.2 = i + 1 := fun s' hs => by
        obtain ⟨s1, a1, b1⟩ := bind_ok hs
        have q1 := Fdef_ok (show Fdef B z H (n + 1 + i) (Fap s) = .ok s1 from a1)
        have q2 := Fex_ok b1
        rw [q2, q1]
        exact ⟨hui, congrArg (· + 1) hai⟩
      obtain ⟨h3, R3, P3, F3⟩ := sp_use (d := d) S2 (G2.T T) P2 ((G2.2.2 12 (by decide)).trans h12) hH (fun s' hs => by have := (u2 s' hs).1; omega)
      have G3 := G2.tr F3
      have S3 := G3.S S
      obtain ⟨h4, R4, P4, F4⟩ := sp_expect (d := d + 1) S3 (G3.T T) P3 (c := 32) (by decide)
      have G4 := G3.tr F4.X
      have S4 := G4.S S
      have u4 : ∀ s', ((((Except.ok (Fap s) : pres).bind (Fdef B z H (n + 1 + i))).bind (Fex B z 32)).bind (Fuse B z H)).bind (Fex B z 32) = .ok s' → s'.2.2.1.2.2 = O + 2 * i + 1 ∧ s'.2.2.2.2.2 = i + 1 := fun s' hs => by
        obtain ⟨s1, a1, b1⟩ := bind_ok hs
        obtain ⟨s2, a2, b2⟩ := bind_ok a1
        have q0 := u2 s2 a2
        have q1 := Fuse_ok b2
        have q2 := Fex_ok b1
        rw [q2, q1.1, q1.2, q0.1, q0.2]
        exact ⟨rfl, rfl⟩
      obtain ⟨h5, R5, P5, F5⟩ := sp_use (d := d) S4 (G4.T T) P4 ((G4.2.2 12 (by decide)).trans h12) hH (fun s' hs => by have := (u4 s' hs).1; omega)
      have G5 := G4.tr F5
      have S5 := G5.S S
      obtain ⟨h6, R6, P6, F6⟩ := sp_expect (d := d + 1) S5 (G5.T T) P5 (c := 10) (by decide)
      have G6 := G5.tr F6.X
      have S6 := G6.S S
      obtain ⟨h', P', F', hk⟩ := ih (i + 1) _ h6 (by omega) S6 (G6.T T) P6 ((G6.2.2 10 (by decide)).trans hc) ((G6.2.2 12 (by decide)).trans h12) ((G6.2.2 8 (by decide)).trans h8) (fun s' hs => by
        obtain ⟨s1, a1, b1⟩ := bind_ok hs
        obtain ⟨s2, a2, b2⟩ := bind_ok a1
        have q0 := u4 s2 a2
        have q1 := Fuse_ok b2
        have q2 := Fex_ok b1
        rw [q2, q1.1, q1.2, q0.1, q0.2]
        exact ⟨rfl, by omega⟩)
      have eL : (Except.ok s : pres).bind (Fands B z H n (m + 1)) = (((((((Except.ok (Fap s) : pres).bind (Fdef B z H (n + 1 + i))).bind (Fex B z 32)).bind (Fuse B z H)).bind (Fex B z 32)).bind (Fuse B z H)).bind (Fex B z 10)).bind (Fands B z H n m) := by
        rw [← hai]; rfl
      rw [eL]
      refine ⟨h', P', G6.tr F', ?_⟩
      intro Q hQ bc bs ls l1 l0
      refine r_iload_n (q14 (i := 2) rfl) l1 ?_
      refine r_aload_n (q14 (i := 3) rfl) l0 ?_
      refine r_getI (x := nI N) (q14 (i := 4) rfl) rfl (by decide) (k_35 S) (fun _ _ _ => rfl) hc ?_
      refine r_icmp 71 (q14 (i := 5) rfl) (by decide) (fun zz => absurd zz (show ¬ (nI N ≤ nI i) from nI_ge (by omega) (by omega))) (fun _ => ?_)
      refine r_aload_n (q14 (i := 6) rfl) l0 ?_
      refine r_getI (x := hI h 35 14) (q14 (i := 7) rfl) rfl (by decide) (k_35 S) (fun _ _ _ => rfl) rfl ?_
      refine r_if 71 (q14 (i := 8) rfl) (by decide) (fun zz => absurd zz (show ¬ (¬ hI h 35 14 = 0) from fun y => y f0)) (fun _ => ?_)
      refine r_aload_n (q14 (i := 9) rfl) l0 ?_
      refine r_getR (b := 41) (q14 (i := 10) rfl) rfl (by decide) (k_35 S) (fun _ _ _ => rfl) (r_35_6 S) ?_
      refine r_iload_n (q14 (i := 11) rfl) l1 ?_
      refine r_aload_n (q14 (i := 12) rfl) l0 ?_
      refine r_getI (x := nI s.1) (q14 (i := 13) rfl) rfl (by decide) (k_35 S) (fun _ _ _ => rfl) f16 ?_
      refine r_iasN (q14 (i := 14) rfl) (k_41 S) (by omega) (by decide) ?_
      refine r_aload_n (q14 (i := 15) rfl) l0 ?_
      refine r_aload_n (q14 (i := 16) rfl) l0 ?_
      refine r_getI (x := nI n) (q14 (i := 17) rfl) rfl (by decide) (k_35 S0) (fun _ _ _ => rfl) h8' ?_
      refine r_iconst (v := 1) (q14 (i := 18) rfl) (by decide) ?_
      refine r_iadd (q14 (i := 19) rfl) ?_
      rw [show ((nI n) + 1 : Int32) = nI (n + 1) from nI_1 n]
      refine r_iload_n (q14 (i := 20) rfl) l1 ?_
      refine r_iadd (q14 (i := 21) rfl) ?_
      rw [show ((nI (n + 1)) + (nI i) : Int32) = nI (n + 1 + i) from nI_add _ _]
      refine r_cV (d := _) (q14 (i := 22) rfl) rfl rfl rfl (k_35 S0) (Nat.le_of_ble_eq_true rfl) (Nat.zero_le _) (Nat.zero_le _) R1 ?_
      show Wp _ _ _ 39 ls [] h1 _ _
      refine r_aload_n (q14 (i := 23) rfl) l0 ?_
      refine r_bipush (v := 32) (q14 (i := 24) rfl) (by decide) ?_
      refine r_cV (d := _) (q14 (i := 25) rfl) rfl rfl rfl (k_35 S1) (Nat.le_of_ble_eq_true rfl) (Nat.zero_le _) (Nat.zero_le _) R2 ?_
      show Wp _ _ _ 45 ls [] h2 _ _
      refine r_aload_n (q14 (i := 26) rfl) l0 ?_
      refine r_cV (d := _) (q14 (i := 27) rfl) rfl rfl rfl (k_35 S2) (Nat.le_of_ble_eq_true rfl) (Nat.zero_le _) (Nat.zero_le _) R3 ?_
      show Wp _ _ _ 49 ls [] h3 _ _
      refine r_aload_n (q14 (i := 28) rfl) l0 ?_
      refine r_bipush (v := 32) (q14 (i := 29) rfl) (by decide) ?_
      refine r_cV (d := _) (q14 (i := 30) rfl) rfl rfl rfl (k_35 S3) (Nat.le_of_ble_eq_true rfl) (Nat.zero_le _) (Nat.zero_le _) R4 ?_
      show Wp _ _ _ 55 ls [] h4 _ _
      refine r_aload_n (q14 (i := 31) rfl) l0 ?_
      refine r_cV (d := _) (q14 (i := 32) rfl) rfl rfl rfl (k_35 S4) (Nat.le_of_ble_eq_true rfl) (Nat.zero_le _) (Nat.zero_le _) R5 ?_
      show Wp _ _ _ 59 ls [] h5 _ _
      refine r_aload_n (q14 (i := 33) rfl) l0 ?_
      refine r_bipush (v := 10) (q14 (i := 34) rfl) (by decide) ?_
      refine r_cV (d := _) (q14 (i := 35) rfl) rfl rfl rfl (k_35 S5) (Nat.le_of_ble_eq_true rfl) (Nat.zero_le _) (Nat.zero_le _) R6 ?_
      show Wp _ _ _ 65 ls [] h6 _ _
      refine r_iinc (y := nI (i + 1)) (q14 (i := 36) rfl) (Nat.le_of_ble_eq_true rfl) l1 (nI_1 i) rfl ?_
      have l0 := lk1 (k := 1) (v := .int (nI (i + 1))) l0 (by decide) (Or.inl rfl)
      have l1 := lk0 ls 1 (.int (nI (i + 1)))
      generalize lset1 ls 1 (.int (nI (i + 1))) = ls at l1 l0 ⊢
      refine r_goto 2 (q14 (i := 37) rfl) (by decide) ?_
      exact hk Q hQ bc bs ls l1 l0
set_option maxHeartbeats 2000000 in
set_option maxRecDepth 10000 in
theorem lp_nd {d z : Nat} : ∀ (m k : Nat) (r : pres) (h : hp), k < 1000 → Sh h → PS h z r → (∀ s, r = .ok s → s.2.2.1.2.2 = k + m) → ∃ h', PS h' z (r.bind (Fnd m k)) ∧ FrX h h' ∧ ∀ (Q : resP), Q none h' → ∀ (bc bs : Nat) (ls : List (Nat × Value)), ls.lookup 1 = some (.int (nI k)) → ls.lookup 0 = some (.ref 35) → Wp (Ex (d + 2)) 20 Q 2 ls [] h bc bs := by
  intro m
  induction m with
  | zero =>
    intro k r h hk0 S P hu
    have er : r.bind (Fnd 0 k) = r := by cases r <;> rfl
    rw [er]
    refine ⟨h, P, FrX.rf h, ?_⟩
    intro Q hQ bc bs ls l1 l0
    cases r with
    | ok s =>
      have e11 : hI h 35 11 = nI k := by rw [P.2.2.1.2.1, hu s rfl, Nat.add_zero]
      refine r_iload_n (q20 (i := 2) rfl) l1 ?_
      refine r_aload_n (q20 (i := 3) rfl) l0 ?_
      refine r_getI (x := nI k) (q20 (i := 4) rfl) rfl (by decide) (k_35 S) (fun _ _ _ => rfl) e11 ?_
      refine r_icmp 61 (q20 (i := 5) rfl) (by decide) (fun _ => ?_) (fun zz => absurd (show nI k ≤ nI k from Int32.le_refl _) zz)
      exact r_vret (q20 (i := 35) rfl) rfl hQ
    | error e =>
      refine r_iload_n (q20 (i := 2) rfl) l1 ?_
      refine r_aload_n (q20 (i := 3) rfl) l0 ?_
      refine r_getI (x := hI h 35 11) (q20 (i := 4) rfl) rfl (by decide) (k_35 S) (fun _ _ _ => rfl) rfl ?_
      refine r_icmp 61 (q20 (i := 5) rfl) (by decide) (fun c7 => ?_) (fun c7 => ?_)
      · have c7 : hI h 35 11 ≤ nI k := c7
        exact r_vret (q20 (i := 35) rfl) rfl hQ
      · have c7 : ¬ (hI h 35 11 ≤ nI k) := c7
        refine r_aload_n (q20 (i := 6) rfl) l0 ?_
        refine r_getI (x := hI h 35 14) (q20 (i := 7) rfl) rfl (by decide) (k_35 S) (fun _ _ _ => rfl) rfl ?_
        refine r_if 61 (q20 (i := 8) rfl) (by decide) (fun _ => ?_) (fun zz => absurd (show ¬ hI h 35 14 = 0 from err_ne P) zz)
        exact r_vret (q20 (i := 35) rfl) rfl hQ
  | succ m ih =>
    intro k r h hk0 S P hu
    cases r with
    | error e =>
      refine ⟨h, P, FrX.rf h, ?_⟩
      intro Q hQ bc bs ls l1 l0
      refine r_iload_n (q20 (i := 2) rfl) l1 ?_
      refine r_aload_n (q20 (i := 3) rfl) l0 ?_
      refine r_getI (x := hI h 35 11) (q20 (i := 4) rfl) rfl (by decide) (k_35 S) (fun _ _ _ => rfl) rfl ?_
      refine r_icmp 61 (q20 (i := 5) rfl) (by decide) (fun c7 => ?_) (fun c7 => ?_)
      · have c7 : hI h 35 11 ≤ nI k := c7
        exact r_vret (q20 (i := 35) rfl) rfl hQ
      · have c7 : ¬ (hI h 35 11 ≤ nI k) := c7
        refine r_aload_n (q20 (i := 6) rfl) l0 ?_
        refine r_getI (x := hI h 35 14) (q20 (i := 7) rfl) rfl (by decide) (k_35 S) (fun _ _ _ => rfl) rfl ?_
        refine r_if 61 (q20 (i := 8) rfl) (by decide) (fun _ => ?_) (fun zz => absurd (show ¬ hI h 35 14 = 0 from err_ne P) zz)
        exact r_vret (q20 (i := 35) rfl) rfl hQ
    | ok s =>
      have f0 := P.1.1
      have hcc := hu s rfl
      have e11 : hI h 35 11 = nI s.2.2.1.2.2 := P.2.2.1.2.1
      have hc8 := P.2.2.1.2.2
      obtain ⟨a1, a2, a3⟩ := P.2.2.1.1 k (by omega)
      obtain ⟨b1, b2⟩ := P.2.1 (s.2.2.1.1 k / 2) (by omega)
      by_cases g : 0 < s.2.2.1.1 k / 2 ∧ s.2.1 (s.2.2.1.1 k / 2) = 0
      · have e : (Except.ok s : pres).bind (Fnd (m + 1) k) = .error (5, s.2.2.1.2.1 k) := if_pos g
        rw [e]
        have F1 : FrX h (sI (sI h 35 14 5) 35 15 (nI (s.2.2.1.2.1 k))) := ((FrE.w (by decide) _).tr (FrE.w (by decide) _)).X
        have P1 := PS_err P (f := 5) (by decide) (s.2.2.1.2.1 k)
        have R1 := sp_failIf1 (d := d) S 5 (nI (s.2.2.1.2.1 k))
        rw [fail_ok P] at R1
        obtain ⟨h', P', F', hk⟩ := ih (k + 1) _ _ (by omega) (F1.S S) P1 (fun s' hs => by cases hs)
        refine ⟨h', P', F1.tr F', ?_⟩
        intro Q hQ bc bs ls l1 l0
        rw [g.2] at b1
        refine r_iload_n (q20 (i := 2) rfl) l1 ?_
        refine r_aload_n (q20 (i := 3) rfl) l0 ?_
        refine r_getI (x := nI s.2.2.1.2.2) (q20 (i := 4) rfl) rfl (by decide) (k_35 S) (fun _ _ _ => rfl) e11 ?_
        refine r_icmp 61 (q20 (i := 5) rfl) (by decide) (fun zz => absurd zz (show ¬ (nI s.2.2.1.2.2 ≤ nI k) from nI_ge (by omega) (by omega))) (fun _ => ?_)
        refine r_aload_n (q20 (i := 6) rfl) l0 ?_
        refine r_getI (x := hI h 35 14) (q20 (i := 7) rfl) rfl (by decide) (k_35 S) (fun _ _ _ => rfl) rfl ?_
        refine r_if 61 (q20 (i := 8) rfl) (by decide) (fun zz => absurd zz (show ¬ (¬ hI h 35 14 = 0) from fun y => y f0)) (fun _ => ?_)
        refine r_aload_n (q20 (i := 9) rfl) l0 ?_
        refine r_getR (b := 39) (q20 (i := 10) rfl) rfl (by decide) (k_35 S) (fun _ _ _ => rfl) (r_35_4 S) ?_
        refine r_iload_n (q20 (i := 11) rfl) l1 ?_
        refine r_iaN (x := nI (s.2.2.1.1 k)) (q20 (i := 12) rfl) (k_39 S) (by omega) (by decide) a1 ?_
        refine r_iconst (v := 1) (q20 (i := 13) rfl) (by decide) ?_
        refine r_ishr (q20 (i := 14) rfl) ?_
        rw [show ((nI (s.2.2.1.1 k)) >>> (1 &&& 31) : Int32) = nI (s.2.2.1.1 k / 2) from shr1 (by omega)]
        refine r_istore_n (ls' := lset1 ls 2 (.int (nI (s.2.2.1.1 k / 2)))) (q20 (i := 15) rfl) (Nat.le_of_ble_eq_true rfl) rfl ?_
        have l1 := lk1 (k := 2) (v := .int (nI (s.2.2.1.1 k / 2))) l1 (by decide) (Or.inl rfl)
        have l0 := lk1 (k := 2) (v := .int (nI (s.2.2.1.1 k / 2))) l0 (by decide) (Or.inr (by decide))
        have l2 := lk0 ls 2 (.int (nI (s.2.2.1.1 k / 2)))
        generalize lset1 ls 2 (.int (nI (s.2.2.1.1 k / 2))) = ls at l2 l1 l0 ⊢
        refine r_aload_n (q20 (i := 16) rfl) l0 ?_
        refine r_iload_n (q20 (i := 17) rfl) l2 ?_
        refine r_if 44 (q20 (i := 18) rfl) (by decide) (fun zz => absurd zz (show ¬ (nI (s.2.2.1.1 k / 2) ≤ 0) from nI_nle (by omega) (by omega))) (fun _ => ?_)
        refine r_aload_n (q20 (i := 19) rfl) l0 ?_
        refine r_getR (b := 38) (q20 (i := 20) rfl) rfl (by decide) (k_35 S) (fun _ _ _ => rfl) (r_35_3 S) ?_
        refine r_iload_n (q20 (i := 21) rfl) l2 ?_
        refine r_iaN (x := 0) (q20 (i := 22) rfl) (k_38 S) (by omega) (by decide) b1 ?_
        refine r_if 44 (q20 (i := 23) rfl) (by decide) (fun zz => absurd zz (show ¬ (¬ (0 : Int32) = 0) from by decide)) (fun _ => ?_)
        refine r_iconst (v := 1) (q20 (i := 24) rfl) (by decide) ?_
        refine r_goto 45 (q20 (i := 25) rfl) (by decide) ?_
        refine r_iconst (v := 5) (q20 (i := 27) rfl) (by decide) ?_
        refine r_aload_n (q20 (i := 28) rfl) l0 ?_
        refine r_getR (b := 40) (q20 (i := 29) rfl) rfl (by decide) (k_35 S) (fun _ _ _ => rfl) (r_35_5 S) ?_
        refine r_iload_n (q20 (i := 30) rfl) l1 ?_
        refine r_iaN (x := nI (s.2.2.1.2.1 k)) (q20 (i := 31) rfl) (k_40 S) (by omega) (by decide) a2 ?_
        refine r_cV (d := _) (q20 (i := 32) rfl) rfl rfl rfl (k_35 S) (Nat.le_of_ble_eq_true rfl) (Nat.zero_le _) (Nat.zero_le _) R1 ?_
        show Wp _ _ _ 55 ls [] (sI (sI h 35 14 5) 35 15 (nI (s.2.2.1.2.1 k))) _ _
        refine r_iinc (y := nI (k + 1)) (q20 (i := 33) rfl) (Nat.le_of_ble_eq_true rfl) l1 (nI_1 k) rfl ?_
        have l2 := lk1 (k := 1) (v := .int (nI (k + 1))) l2 (by decide) (Or.inr (by decide))
        have l0 := lk1 (k := 1) (v := .int (nI (k + 1))) l0 (by decide) (Or.inl rfl)
        have l1 := lk0 ls 1 (.int (nI (k + 1)))
        generalize lset1 ls 1 (.int (nI (k + 1))) = ls at l1 l2 l0 ⊢
        refine r_goto 2 (q20 (i := 34) rfl) (by decide) ?_
        exact hk Q hQ bc bs ls l1 l0
      · have e : (Except.ok s : pres).bind (Fnd (m + 1) k) = (Except.ok s : pres).bind (Fnd m (k + 1)) := if_neg g
        rw [e]
        obtain ⟨h', P', F', hk⟩ := ih (k + 1) _ h (by omega) S P (fun s' hs => by cases hs; omega)
        refine ⟨h', P', F', ?_⟩
        intro Q hQ bc bs ls l1 l0
        have R2 := sp_failIf0 (d := d + 1) (h := h) 5 (nI (s.2.2.1.2.1 k))
        by_cases g1 : 0 < s.2.2.1.1 k / 2
        · have g2 : s.2.1 (s.2.2.1.1 k / 2) ≠ 0 := fun y => g ⟨g1, y⟩
          refine r_iload_n (q20 (i := 2) rfl) l1 ?_
          refine r_aload_n (q20 (i := 3) rfl) l0 ?_
          refine r_getI (x := nI s.2.2.1.2.2) (q20 (i := 4) rfl) rfl (by decide) (k_35 S) (fun _ _ _ => rfl) e11 ?_
          refine r_icmp 61 (q20 (i := 5) rfl) (by decide) (fun zz => absurd zz (show ¬ (nI s.2.2.1.2.2 ≤ nI k) from nI_ge (by omega) (by omega))) (fun _ => ?_)
          refine r_aload_n (q20 (i := 6) rfl) l0 ?_
          refine r_getI (x := hI h 35 14) (q20 (i := 7) rfl) rfl (by decide) (k_35 S) (fun _ _ _ => rfl) rfl ?_
          refine r_if 61 (q20 (i := 8) rfl) (by decide) (fun zz => absurd zz (show ¬ (¬ hI h 35 14 = 0) from fun y => y f0)) (fun _ => ?_)
          refine r_aload_n (q20 (i := 9) rfl) l0 ?_
          refine r_getR (b := 39) (q20 (i := 10) rfl) rfl (by decide) (k_35 S) (fun _ _ _ => rfl) (r_35_4 S) ?_
          refine r_iload_n (q20 (i := 11) rfl) l1 ?_
          refine r_iaN (x := nI (s.2.2.1.1 k)) (q20 (i := 12) rfl) (k_39 S) (by omega) (by decide) a1 ?_
          refine r_iconst (v := 1) (q20 (i := 13) rfl) (by decide) ?_
          refine r_ishr (q20 (i := 14) rfl) ?_
          rw [show ((nI (s.2.2.1.1 k)) >>> (1 &&& 31) : Int32) = nI (s.2.2.1.1 k / 2) from shr1 (by omega)]
          refine r_istore_n (ls' := lset1 ls 2 (.int (nI (s.2.2.1.1 k / 2)))) (q20 (i := 15) rfl) (Nat.le_of_ble_eq_true rfl) rfl ?_
          have l1 := lk1 (k := 2) (v := .int (nI (s.2.2.1.1 k / 2))) l1 (by decide) (Or.inl rfl)
          have l0 := lk1 (k := 2) (v := .int (nI (s.2.2.1.1 k / 2))) l0 (by decide) (Or.inr (by decide))
          have l2 := lk0 ls 2 (.int (nI (s.2.2.1.1 k / 2)))
          generalize lset1 ls 2 (.int (nI (s.2.2.1.1 k / 2))) = ls at l2 l1 l0 ⊢
          refine r_aload_n (q20 (i := 16) rfl) l0 ?_
          refine r_iload_n (q20 (i := 17) rfl) l2 ?_
          refine r_if 44 (q20 (i := 18) rfl) (by decide) (fun zz => absurd zz (show ¬ (nI (s.2.2.1.1 k / 2) ≤ 0) from nI_nle (by omega) (by omega))) (fun _ => ?_)
          refine r_aload_n (q20 (i := 19) rfl) l0 ?_
          refine r_getR (b := 38) (q20 (i := 20) rfl) rfl (by decide) (k_35 S) (fun _ _ _ => rfl) (r_35_3 S) ?_
          refine r_iload_n (q20 (i := 21) rfl) l2 ?_
          refine r_iaN (x := nI (s.2.1 (s.2.2.1.1 k / 2))) (q20 (i := 22) rfl) (k_38 S) (by omega) (by decide) b1 ?_
          refine r_if 44 (q20 (i := 23) rfl) (by decide) (fun _ => ?_) (fun zz => absurd (show ¬ nI (s.2.1 (s.2.2.1.1 k / 2)) = 0 from nI_ne0 (by omega) (by omega)) zz)
          refine r_iconst (v := 0) (q20 (i := 26) rfl) (by decide) ?_
          refine r_iconst (v := 5) (q20 (i := 27) rfl) (by decide) ?_
          refine r_aload_n (q20 (i := 28) rfl) l0 ?_
          refine r_getR (b := 40) (q20 (i := 29) rfl) rfl (by decide) (k_35 S) (fun _ _ _ => rfl) (r_35_5 S) ?_
          refine r_iload_n (q20 (i := 30) rfl) l1 ?_
          refine r_iaN (x := nI (s.2.2.1.2.1 k)) (q20 (i := 31) rfl) (k_40 S) (by omega) (by decide) a2 ?_
          refine r_cV (d := _) (q20 (i := 32) rfl) rfl rfl rfl (k_35 S) (Nat.le_of_ble_eq_true rfl) (Nat.zero_le _) (Nat.zero_le _) R2 ?_
          show Wp _ _ _ 55 ls [] h _ _
          refine r_iinc (y := nI (k + 1)) (q20 (i := 33) rfl) (Nat.le_of_ble_eq_true rfl) l1 (nI_1 k) rfl ?_
          have l2 := lk1 (k := 1) (v := .int (nI (k + 1))) l2 (by decide) (Or.inr (by decide))
          have l0 := lk1 (k := 1) (v := .int (nI (k + 1))) l0 (by decide) (Or.inl rfl)
          have l1 := lk0 ls 1 (.int (nI (k + 1)))
          generalize lset1 ls 1 (.int (nI (k + 1))) = ls at l1 l2 l0 ⊢
          refine r_goto 2 (q20 (i := 34) rfl) (by decide) ?_
          exact hk Q hQ bc bs ls l1 l0
        · have g2 : s.2.2.1.1 k / 2 = 0 := by omega
          refine r_iload_n (q20 (i := 2) rfl) l1 ?_
          refine r_aload_n (q20 (i := 3) rfl) l0 ?_
          refine r_getI (x := nI s.2.2.1.2.2) (q20 (i := 4) rfl) rfl (by decide) (k_35 S) (fun _ _ _ => rfl) e11 ?_
          refine r_icmp 61 (q20 (i := 5) rfl) (by decide) (fun zz => absurd zz (show ¬ (nI s.2.2.1.2.2 ≤ nI k) from nI_ge (by omega) (by omega))) (fun _ => ?_)
          refine r_aload_n (q20 (i := 6) rfl) l0 ?_
          refine r_getI (x := hI h 35 14) (q20 (i := 7) rfl) rfl (by decide) (k_35 S) (fun _ _ _ => rfl) rfl ?_
          refine r_if 61 (q20 (i := 8) rfl) (by decide) (fun zz => absurd zz (show ¬ (¬ hI h 35 14 = 0) from fun y => y f0)) (fun _ => ?_)
          refine r_aload_n (q20 (i := 9) rfl) l0 ?_
          refine r_getR (b := 39) (q20 (i := 10) rfl) rfl (by decide) (k_35 S) (fun _ _ _ => rfl) (r_35_4 S) ?_
          refine r_iload_n (q20 (i := 11) rfl) l1 ?_
          refine r_iaN (x := nI (s.2.2.1.1 k)) (q20 (i := 12) rfl) (k_39 S) (by omega) (by decide) a1 ?_
          refine r_iconst (v := 1) (q20 (i := 13) rfl) (by decide) ?_
          refine r_ishr (q20 (i := 14) rfl) ?_
          rw [show ((nI (s.2.2.1.1 k)) >>> (1 &&& 31) : Int32) = nI (s.2.2.1.1 k / 2) from shr1 (by omega)]
          refine r_istore_n (ls' := lset1 ls 2 (.int (nI (s.2.2.1.1 k / 2)))) (q20 (i := 15) rfl) (Nat.le_of_ble_eq_true rfl) rfl ?_
          have l1 := lk1 (k := 2) (v := .int (nI (s.2.2.1.1 k / 2))) l1 (by decide) (Or.inl rfl)
          have l0 := lk1 (k := 2) (v := .int (nI (s.2.2.1.1 k / 2))) l0 (by decide) (Or.inr (by decide))
          have l2 := lk0 ls 2 (.int (nI (s.2.2.1.1 k / 2)))
          generalize lset1 ls 2 (.int (nI (s.2.2.1.1 k / 2))) = ls at l2 l1 l0 ⊢
          refine r_aload_n (q20 (i := 16) rfl) l0 ?_
          refine r_iload_n (q20 (i := 17) rfl) l2 ?_
          refine r_if 44 (q20 (i := 18) rfl) (by decide) (fun _ => ?_) (fun zz => absurd (show nI (s.2.2.1.1 k / 2) ≤ 0 from Int32.le_of_eq (congrArg nI g2)) zz)
          refine r_iconst (v := 0) (q20 (i := 26) rfl) (by decide) ?_
          refine r_iconst (v := 5) (q20 (i := 27) rfl) (by decide) ?_
          refine r_aload_n (q20 (i := 28) rfl) l0 ?_
          refine r_getR (b := 40) (q20 (i := 29) rfl) rfl (by decide) (k_35 S) (fun _ _ _ => rfl) (r_35_5 S) ?_
          refine r_iload_n (q20 (i := 30) rfl) l1 ?_
          refine r_iaN (x := nI (s.2.2.1.2.1 k)) (q20 (i := 31) rfl) (k_40 S) (by omega) (by decide) a2 ?_
          refine r_cV (d := _) (q20 (i := 32) rfl) rfl rfl rfl (k_35 S) (Nat.le_of_ble_eq_true rfl) (Nat.zero_le _) (Nat.zero_le _) R2 ?_
          show Wp _ _ _ 55 ls [] h _ _
          refine r_iinc (y := nI (k + 1)) (q20 (i := 33) rfl) (Nat.le_of_ble_eq_true rfl) l1 (nI_1 k) rfl ?_
          have l2 := lk1 (k := 1) (v := .int (nI (k + 1))) l2 (by decide) (Or.inr (by decide))
          have l0 := lk1 (k := 1) (v := .int (nI (k + 1))) l0 (by decide) (Or.inl rfl)
          have l1 := lk0 ls 1 (.int (nI (k + 1)))
          generalize lset1 ls 1 (.int (nI (k + 1))) = ls at l1 l2 l0 ⊢
          refine r_goto 2 (q20 (i := 34) rfl) (by decide) ?_
          exact hk Q hQ bc bs ls l1 l0
