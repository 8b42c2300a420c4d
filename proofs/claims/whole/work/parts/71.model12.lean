theorem Fuse_g {B : Nat → Int32} {z H : Nat} {s : pst} (g : dg B z s.1 = true) : Fuse B z H s = if H < (numP B z s.1).1 then .error (4, s.1) else .ok ((numP B z s.1).2, s.2.1, (u1 s.2.2.1.1 s.2.2.1.2.2 (numP B z s.1).1, u1 s.2.2.1.2.1 s.2.2.1.2.2 s.1, s.2.2.1.2.2 + 1), s.2.2.2.1 || decide ((numP B z s.1).1 < 2), s.2.2.2.2) := by
  unfold Fuse
  rw [if_pos g]
theorem OMs_us {h h' : hp} {k u v p : Nat} {s s' : pst} (A : OMs h k s) (hu : k ≤ u) (e : hI h' 1321 = hI h 1321) (e' : ∀ i, i < k → hI h' 1322 i = hI h 1322 i) (e1 : s'.2.2.1.1 = u1 s.2.2.1.1 u v) (e2 : s'.2.2.1.2.1 = u1 s.2.2.1.2.1 u p) : OMs h' k s' := fun i hi => by
  rw [e, e' i hi, e1, e2, u1_n (by omega), u1_n (by omega)]
  exact A i hi
theorem AMs_us {h h' : hp} {n O k u v p : Nat} {s s' : pst} (A : AMs h n O k s) (hu : O + 2 * k ≤ u) (e : ∀ i, i < k → hI h' (1080 + i) = hI h (1080 + i) ∧ hI h' (1201 + i) = hI h (1201 + i)) (e0 : s'.2.1 = s.2.1) (e1 : s'.2.2.1.1 = u1 s.2.2.1.1 u v) (e2 : s'.2.2.1.2.1 = u1 s.2.2.1.2.1 u p) (e3 : s'.2.2.2.2.1 = s.2.2.2.2.1) : AMs h' n O k s' := fun i hi => by
  obtain ⟨a, b, c⟩ := A i hi
  rw [(e i hi).1, (e i hi).2, e0, e3]
  refine ⟨a, b, fun j hj => ?_⟩
  rw [e1, e2, u1_n (by omega), u1_n (by omega)]
  exact c j hj
set_option maxHeartbeats 2000000 in
set_option maxRecDepth 10000 in
theorem lo_use {d : Nat} {B : Nat → Int32} {z n M O i : Nat} (hO : O ≤ 10) (hi : i < O) {h : hp} {s : pst} (hO3 : hI h 1075 3 = nI O) (L : LSt h B z n M O i 0 s) (hu : s.2.2.1.2.2 = i) : LRes (Fuse B z (2 * M + 1) s) h (fun h1 s1 => LSt h1 B z n M O i 0 s1 ∧ (s1.2.2.1.2.2 = i + 1 ∧ s1.2.2.2.2 = s.2.2.2.2) ∧ (hI h1 47 29 = nI (s1.2.2.1.1 i) ∧ hI h1 1322 i = nI (s1.2.2.1.2.1 i) ∧ s1.2.2.1.1 i ≤ 2001 ∧ s1.2.2.1.2.1 i ≤ 3000)) (fun Q bc bs => ∀ ls : List (Nat × Value), ls.lookup 1 = some (.int (nI i)) → ls.lookup 0 = some (.ref 47) → Wp (Ex (d + 2)) 122 Q 75 ls [] h bc bs) (fun h Q bc bs => ∀ ls : List (Nat × Value), ls.lookup 1 = some (.int (nI i)) → ls.lookup 0 = some (.ref 47) → Wp (Ex (d + 2)) 122 Q 115 ls [] h bc bs) := by
  have S := L.1.1
  have hz := L.1.2.1.2.2.1
  have ha := L.2.1.2.2
  have F1 : FrLn h (sI h 1322 i (nI s.1)) := FrLn.w (by decide) _ _
  have T1 : TM (sI h 1322 i (nI s.1)) B z := L.1.2.1
  obtain ⟨h2, Rn, st, F2⟩ := sp_mnum (d := d) (h := sI h 1322 i (nI s.1)) (S.to rfl) T1 (t := none) L.2.1.1 (a := s.1) L.2.1.2.1 L.2.1.2.2
  have S2 : Sh h2 := F2.S (S.to rfl)
  have F12 := F1.tr F2.L
  have e22 : hI h2 1322 i = nI s.1 := by
    rw [F2.2.1 1322 (by decide)]
    show u1 (hI h 1322) i (nI s.1) i = _
    rw [u1_s]
  by_cases g : dg B z s.1 = true
  · rw [if_pos g] at Rn st
    obtain ⟨eb, ev, f2⟩ := st
    obtain ⟨n1, n2, n3⟩ := numP_le B z ha
    obtain ⟨v, ew⟩ : ∃ v, v = (numP B z s.1).1 := ⟨_, rfl⟩
    rw [Fuse_g g, ← ew]
    rw [← ew] at ev n3
    have hM : hI h2 1075 0 = nI M := by rw [F2.2.1 1075 (by decide)]; exact L.1.2.2.1
    obtain ⟨P1, P2⟩ := sp_uses (d := d) S2 f2 ev n3 hM L.1.2.2.2 (p := s.1) (by omega)
    by_cases b : 2 * M + 1 < v
    · rw [if_pos b]
      obtain ⟨h3, R1, f3, F3⟩ := P1 b
      refine ⟨h3, ⟨f3, F3.S S2⟩, F12.tr F3.L, fun Q bc bs hQ ls l1 l0 => ?_⟩
      refine r_iload_n (q122 (i := 42) rfl) l1 ?_
      refine r_aload_n (q122 (i := 43) rfl) l0 ?_
      refine r_getR (b := 1075) (q122 (i := 44) rfl) rfl (by decide) (k_47 S) (fun _ _ _ => rfl) (r_47_30 S) ?_
      refine r_iconst (v := 3) (q122 (i := 45) rfl) (by decide) ?_
      refine r_iaload (x := nI O) (q122 (i := 46) rfl) (k_1075 S) (vp_in_nI (n := 3) (by decide) (by decide)) hO3 ?_
      refine r_icmp 142 (q122 (i := 47) rfl) (by decide) (fun zz => absurd zz (show ¬ (nI O ≤ nI i) from nI_ge hi (by omega))) (fun _ => ?_)
      refine r_aload_n (q122 (i := 48) rfl) l0 ?_
      refine r_getR (b := 1322) (q122 (i := 49) rfl) rfl (by decide) (k_47 S) (fun _ _ _ => rfl) (r_47_37 S) ?_
      refine r_iload_n (q122 (i := 50) rfl) l1 ?_
      refine r_aload_n (q122 (i := 51) rfl) l0 ?_
      refine r_getI (x := nI s.1) (q122 (i := 52) rfl) rfl (by decide) (k_47 S) (fun _ _ _ => rfl) L.2.1.2.1 ?_
      refine r_iasN (q122 (i := 53) rfl) (k_1322 S) (by omega) (by decide) ?_
      refine r_aload_n (q122 (i := 54) rfl) l0 ?_
      refine r_cV (d := _) (q122 (i := 55) rfl) rfl rfl rfl (k_47 S) (Nat.le_of_ble_eq_true rfl) (Nat.zero_le _) (Nat.zero_le _) Rn ?_
      show Wp _ _ _ 99 ls [.int 1] h2 _ _
      refine r_if 124 (q122 (i := 56) rfl) (by decide) (fun zz => absurd zz (show ¬ ((1 : Int32) = 0) from by decide)) (fun _ => ?_)
      refine r_aload_n (q122 (i := 57) rfl) l0 ?_
      refine r_aload_n (q122 (i := 58) rfl) l0 ?_
      refine r_getR (b := 1322) (q122 (i := 59) rfl) rfl (by decide) (k_47 S2) (fun _ _ _ => rfl) (r_47_37 S2) ?_
      refine r_iload_n (q122 (i := 60) rfl) l1 ?_
      refine r_iaN (x := nI s.1) (q122 (i := 61) rfl) (k_1322 S2) (by omega) (by decide) e22 ?_
      refine r_cV (d := _) (q122 (i := 62) rfl) rfl rfl rfl (k_47 S2) (Nat.le_of_ble_eq_true rfl) (Nat.zero_le _) (Nat.zero_le _) R1 ?_
      show Wp _ _ _ 112 ls [.int 0] h3 _ _
      refine r_if 124 (q122 (i := 63) rfl) (by decide) (fun _ => ?_) (fun zz => absurd (show (0 : Int32) = 0 from by decide) zz)
      refine r_iconst (v := 0) (q122 (i := 68) rfl) (by decide) ?_
      exact r_zret (q122 (i := 69) rfl) rfl (by decide) hQ
    · rw [if_neg b]
      have R1 := P2 b
      have hM1 := L.1.2.2.2
      refine ⟨h2, ⟨⟨⟨S2, F2.T T1, hM, hM1⟩, ⟨f2, eb, n2⟩, ?_, ?_, fun i hi => absurd hi (Nat.not_lt_zero i)⟩, ⟨by show s.2.2.1.2.2 + 1 = _; rw [hu], rfl⟩, ⟨?_, ?_, ?_, ?_⟩⟩, F12, fun Q bc bs kk ls l1 l0 => ?_⟩
      · intro w hw
        rw [F2.2.1 1077 (by decide), F2.2.1 1078 (by decide)]; exact L.2.2.1 w hw
      · exact OMs_us (u := i) L.2.2.2.1 (Nat.le_refl _) (by rw [F2.2.1 1321 (by decide)]; rfl) (fun j hj => by
          rw [F2.2.1 1322 (by decide)]
          show u1 (hI h 1322) i _ j = _
          rw [u1_n (by omega)]) (by show u1 s.2.2.1.1 s.2.2.1.2.2 v = _; rw [hu]) (by show u1 s.2.2.1.2.1 s.2.2.1.2.2 s.1 = _; rw [hu])
      · show hI h2 47 29 = nI (u1 s.2.2.1.1 s.2.2.1.2.2 v i)
        rw [hu, u1_s]; exact ev
      · show hI h2 1322 i = nI (u1 s.2.2.1.2.1 s.2.2.1.2.2 s.1 i)
        rw [hu, u1_s]; exact e22
      · show u1 s.2.2.1.1 s.2.2.1.2.2 v i ≤ 2001
        rw [hu, u1_s]; omega
      · show u1 s.2.2.1.2.1 s.2.2.1.2.2 s.1 i ≤ 3000
        rw [hu, u1_s]; omega
      refine r_iload_n (q122 (i := 42) rfl) l1 ?_
      refine r_aload_n (q122 (i := 43) rfl) l0 ?_
      refine r_getR (b := 1075) (q122 (i := 44) rfl) rfl (by decide) (k_47 S) (fun _ _ _ => rfl) (r_47_30 S) ?_
      refine r_iconst (v := 3) (q122 (i := 45) rfl) (by decide) ?_
      refine r_iaload (x := nI O) (q122 (i := 46) rfl) (k_1075 S) (vp_in_nI (n := 3) (by decide) (by decide)) hO3 ?_
      refine r_icmp 142 (q122 (i := 47) rfl) (by decide) (fun zz => absurd zz (show ¬ (nI O ≤ nI i) from nI_ge hi (by omega))) (fun _ => ?_)
      refine r_aload_n (q122 (i := 48) rfl) l0 ?_
      refine r_getR (b := 1322) (q122 (i := 49) rfl) rfl (by decide) (k_47 S) (fun _ _ _ => rfl) (r_47_37 S) ?_
      refine r_iload_n (q122 (i := 50) rfl) l1 ?_
      refine r_aload_n (q122 (i := 51) rfl) l0 ?_
      refine r_getI (x := nI s.1) (q122 (i := 52) rfl) rfl (by decide) (k_47 S) (fun _ _ _ => rfl) L.2.1.2.1 ?_
      refine r_iasN (q122 (i := 53) rfl) (k_1322 S) (by omega) (by decide) ?_
      refine r_aload_n (q122 (i := 54) rfl) l0 ?_
      refine r_cV (d := _) (q122 (i := 55) rfl) rfl rfl rfl (k_47 S) (Nat.le_of_ble_eq_true rfl) (Nat.zero_le _) (Nat.zero_le _) Rn ?_
      show Wp _ _ _ 99 ls [.int 1] h2 _ _
      refine r_if 124 (q122 (i := 56) rfl) (by decide) (fun zz => absurd zz (show ¬ ((1 : Int32) = 0) from by decide)) (fun _ => ?_)
      refine r_aload_n (q122 (i := 57) rfl) l0 ?_
      refine r_aload_n (q122 (i := 58) rfl) l0 ?_
      refine r_getR (b := 1322) (q122 (i := 59) rfl) rfl (by decide) (k_47 S2) (fun _ _ _ => rfl) (r_47_37 S2) ?_
      refine r_iload_n (q122 (i := 60) rfl) l1 ?_
      refine r_iaN (x := nI s.1) (q122 (i := 61) rfl) (k_1322 S2) (by omega) (by decide) e22 ?_
      refine r_cV (d := _) (q122 (i := 62) rfl) rfl rfl rfl (k_47 S2) (Nat.le_of_ble_eq_true rfl) (Nat.zero_le _) (Nat.zero_le _) R1 ?_
      show Wp _ _ _ 112 ls [.int 1] h2 _ _
      refine r_if 124 (q122 (i := 63) rfl) (by decide) (fun zz => absurd zz (show ¬ ((1 : Int32) = 0) from by decide)) (fun _ => ?_)
      exact kk ls l1 l0
  · rw [if_neg g] at Rn st
    unfold Fuse
    rw [if_neg g]
    refine ⟨h2, ⟨st.2.2, S2⟩, F12, fun Q bc bs hQ ls l1 l0 => ?_⟩
    refine r_iload_n (q122 (i := 42) rfl) l1 ?_
    refine r_aload_n (q122 (i := 43) rfl) l0 ?_
    refine r_getR (b := 1075) (q122 (i := 44) rfl) rfl (by decide) (k_47 S) (fun _ _ _ => rfl) (r_47_30 S) ?_
    refine r_iconst (v := 3) (q122 (i := 45) rfl) (by decide) ?_
    refine r_iaload (x := nI O) (q122 (i := 46) rfl) (k_1075 S) (vp_in_nI (n := 3) (by decide) (by decide)) hO3 ?_
    refine r_icmp 142 (q122 (i := 47) rfl) (by decide) (fun zz => absurd zz (show ¬ (nI O ≤ nI i) from nI_ge hi (by omega))) (fun _ => ?_)
    refine r_aload_n (q122 (i := 48) rfl) l0 ?_
    refine r_getR (b := 1322) (q122 (i := 49) rfl) rfl (by decide) (k_47 S) (fun _ _ _ => rfl) (r_47_37 S) ?_
    refine r_iload_n (q122 (i := 50) rfl) l1 ?_
    refine r_aload_n (q122 (i := 51) rfl) l0 ?_
    refine r_getI (x := nI s.1) (q122 (i := 52) rfl) rfl (by decide) (k_47 S) (fun _ _ _ => rfl) L.2.1.2.1 ?_
    refine r_iasN (q122 (i := 53) rfl) (k_1322 S) (by omega) (by decide) ?_
    refine r_aload_n (q122 (i := 54) rfl) l0 ?_
    refine r_cV (d := _) (q122 (i := 55) rfl) rfl rfl rfl (k_47 S) (Nat.le_of_ble_eq_true rfl) (Nat.zero_le _) (Nat.zero_le _) Rn ?_
    show Wp _ _ _ 99 ls [.int 0] h2 _ _
    refine r_if 124 (q122 (i := 56) rfl) (by decide) (fun _ => ?_) (fun zz => absurd (show (0 : Int32) = 0 from by decide) zz)
    refine r_iconst (v := 0) (q122 (i := 68) rfl) (by decide) ?_
    exact r_zret (q122 (i := 69) rfl) rfl (by decide) hQ
set_option maxHeartbeats 2000000 in
set_option maxRecDepth 10000 in
theorem lp_lo {d : Nat} {B : Nat → Int32} {z n M O : Nat} (hO : O ≤ 10) : ∀ (m i : Nat) (s : pst) (h : hp), i + m = O → hI h 1075 3 = nI O → LSt h B z n M O i 0 s → s.2.2.1.2.2 = i → LRes (Fouts B z (2 * M + 1) m s) h (fun h1 s1 => LSt h1 B z n M O O 0 s1 ∧ s1.2.2.1.2.2 = O ∧ s1.2.2.2.2 = s.2.2.2.2) (fun Q bc bs => ∀ ls : List (Nat × Value), ls.lookup 1 = some (.int (nI i)) → ls.lookup 0 = some (.ref 47) → Wp (Ex (d + 2)) 122 Q 75 ls [] h bc bs) (fun h Q bc bs => ∀ ls : List (Nat × Value), ls.lookup 0 = some (.ref 47) → Wp (Ex (d + 2)) 122 Q 142 ls [] h bc bs) := by
  intro m
  induction m with
  | zero =>
    intro i s h hm hO3 L hu
    have e : i = O := by omega
    subst e
    have S := L.1.1
    refine ⟨h, ⟨L, hu, rfl⟩, FrLn.rf h, fun Q bc bs kk ls l1 l0 => ?_⟩
    refine r_iload_n (q122 (i := 42) rfl) l1 ?_
    refine r_aload_n (q122 (i := 43) rfl) l0 ?_
    refine r_getR (b := 1075) (q122 (i := 44) rfl) rfl (by decide) (k_47 S) (fun _ _ _ => rfl) (r_47_30 S) ?_
    refine r_iconst (v := 3) (q122 (i := 45) rfl) (by decide) ?_
    refine r_iaload (x := nI i) (q122 (i := 46) rfl) (k_1075 S) (vp_in_nI (n := 3) (by decide) (by decide)) hO3 ?_
    refine r_icmp 142 (q122 (i := 47) rfl) (by decide) (fun _ => ?_) (fun zz => absurd (show nI i ≤ nI i from Int32.le_refl _) zz)
    exact kk ls l0
  | succ m ih =>
    intro i s h hm hO3 L hu
    refine LRes.bind (OK1 := fun h1 s1 => LSt h1 B z n M O i 0 s1 ∧ (s1.2.2.1.2.2 = i + 1 ∧ s1.2.2.2.2 = s.2.2.2.2) ∧ (hI h1 47 29 = nI (s1.2.2.1.1 i) ∧ hI h1 1322 i = nI (s1.2.2.1.2.1 i) ∧ s1.2.2.1.1 i ≤ 2001 ∧ s1.2.2.1.2.1 i ≤ 3000) ∧ hI h1 1075 3 = nI O) (mid := fun h Q bc bs => ∀ ls : List (Nat × Value), ls.lookup 1 = some (.int (nI i)) → ls.lookup 0 = some (.ref 47) → Wp (Ex (d + 2)) 122 Q 126 ls [] h bc bs) (LRes.bind (OK1 := fun h1 s1 => (LSt h1 B z n M O i 0 s1 ∧ (s1.2.2.1.2.2 = i + 1 ∧ s1.2.2.2.2 = s.2.2.2.2) ∧ (hI h1 47 29 = nI (s1.2.2.1.1 i) ∧ hI h1 1322 i = nI (s1.2.2.1.2.1 i) ∧ s1.2.2.1.1 i ≤ 2001 ∧ s1.2.2.1.2.1 i ≤ 3000)) ∧ hI h1 1075 3 = nI O) (LR_and (lo_use hO (by omega) hO3 L hu) (fun h1 F => by rw [F.2.1 1075 (by decide) (by decide)]; exact hO3)) (fun s1 h1 o => LR_ok (li_is2 (i := i) o.1.1 (X := fun h2 => (hI h2 47 29 = nI (s1.2.2.1.1 i) ∧ hI h2 1322 i = nI (s1.2.2.1.2.1 i)) ∧ hI h2 1075 3 = nI O) (fun h' F e29 => ⟨⟨e29.trans o.1.2.2.1, by rw [F.2.1 1322 (by decide)]; exact o.1.2.2.2.1⟩, by rw [F.2.1 1075 (by decide)]; exact o.2⟩)) (fun h2 s2 o2 => by
      obtain ⟨p1, p2, p3⟩ := o2
      rw [p3]
      exact ⟨p1, o.1.2.1, ⟨p2.1.1, p2.1.2, o.1.2.2.2.2⟩, p2.2⟩))) (fun s1 h1 o => ?_)
    have S := o.1.1.1
    have o3 := o.2.2.1
    have L3 : LSt (sI h1 1321 i (nI (s1.2.2.1.1 i))) B z n M O (i + 1) 0 s1 := ⟨⟨S.to rfl, o.1.1.2⟩, o.1.2.1, o.1.2.2.1, fun j hj => by
      show u1 (hI h1 1321) i _ j = _ ∧ hI h1 1322 j = _ ∧ _
      by_cases e : j = i
      · rw [e, u1_s]; exact ⟨rfl, o3.2⟩
      · rw [u1_n e]; exact o.1.2.2.2.1 j (by omega), fun j hj => absurd hj (Nat.not_lt_zero j)⟩
    have R := ih (i + 1) s1 (sI h1 1321 i (nI (s1.2.2.1.1 i))) (by omega) o.2.2.2 L3 o.2.1.1
    rw [o.2.1.2] at R
    refine LRes.pre (FrLn.w (a := 1321) (by decide) i (nI (s1.2.2.1.1 i))) (LRes.en R (fun Q bc bs y ls l1 l0 => ?_))
    refine r_aload_n (q122 (i := 70) rfl) l0 ?_
    refine r_getR (b := 1321) (q122 (i := 71) rfl) rfl (by decide) (k_47 S) (fun _ _ _ => rfl) (r_47_36 S) ?_
    refine r_iload_n (q122 (i := 72) rfl) l1 ?_
    refine r_aload_n (q122 (i := 73) rfl) l0 ?_
    refine r_getI (x := nI (s1.2.2.1.1 i)) (q122 (i := 74) rfl) rfl (by decide) (k_47 S) (fun _ _ _ => rfl) o.2.2.1.1 ?_
    refine r_iasN (q122 (i := 75) rfl) (k_1321 S) (by omega) (by decide) ?_
    refine r_iinc (y := nI (i + 1)) (q122 (i := 76) rfl) (Nat.le_of_ble_eq_true rfl) l1 (nI_1 i) rfl ?_
    have l0 := lk1 (k := 1) (v := .int (nI (i + 1))) l0 (by decide) (Or.inl rfl)
    have l1 := lk0 ls 1 (.int (nI (i + 1)))
    generalize lset1 ls 1 (.int (nI (i + 1))) = ls at l1 l0 ⊢
    refine r_goto 75 (q122 (i := 77) rfl) (by decide) ?_
    exact y ls l1 l0
def R0 (h : hp) (i : Nat) (s : pst) : Prop := hI h (1201 + i) 0 = nI (s.2.2.2.2.1 i) ∧ s.2.2.2.2.1 i ≤ 3000
def RU (h : hp) (O i j : Nat) (s : pst) : Prop := hI h (1080 + i) (1 + j) = nI (s.2.2.1.1 (O + 2 * i + j)) ∧ hI h (1201 + i) (1 + j) = nI (s.2.2.1.2.1 (O + 2 * i + j)) ∧ s.2.2.1.1 (O + 2 * i + j) ≤ 2001 ∧ s.2.2.1.2.1 (O + 2 * i + j) ≤ 3000
/-- a use that isn't noted in full yet -/
def RV (h : hp) (O i j : Nat) (s : pst) : Prop := hI h 47 29 = nI (s.2.2.1.1 (O + 2 * i + j)) ∧ hI h (1201 + i) (1 + j) = nI (s.2.2.1.2.1 (O + 2 * i + j)) ∧ s.2.2.1.1 (O + 2 * i + j) ≤ 2001 ∧ s.2.2.1.2.1 (O + 2 * i + j) ≤ 3000
def RD (h : hp) (n i : Nat) (s : pst) : Prop := ∃ v, 0 < v ∧ v < 1001 ∧ hI h (1080 + i) 0 = nI (2 * v) ∧ s.2.1 v = n + 1 + i
def RE (h : hp) (n i : Nat) (s : pst) : Prop := ∃ v, 0 < v ∧ v < 1001 ∧ hI h 47 29 = nI (2 * v) ∧ s.2.1 v = n + 1 + i
theorem R0.to {h h' : hp} {i : Nat} {s s' : pst} (r : R0 h i s) (e : hI h' (1201 + i) 0 = hI h (1201 + i) 0) (e3 : s'.2.2.2.2 = s.2.2.2.2) : R0 h' i s' := by unfold R0; rw [e, e3]; exact r
theorem RD.to {h h' : hp} {n i : Nat} {s s' : pst} (r : RD h n i s) (e : hI h' (1080 + i) 0 = hI h (1080 + i) 0) (e3 : s'.2.1 = s.2.1) : RD h' n i s' := by
  obtain ⟨v, a, b, c, d⟩ := r
  exact ⟨v, a, b, by rw [e]; exact c, by rw [e3]; exact d⟩
theorem FrT2.A {h h' : hp} (F : FrT2 h h') (i : Nat) : hI h' (1080 + i) = hI h (1080 + i) ∧ hI h' (1201 + i) = hI h (1201 + i) := ⟨F.2.1 _ (by omega), F.2.1 _ (by omega)⟩
set_option maxHeartbeats 2000000 in
set_option maxRecDepth 10000 in
theorem la_def {d : Nat} {B : Nat → Int32} {z n M O N i : Nat} (hn : n ≤ 12) (hN : N ≤ 119) (hi : i < N) {h : hp} {s : pst} (hN4 : hI h 1075 4 = nI N) (L : LSt h B z n M O O i s) (hu : s.2.2.1.2.2 = O + 2 * i) (hc : s.2.2.2.2.2 = i) : LRes (Fdef B z (2 * M + 1) (n + 1 + s.2.2.2.2.2) (Fap s)) h (fun h1 s1 => LSt h1 B z n M O O i s1 ∧ (s1.2.2.1.2.2 = O + 2 * i ∧ s1.2.2.2.2.2 = i + 1) ∧ R0 h1 i s1 ∧ RE h1 n i s1) (fun Q bc bs => ∀ ls : List (Nat × Value), ls.lookup 1 = some (.int (nI i)) → ls.lookup 0 = some (.ref 47) → Wp (Ex (d + 2)) 122 Q 144 ls [] h bc bs) (fun h Q bc bs => ∀ ls : List (Nat × Value), ls.lookup 2 = some (.int 0) → ls.lookup 1 = some (.int (nI i)) → ls.lookup 0 = some (.ref 47) → Wp (Ex (d + 2)) 122 Q 216 ls [] h bc bs) := by
  have S := L.1.1
  have hz := L.1.2.1.2.2.1
  have ha := L.2.1.2.2
  have F1 : FrLn h (sI h (1201 + i) 0 (nI s.1)) := FrLn.w (by omega) _ _
  have T1 : TM (sI h (1201 + i) 0 (nI s.1)) B z := ⟨by
    show u2 h.1 (1201 + i) _ _ 1074 = _
    rw [u2_n (by omega)]; exact L.1.2.1.1, by
    show u2 h.1 (1201 + i) _ _ 47 25 = _
    rw [u2_n (by omega)]; exact L.1.2.1.2.1, L.1.2.1.2.2⟩
  have e28 : FTM (sI h (1201 + i) 0 (nI s.1)) none := by
    show u2 h.1 (1201 + i) _ _ 47 28 = _ ∧ u2 h.1 (1201 + i) _ _ 47 26 = _
    rw [u2_n (by omega)]; exact L.2.1.1
  have e27 : hI (sI h (1201 + i) 0 (nI s.1)) 47 27 = nI s.1 := by
    show u2 h.1 (1201 + i) _ _ 47 27 = _
    rw [u2_n (by omega)]; exact L.2.1.2.1
  have ik : ∀ k, k ≠ 1201 + i → hI (sI h (1201 + i) 0 (nI s.1)) k = hI h k := fun k hk => by
    show u2 h.1 (1201 + i) _ _ k = _
    rw [u2_n hk]
  obtain ⟨h2, Rn, st, F2⟩ := sp_mnum (d := d) (h := sI h (1201 + i) 0 (nI s.1)) (S.to rfl) T1 (t := none) e28 (a := s.1) e27 L.2.1.2.2
  have S2 : Sh h2 := F2.S (S.to rfl)
  have F12 := F1.tr F2.L
  have i2 : ∀ k, k ≠ 47 → k ≠ 1201 + i → hI h2 k = hI h k := fun k a b => (F2.2.1 k a).trans (ik k b)
  have eA : hI h2 (1201 + i) 0 = nI s.1 := by
    rw [F2.2.1 (1201 + i) (by omega)]
    show u2 h.1 (1201 + i) 0 (nI s.1) (1201 + i) 0 = _
    rw [u2_s, u1_s]
  have R0 := sp_at0 (d := d + 1) S2 (k := i) (by omega)
  rw [eA] at R0
  rw [hc]
  by_cases g : dg B z s.1 = true
  · rw [if_pos g] at Rn st
    obtain ⟨eb, ev, f2⟩ := st
    obtain ⟨n1, n2, n3⟩ := numP_le B z ha
    obtain ⟨v, ew⟩ : ∃ v, v = (numP B z s.1).1 := ⟨_, rfl⟩
    rw [Fdef_g (s := Fap s) g, show (numP B z (Fap s).1).1 = v from ew.symm]
    rw [← ew] at ev n3
    have hM : hI h2 1075 0 = nI M := by rw [i2 1075 (by decide) (by omega)]; exact L.1.2.2.1
    have D2 : DM h2 n s.2.1 := fun w hw => by
      rw [i2 1077 (by decide) (by omega), i2 1078 (by decide) (by omega)]; exact L.2.2.1 w hw
    obtain ⟨P1, P2⟩ := sp_defs (d := d) S2 f2 D2 ev n3 hM L.1.2.2.2 (p := s.1) (st := 2) (k := i) (j := n + 1 + i) (by omega) ⟨by omega, by rw [if_neg (by omega)], by rw [if_neg (by omega)]; omega⟩
    by_cases b : badD (2 * M + 1) s.2.1 v
    · rw [if_pos (show badD (2 * M + 1) (Fap s).2.1 v from b)]
      obtain ⟨h3, R1, f3, F3⟩ := P1 b
      refine ⟨h3, ⟨f3, F3.S S2⟩, F12.tr F3.L, fun Q bc bs hQ ls l1 l0 => ?_⟩
      refine r_iload_n (q122 (i := 80) rfl) l1 ?_
      refine r_aload_n (q122 (i := 81) rfl) l0 ?_
      refine r_getR (b := 1075) (q122 (i := 82) rfl) rfl (by decide) (k_47 S) (fun _ _ _ => rfl) (r_47_30 S) ?_
      refine r_iconst (v := 4) (q122 (i := 83) rfl) (by decide) ?_
      refine r_iaload (x := nI N) (q122 (i := 84) rfl) (k_1075 S) (vp_in_nI (n := 4) (by decide) (by decide)) hN4 ?_
      refine r_icmp 261 (q122 (i := 85) rfl) (by decide) (fun zz => absurd zz (show ¬ (nI N ≤ nI i) from nI_ge hi (by omega))) (fun _ => ?_)
      refine r_iconst (v := 0) (q122 (i := 86) rfl) (by decide) ?_
      refine r_istore_n (ls' := lset1 ls 2 (.int 0)) (q122 (i := 87) rfl) (Nat.le_of_ble_eq_true rfl) rfl ?_
      have l1 := lk1 (k := 2) (v := .int 0) l1 (by decide) (Or.inl rfl)
      have l0 := lk1 (k := 2) (v := .int 0) l0 (by decide) (Or.inr (by decide))
      have l2 := lk0 ls 2 (.int 0)
      generalize lset1 ls 2 (.int 0) = ls at l2 l1 l0 ⊢
      refine r_iload_n (q122 (i := 88) rfl) l2 ?_
      refine r_iconst (v := 3) (q122 (i := 89) rfl) (by decide) ?_
      refine r_icmp 255 (q122 (i := 90) rfl) (by decide) (fun zz => absurd zz (show ¬ (3 ≤ (0 : Int32)) from by decide)) (fun _ => ?_)
      refine r_aload_n (q122 (i := 91) rfl) l0 ?_
      refine r_getR (b := 1200) (q122 (i := 92) rfl) rfl (by decide) (k_47 S) (fun _ _ _ => rfl) (r_47_35 S) ?_
      refine r_iload_n (q122 (i := 93) rfl) l1 ?_
      refine r_aa5N (q122 (i := 94) rfl) (k_1200 S) (by omega) (by decide) (rAt S (by omega)) ?_
      refine r_iload_n (q122 (i := 95) rfl) l2 ?_
      refine r_aload_n (q122 (i := 96) rfl) l0 ?_
      refine r_getI (x := nI s.1) (q122 (i := 97) rfl) rfl (by decide) (k_47 S) (fun _ _ _ => rfl) L.2.1.2.1 ?_
      refine r_iastore (q122 (i := 98) rfl) (kAt S (x := i) (by omega)) (vp_in_nI (n := 0) (by decide) (by decide)) ?_
      show Wp _ _ _ _ _ _ (sI h (1201 + i) 0 (nI s.1)) _ _
      refine r_aload_n (q122 (i := 99) rfl) l0 ?_
      refine r_cV (d := _) (q122 (i := 100) rfl) rfl rfl rfl (k_47 S) (Nat.le_of_ble_eq_true rfl) (Nat.zero_le _) (Nat.zero_le _) Rn ?_
      show Wp _ _ _ 177 ls [.int 1] h2 _ _
      refine r_if 235 (q122 (i := 101) rfl) (by decide) (fun zz => absurd zz (show ¬ ((1 : Int32) = 0) from by decide)) (fun _ => ?_)
      refine r_iload_n (q122 (i := 102) rfl) l2 ?_
      refine r_if 201 (q122 (i := 103) rfl) (by decide) (fun zz => absurd zz (show ¬ (¬ (0 : Int32) = 0) from by decide)) (fun _ => ?_)
      refine r_aload_n (q122 (i := 104) rfl) l0 ?_
      refine r_aload_n (q122 (i := 105) rfl) l0 ?_
      refine r_iload_n (q122 (i := 106) rfl) l1 ?_
      refine r_cV (d := _) (q122 (i := 107) rfl) rfl rfl rfl (k_47 S2) (Nat.le_of_ble_eq_true rfl) (Nat.zero_le _) (Nat.zero_le _) R0 ?_
      show Wp _ _ _ 190 ls [.int (nI s.1), .ref 47] h2 _ _
      refine r_iconst (v := nI 2) (q122 (i := 108) rfl) (by decide) ?_
      refine r_iload_n (q122 (i := 109) rfl) l1 ?_
      refine r_cV (d := _) (q122 (i := 110) rfl) rfl rfl rfl (k_47 S2) (Nat.le_of_ble_eq_true rfl) (Nat.zero_le _) (Nat.zero_le _) R1 ?_
      show Wp _ _ _ 195 ls [.int 0] h3 _ _
      refine r_if 235 (q122 (i := 111) rfl) (by decide) (fun _ => ?_) (fun zz => absurd (show (0 : Int32) = 0 from by decide) zz)
      refine r_iconst (v := 0) (q122 (i := 131) rfl) (by decide) ?_
      exact r_zret (q122 (i := 132) rfl) rfl (by decide) hQ
    · rw [if_neg (show ¬ badD (2 * M + 1) (Fap s).2.1 v from b)]
      obtain ⟨R1, D3, y1, y0, y2, y3⟩ := P2 b
      have i3 : ∀ k, k ≠ 47 → k ≠ 1201 + i → k ≠ 1077 → k ≠ 1078 → hI (sI (sI h2 1077 (v / 2) (nI 2)) 1078 (v / 2) (nI i)) k = hI h k := fun k a b c e => by
        show u2 (u2 h2.1 1077 _ _) 1078 _ _ k = _
        rw [u2_n e, u2_n c]; exact i2 k a b
      refine ⟨sI (sI h2 1077 (v / 2) (nI 2)) 1078 (v / 2) (nI i), ⟨⟨⟨S2.to rfl, F2.T T1, hM, L.1.2.2.2⟩, ⟨f2, eb, n2⟩, D3, ?_, ?_⟩, ⟨hu, by show s.2.2.2.2.2 + 1 = _; rw [hc]⟩, ⟨?_, ?_⟩, ⟨v / 2, y0, y1, ?_, ?_⟩⟩, (F12.tr (FrLn.w (by decide) _ _)).tr (FrLn.w (by decide) _ _), fun Q bc bs kk ls l1 l0 => ?_⟩
      · intro j hj
        rw [i3 1321 (by decide) (by omega) (by decide) (by decide), i3 1322 (by decide) (by omega) (by decide) (by decide)]
        exact L.2.2.2.1 j hj
      · refine AMs_df L.2.2.2.2 (fun j hj => ⟨i3 _ (by omega) (by omega) (by omega) (by omega), i3 _ (by omega) (by omega) (by omega) (by omega)⟩) y3 rfl rfl (fun j hj => ?_)
        show u1 s.2.2.2.2.1 s.2.2.2.2.2 s.1 j = _
        rw [u1_n (by omega)]
      · show u2 (u2 h2.1 1077 _ _) 1078 _ _ (1201 + i) 0 = nI (u1 s.2.2.2.2.1 s.2.2.2.2.2 s.1 i)
        rw [u2_n (by omega), u2_n (by omega), hc, u1_s]; exact eA
      · show u1 s.2.2.2.2.1 s.2.2.2.2.2 s.1 i ≤ 3000
        rw [hc, u1_s]; omega
      · show hI h2 47 29 = _
        rw [ev, ← y2]
      · show u1 s.2.1 (v / 2) _ (v / 2) = _
        rw [u1_s]
      refine r_iload_n (q122 (i := 80) rfl) l1 ?_
      refine r_aload_n (q122 (i := 81) rfl) l0 ?_
      refine r_getR (b := 1075) (q122 (i := 82) rfl) rfl (by decide) (k_47 S) (fun _ _ _ => rfl) (r_47_30 S) ?_
      refine r_iconst (v := 4) (q122 (i := 83) rfl) (by decide) ?_
      refine r_iaload (x := nI N) (q122 (i := 84) rfl) (k_1075 S) (vp_in_nI (n := 4) (by decide) (by decide)) hN4 ?_
      refine r_icmp 261 (q122 (i := 85) rfl) (by decide) (fun zz => absurd zz (show ¬ (nI N ≤ nI i) from nI_ge hi (by omega))) (fun _ => ?_)
      refine r_iconst (v := 0) (q122 (i := 86) rfl) (by decide) ?_
      refine r_istore_n (ls' := lset1 ls 2 (.int 0)) (q122 (i := 87) rfl) (Nat.le_of_ble_eq_true rfl) rfl ?_
      have l1 := lk1 (k := 2) (v := .int 0) l1 (by decide) (Or.inl rfl)
      have l0 := lk1 (k := 2) (v := .int 0) l0 (by decide) (Or.inr (by decide))
      have l2 := lk0 ls 2 (.int 0)
      generalize lset1 ls 2 (.int 0) = ls at l2 l1 l0 ⊢
      refine r_iload_n (q122 (i := 88) rfl) l2 ?_
      refine r_iconst (v := 3) (q122 (i := 89) rfl) (by decide) ?_
      refine r_icmp 255 (q122 (i := 90) rfl) (by decide) (fun zz => absurd zz (show ¬ (3 ≤ (0 : Int32)) from by decide)) (fun _ => ?_)
      refine r_aload_n (q122 (i := 91) rfl) l0 ?_
      refine r_getR (b := 1200) (q122 (i := 92) rfl) rfl (by decide) (k_47 S) (fun _ _ _ => rfl) (r_47_35 S) ?_
      refine r_iload_n (q122 (i := 93) rfl) l1 ?_
      refine r_aa5N (q122 (i := 94) rfl) (k_1200 S) (by omega) (by decide) (rAt S (by omega)) ?_
      refine r_iload_n (q122 (i := 95) rfl) l2 ?_
      refine r_aload_n (q122 (i := 96) rfl) l0 ?_
      refine r_getI (x := nI s.1) (q122 (i := 97) rfl) rfl (by decide) (k_47 S) (fun _ _ _ => rfl) L.2.1.2.1 ?_
      refine r_iastore (q122 (i := 98) rfl) (kAt S (x := i) (by omega)) (vp_in_nI (n := 0) (by decide) (by decide)) ?_
      show Wp _ _ _ _ _ _ (sI h (1201 + i) 0 (nI s.1)) _ _
      refine r_aload_n (q122 (i := 99) rfl) l0 ?_
      refine r_cV (d := _) (q122 (i := 100) rfl) rfl rfl rfl (k_47 S) (Nat.le_of_ble_eq_true rfl) (Nat.zero_le _) (Nat.zero_le _) Rn ?_
      show Wp _ _ _ 177 ls [.int 1] h2 _ _
      refine r_if 235 (q122 (i := 101) rfl) (by decide) (fun zz => absurd zz (show ¬ ((1 : Int32) = 0) from by decide)) (fun _ => ?_)
      refine r_iload_n (q122 (i := 102) rfl) l2 ?_
      refine r_if 201 (q122 (i := 103) rfl) (by decide) (fun zz => absurd zz (show ¬ (¬ (0 : Int32) = 0) from by decide)) (fun _ => ?_)
      refine r_aload_n (q122 (i := 104) rfl) l0 ?_
      refine r_aload_n (q122 (i := 105) rfl) l0 ?_
      refine r_iload_n (q122 (i := 106) rfl) l1 ?_
      refine r_cV (d := _) (q122 (i := 107) rfl) rfl rfl rfl (k_47 S2) (Nat.le_of_ble_eq_true rfl) (Nat.zero_le _) (Nat.zero_le _) R0 ?_
      show Wp _ _ _ 190 ls [.int (nI s.1), .ref 47] h2 _ _
      refine r_iconst (v := nI 2) (q122 (i := 108) rfl) (by decide) ?_
      refine r_iload_n (q122 (i := 109) rfl) l1 ?_
      refine r_cV (d := _) (q122 (i := 110) rfl) rfl rfl rfl (k_47 S2) (Nat.le_of_ble_eq_true rfl) (Nat.zero_le _) (Nat.zero_le _) R1 ?_
      show Wp _ _ _ 195 ls [.int 1] (sI (sI h2 1077 (v / 2) (nI 2)) 1078 (v / 2) (nI i)) _ _
      refine r_if 235 (q122 (i := 111) rfl) (by decide) (fun zz => absurd zz (show ¬ ((1 : Int32) = 0) from by decide)) (fun _ => ?_)
      refine r_goto 216 (q122 (i := 112) rfl) (by decide) ?_
      exact kk ls l2 l1 l0
  · rw [if_neg g] at Rn st
    unfold Fdef
    rw [if_neg (show ¬ dg B z (Fap s).1 = true from g)]
    refine ⟨h2, ⟨st.2.2, S2⟩, F12, fun Q bc bs hQ ls l1 l0 => ?_⟩
    refine r_iload_n (q122 (i := 80) rfl) l1 ?_
    refine r_aload_n (q122 (i := 81) rfl) l0 ?_
    refine r_getR (b := 1075) (q122 (i := 82) rfl) rfl (by decide) (k_47 S) (fun _ _ _ => rfl) (r_47_30 S) ?_
    refine r_iconst (v := 4) (q122 (i := 83) rfl) (by decide) ?_
    refine r_iaload (x := nI N) (q122 (i := 84) rfl) (k_1075 S) (vp_in_nI (n := 4) (by decide) (by decide)) hN4 ?_
    refine r_icmp 261 (q122 (i := 85) rfl) (by decide) (fun zz => absurd zz (show ¬ (nI N ≤ nI i) from nI_ge hi (by omega))) (fun _ => ?_)
    refine r_iconst (v := 0) (q122 (i := 86) rfl) (by decide) ?_
    refine r_istore_n (ls' := lset1 ls 2 (.int 0)) (q122 (i := 87) rfl) (Nat.le_of_ble_eq_true rfl) rfl ?_
    have l1 := lk1 (k := 2) (v := .int 0) l1 (by decide) (Or.inl rfl)
    have l0 := lk1 (k := 2) (v := .int 0) l0 (by decide) (Or.inr (by decide))
    have l2 := lk0 ls 2 (.int 0)
    generalize lset1 ls 2 (.int 0) = ls at l2 l1 l0 ⊢
    refine r_iload_n (q122 (i := 88) rfl) l2 ?_
    refine r_iconst (v := 3) (q122 (i := 89) rfl) (by decide) ?_
    refine r_icmp 255 (q122 (i := 90) rfl) (by decide) (fun zz => absurd zz (show ¬ (3 ≤ (0 : Int32)) from by decide)) (fun _ => ?_)
    refine r_aload_n (q122 (i := 91) rfl) l0 ?_
    refine r_getR (b := 1200) (q122 (i := 92) rfl) rfl (by decide) (k_47 S) (fun _ _ _ => rfl) (r_47_35 S) ?_
    refine r_iload_n (q122 (i := 93) rfl) l1 ?_
    refine r_aa5N (q122 (i := 94) rfl) (k_1200 S) (by omega) (by decide) (rAt S (by omega)) ?_
    refine r_iload_n (q122 (i := 95) rfl) l2 ?_
    refine r_aload_n (q122 (i := 96) rfl) l0 ?_
    refine r_getI (x := nI s.1) (q122 (i := 97) rfl) rfl (by decide) (k_47 S) (fun _ _ _ => rfl) L.2.1.2.1 ?_
    refine r_iastore (q122 (i := 98) rfl) (kAt S (x := i) (by omega)) (vp_in_nI (n := 0) (by decide) (by decide)) ?_
    show Wp _ _ _ _ _ _ (sI h (1201 + i) 0 (nI s.1)) _ _
    refine r_aload_n (q122 (i := 99) rfl) l0 ?_
    refine r_cV (d := _) (q122 (i := 100) rfl) rfl rfl rfl (k_47 S) (Nat.le_of_ble_eq_true rfl) (Nat.zero_le _) (Nat.zero_le _) Rn ?_
    show Wp _ _ _ 177 ls [.int 0] h2 _ _
    refine r_if 235 (q122 (i := 101) rfl) (by decide) (fun _ => ?_) (fun zz => absurd (show (0 : Int32) = 0 from by decide) zz)
    refine r_iconst (v := 0) (q122 (i := 131) rfl) (by decide) ?_
    exact r_zret (q122 (i := 132) rfl) rfl (by decide) hQ
set_option maxHeartbeats 2000000 in
set_option maxRecDepth 10000 in
theorem la_use0 {d : Nat} {B : Nat → Int32} {z n M O N i : Nat} (hN : N ≤ 119) (hi : i < N) {h : hp} {s : pst} (L : LSt h B z n M O O i s) (hu : s.2.2.1.2.2 = O + 2 * i + 0) (r0 : R0 h i s) (rd : RE h n i s) : LRes (Fuse B z (2 * M + 1) s) h (fun h1 s1 => LSt h1 B z n M O O i s1 ∧ (s1.2.2.1.2.2 = O + 2 * i + 0 + 1 ∧ s1.2.2.2.2 = s.2.2.2.2) ∧ R0 h1 i s1 ∧ RD h1 n i s1 ∧ RV h1 O i 0 s1) (fun Q bc bs => ∀ ls : List (Nat × Value), ls.lookup 2 = some (.int 0) → ls.lookup 1 = some (.int (nI i)) → ls.lookup 0 = some (.ref 47) → Wp (Ex (d + 2)) 122 Q 237 ls [] h bc bs) (fun h Q bc bs => ∀ ls : List (Nat × Value), ls.lookup 2 = some (.int 1) → ls.lookup 1 = some (.int (nI i)) → ls.lookup 0 = some (.ref 47) → Wp (Ex (d + 2)) 122 Q 216 ls [] h bc bs) := by
  have S := L.1.1
  have hz := L.1.2.1.2.2.1
  have ha := L.2.1.2.2
  obtain ⟨v, v0, v1, evl, vd⟩ := rd
  have ik : ∀ k, k ≠ 1201 + i → k ≠ 1080 + i → hI (sI (sI h (1080 + i) 0 (nI (2 * v))) (1201 + i) 1 (nI s.1)) k = hI h k := fun k a b => by
    show u2 (u2 h.1 (1080 + i) _ _) (1201 + i) _ _ k = _
    rw [u2_n a, u2_n b]
  have F1 : FrLn h (sI (sI h (1080 + i) 0 (nI (2 * v))) (1201 + i) 1 (nI s.1)) := (FrLn.w (by omega) _ _).tr (FrLn.w (by omega) _ _)
  have T1 : TM (sI (sI h (1080 + i) 0 (nI (2 * v))) (1201 + i) 1 (nI s.1)) B z := ⟨by rw [ik 1074 (by omega) (by omega)]; exact L.1.2.1.1, by rw [ik 47 (by omega) (by omega)]; exact L.1.2.1.2.1, L.1.2.1.2.2⟩
  have e27a : hI (sI h (1080 + i) 0 (nI (2 * v))) 47 27 = nI s.1 := by
    show u2 h.1 (1080 + i) _ _ 47 27 = _
    rw [u2_n (by omega)]; exact L.2.1.2.1
  obtain ⟨h2, Rn, st, F2⟩ := sp_mnum (d := d) (h := sI (sI h (1080 + i) 0 (nI (2 * v))) (1201 + i) 1 (nI s.1)) (S.to rfl) T1 (t := none) (by show hI _ 47 28 = 0 ∧ hI _ 47 26 = -1; rw [ik 47 (by omega) (by omega)]; exact L.2.1.1) (a := s.1) (by rw [ik 47 (by omega) (by omega)]; exact L.2.1.2.1) L.2.1.2.2
  have S2 : Sh h2 := F2.S (S.to rfl)
  have F12 := F1.tr F2.L
  have i2 : ∀ k, k ≠ 47 → k ≠ 1201 + i → k ≠ 1080 + i → hI h2 k = hI h k := fun k a b c => (F2.2.1 k a).trans (ik k b c)
  have eA : hI h2 (1201 + i) 1 = nI s.1 := by
    rw [F2.2.1 (1201 + i) (by omega)]
    show u2 (u2 h.1 (1080 + i) _ _) (1201 + i) 1 (nI s.1) (1201 + i) 1 = _
    rw [u2_s, u1_s]
  have eN : ∀ q, q ≠ 1 → hI h2 (1201 + i) q = hI h (1201 + i) q := fun q hq => by
    rw [F2.2.1 (1201 + i) (by omega)]
    show u2 (u2 h.1 (1080 + i) _ _) (1201 + i) 1 (nI s.1) (1201 + i) q = _
    rw [u2_s, u1_n hq, u2_n (by omega)]
  have eB : hI h2 (1080 + i) 0 = nI (2 * v) := by
    rw [F2.2.1 (1080 + i) (by omega)]
    show u2 (u2 h.1 (1080 + i) 0 (nI (2 * v))) (1201 + i) _ _ (1080 + i) 0 = _
    rw [u2_n (by omega), u2_s, u1_s]
  have eM : ∀ q, q ≠ 0 → hI h2 (1080 + i) q = hI h (1080 + i) q := fun q hq => by
    rw [F2.2.1 (1080 + i) (by omega)]
    show u2 (u2 h.1 (1080 + i) 0 (nI (2 * v))) (1201 + i) _ _ (1080 + i) q = _
    rw [u2_n (by omega), u2_s, u1_n hq]
  by_cases g : dg B z s.1 = true
  · rw [if_pos g] at Rn st
    obtain ⟨eb, ev, f2⟩ := st
    obtain ⟨n1, n2, n3⟩ := numP_le B z ha
    obtain ⟨w, ew⟩ : ∃ w, w = (numP B z s.1).1 := ⟨_, rfl⟩
    rw [Fuse_g g, ← ew]
    rw [← ew] at ev n3
    have hM : hI h2 1075 0 = nI M := by rw [i2 1075 (by decide) (by omega) (by omega)]; exact L.1.2.2.1
    obtain ⟨P1, P2⟩ := sp_uses (d := d) S2 f2 ev n3 hM L.1.2.2.2 (p := s.1) (by omega)
    by_cases b : 2 * M + 1 < w
    · rw [if_pos b]
      obtain ⟨h3, R1, f3, F3⟩ := P1 b
      refine ⟨h3, ⟨f3, F3.S S2⟩, F12.tr F3.L, fun Q bc bs hQ ls l2 l1 l0 => ?_⟩
      refine r_aload_n (q122 (i := 133) rfl) l0 ?_
      refine r_getR (b := 1079) (q122 (i := 134) rfl) rfl (by decide) (k_47 S) (fun _ _ _ => rfl) (r_47_34 S) ?_
      refine r_iload_n (q122 (i := 135) rfl) l1 ?_
      refine r_aa5N (q122 (i := 136) rfl) (k_1079 S) (by omega) (by decide) (rAnd S (by omega)) ?_
      refine r_iload_n (q122 (i := 137) rfl) l2 ?_
      refine r_aload_n (q122 (i := 138) rfl) l0 ?_
      refine r_getI (x := nI (2 * v)) (q122 (i := 139) rfl) rfl (by decide) (k_47 S) (fun _ _ _ => rfl) evl ?_
      refine r_iastore (q122 (i := 140) rfl) (kAnd S (x := i) (by omega)) (vp_in_nI (n := 0) (by decide) (by decide)) ?_
      show Wp _ _ _ _ _ _ (sI h (1080 + i) 0 (nI (2 * v))) _ _
      refine r_iinc (y := 1) (q122 (i := 141) rfl) (Nat.le_of_ble_eq_true rfl) l2 (by decide) rfl ?_
      have l1 := lk1 (k := 2) (v := .int 1) l1 (by decide) (Or.inl rfl)
      have l0 := lk1 (k := 2) (v := .int 1) l0 (by decide) (Or.inr (by decide))
      have l2 := lk0 ls 2 (.int 1)
      generalize lset1 ls 2 (.int 1) = ls at l2 l1 l0 ⊢
      refine r_goto 156 (q122 (i := 142) rfl) (by decide) ?_
      refine r_iload_n (q122 (i := 88) rfl) l2 ?_
      refine r_iconst (v := 3) (q122 (i := 89) rfl) (by decide) ?_
      refine r_icmp 255 (q122 (i := 90) rfl) (by decide) (fun zz => absurd zz (show ¬ (3 ≤ (1 : Int32)) from by decide)) (fun _ => ?_)
      refine r_aload_n (q122 (i := 91) rfl) l0 ?_
      refine r_getR (b := 1200) (q122 (i := 92) rfl) rfl (by decide) (k_47 S) (fun _ _ _ => rfl) (r_47_35 S) ?_
      refine r_iload_n (q122 (i := 93) rfl) l1 ?_
      refine r_aa5N (q122 (i := 94) rfl) (k_1200 S) (by omega) (by decide) (rAt S (by omega)) ?_
      refine r_iload_n (q122 (i := 95) rfl) l2 ?_
      refine r_aload_n (q122 (i := 96) rfl) l0 ?_
      refine r_getI (x := nI s.1) (q122 (i := 97) rfl) rfl (by decide) (k_47 S) (fun _ _ _ => rfl) e27a ?_
      refine r_iastore (q122 (i := 98) rfl) (kAt S (x := i) (by omega)) (vp_in_nI (n := 1) (by decide) (by decide)) ?_
      show Wp _ _ _ _ _ _ (sI (sI h (1080 + i) 0 (nI (2 * v))) (1201 + i) 1 (nI s.1)) _ _
      refine r_aload_n (q122 (i := 99) rfl) l0 ?_
      refine r_cV (d := _) (q122 (i := 100) rfl) rfl rfl rfl (k_47 S) (Nat.le_of_ble_eq_true rfl) (Nat.zero_le _) (Nat.zero_le _) Rn ?_
      show Wp _ _ _ 177 ls [.int 1] h2 _ _
      refine r_if 235 (q122 (i := 101) rfl) (by decide) (fun zz => absurd zz (show ¬ ((1 : Int32) = 0) from by decide)) (fun _ => ?_)
      refine r_iload_n (q122 (i := 102) rfl) l2 ?_
      refine r_if 201 (q122 (i := 103) rfl) (by decide) (fun _ => ?_) (fun zz => absurd (show ¬ (1 : Int32) = 0 from by decide) zz)
      refine r_aload_n (q122 (i := 113) rfl) l0 ?_
      refine r_aload_n (q122 (i := 114) rfl) l0 ?_
      refine r_getR (b := 1200) (q122 (i := 115) rfl) rfl (by decide) (k_47 S2) (fun _ _ _ => rfl) (r_47_35 S2) ?_
      refine r_iload_n (q122 (i := 116) rfl) l1 ?_
      refine r_aa5N (q122 (i := 117) rfl) (k_1200 S2) (by omega) (by decide) (rAt S2 (by omega)) ?_
      refine r_iload_n (q122 (i := 118) rfl) l2 ?_
      refine r_iaload (x := nI s.1) (q122 (i := 119) rfl) (kAt S2 (x := i) (by omega)) (vp_in_nI (n := 1) (by decide) (by decide)) eA ?_
      refine r_cV (d := _) (q122 (i := 120) rfl) rfl rfl rfl (k_47 S2) (Nat.le_of_ble_eq_true rfl) (Nat.zero_le _) (Nat.zero_le _) R1 ?_
      show Wp _ _ _ 213 ls [.int 0] h3 _ _
      refine r_if 235 (q122 (i := 121) rfl) (by decide) (fun _ => ?_) (fun zz => absurd (show (0 : Int32) = 0 from by decide) zz)
      refine r_iconst (v := 0) (q122 (i := 131) rfl) (by decide) ?_
      exact r_zret (q122 (i := 132) rfl) rfl (by decide) hQ
    · rw [if_neg b]
      have R1 := P2 b
      have hM1 := L.1.2.2.2
      refine ⟨h2, ⟨⟨⟨S2, F2.T T1, hM, hM1⟩, ⟨f2, eb, n2⟩, ?_, ?_, ?_⟩, ⟨by show s.2.2.1.2.2 + 1 = _; rw [hu], rfl⟩, ⟨?_, r0.2⟩, ⟨v, v0, v1, eB, vd⟩, ⟨?_, ?_, ?_, ?_⟩⟩, F12, fun Q bc bs kk ls l2 l1 l0 => ?_⟩
      · intro q hq
        rw [i2 1077 (by decide) (by omega) (by omega), i2 1078 (by decide) (by omega) (by omega)]; exact L.2.2.1 q hq
      · exact OMs_us (u := O + 2 * i + 0) L.2.2.2.1 (by omega) (by rw [i2 1321 (by decide) (by omega) (by omega)]) (fun q hq => by rw [i2 1322 (by decide) (by omega) (by omega)]) (by show u1 s.2.2.1.1 s.2.2.1.2.2 w = _; rw [hu]) (by show u1 s.2.2.1.2.1 s.2.2.1.2.2 s.1 = _; rw [hu])
      · exact AMs_us (u := O + 2 * i + 0) L.2.2.2.2 (by omega) (fun q hq => ⟨i2 _ (by omega) (by omega) (by omega), i2 _ (by omega) (by omega) (by omega)⟩) rfl (by show u1 s.2.2.1.1 s.2.2.1.2.2 w = _; rw [hu]) (by show u1 s.2.2.1.2.1 s.2.2.1.2.2 s.1 = _; rw [hu]) rfl
      · rw [eN 0 (by decide)]; exact r0.1
      · show hI h2 47 29 = nI (u1 s.2.2.1.1 s.2.2.1.2.2 w (O + 2 * i + 0))
        rw [hu, u1_s]; exact ev
      · show hI h2 (1201 + i) 1 = nI (u1 s.2.2.1.2.1 s.2.2.1.2.2 s.1 (O + 2 * i + 0))
        rw [hu, u1_s]; exact eA
      · show u1 s.2.2.1.1 s.2.2.1.2.2 w (O + 2 * i + 0) ≤ 2001
        rw [hu, u1_s]; omega
      · show u1 s.2.2.1.2.1 s.2.2.1.2.2 s.1 (O + 2 * i + 0) ≤ 3000
        rw [hu, u1_s]; omega
      refine r_aload_n (q122 (i := 133) rfl) l0 ?_
      refine r_getR (b := 1079) (q122 (i := 134) rfl) rfl (by decide) (k_47 S) (fun _ _ _ => rfl) (r_47_34 S) ?_
      refine r_iload_n (q122 (i := 135) rfl) l1 ?_
      refine r_aa5N (q122 (i := 136) rfl) (k_1079 S) (by omega) (by decide) (rAnd S (by omega)) ?_
      refine r_iload_n (q122 (i := 137) rfl) l2 ?_
      refine r_aload_n (q122 (i := 138) rfl) l0 ?_
      refine r_getI (x := nI (2 * v)) (q122 (i := 139) rfl) rfl (by decide) (k_47 S) (fun _ _ _ => rfl) evl ?_
      refine r_iastore (q122 (i := 140) rfl) (kAnd S (x := i) (by omega)) (vp_in_nI (n := 0) (by decide) (by decide)) ?_
      show Wp _ _ _ _ _ _ (sI h (1080 + i) 0 (nI (2 * v))) _ _
      refine r_iinc (y := 1) (q122 (i := 141) rfl) (Nat.le_of_ble_eq_true rfl) l2 (by decide) rfl ?_
      have l1 := lk1 (k := 2) (v := .int 1) l1 (by decide) (Or.inl rfl)
      have l0 := lk1 (k := 2) (v := .int 1) l0 (by decide) (Or.inr (by decide))
      have l2 := lk0 ls 2 (.int 1)
      generalize lset1 ls 2 (.int 1) = ls at l2 l1 l0 ⊢
      refine r_goto 156 (q122 (i := 142) rfl) (by decide) ?_
      refine r_iload_n (q122 (i := 88) rfl) l2 ?_
      refine r_iconst (v := 3) (q122 (i := 89) rfl) (by decide) ?_
      refine r_icmp 255 (q122 (i := 90) rfl) (by decide) (fun zz => absurd zz (show ¬ (3 ≤ (1 : Int32)) from by decide)) (fun _ => ?_)
      refine r_aload_n (q122 (i := 91) rfl) l0 ?_
      refine r_getR (b := 1200) (q122 (i := 92) rfl) rfl (by decide) (k_47 S) (fun _ _ _ => rfl) (r_47_35 S) ?_
      refine r_iload_n (q122 (i := 93) rfl) l1 ?_
      refine r_aa5N (q122 (i := 94) rfl) (k_1200 S) (by omega) (by decide) (rAt S (by omega)) ?_
      refine r_iload_n (q122 (i := 95) rfl) l2 ?_
      refine r_aload_n (q122 (i := 96) rfl) l0 ?_
      refine r_getI (x := nI s.1) (q122 (i := 97) rfl) rfl (by decide) (k_47 S) (fun _ _ _ => rfl) e27a ?_
      refine r_iastore (q122 (i := 98) rfl) (kAt S (x := i) (by omega)) (vp_in_nI (n := 1) (by decide) (by decide)) ?_
      show Wp _ _ _ _ _ _ (sI (sI h (1080 + i) 0 (nI (2 * v))) (1201 + i) 1 (nI s.1)) _ _
      refine r_aload_n (q122 (i := 99) rfl) l0 ?_
      refine r_cV (d := _) (q122 (i := 100) rfl) rfl rfl rfl (k_47 S) (Nat.le_of_ble_eq_true rfl) (Nat.zero_le _) (Nat.zero_le _) Rn ?_
      show Wp _ _ _ 177 ls [.int 1] h2 _ _
      refine r_if 235 (q122 (i := 101) rfl) (by decide) (fun zz => absurd zz (show ¬ ((1 : Int32) = 0) from by decide)) (fun _ => ?_)
      refine r_iload_n (q122 (i := 102) rfl) l2 ?_
      refine r_if 201 (q122 (i := 103) rfl) (by decide) (fun _ => ?_) (fun zz => absurd (show ¬ (1 : Int32) = 0 from by decide) zz)
      refine r_aload_n (q122 (i := 113) rfl) l0 ?_
      refine r_aload_n (q122 (i := 114) rfl) l0 ?_
      refine r_getR (b := 1200) (q122 (i := 115) rfl) rfl (by decide) (k_47 S2) (fun _ _ _ => rfl) (r_47_35 S2) ?_
      refine r_iload_n (q122 (i := 116) rfl) l1 ?_
      refine r_aa5N (q122 (i := 117) rfl) (k_1200 S2) (by omega) (by decide) (rAt S2 (by omega)) ?_
      refine r_iload_n (q122 (i := 118) rfl) l2 ?_
      refine r_iaload (x := nI s.1) (q122 (i := 119) rfl) (kAt S2 (x := i) (by omega)) (vp_in_nI (n := 1) (by decide) (by decide)) eA ?_
      refine r_cV (d := _) (q122 (i := 120) rfl) rfl rfl rfl (k_47 S2) (Nat.le_of_ble_eq_true rfl) (Nat.zero_le _) (Nat.zero_le _) R1 ?_
      show Wp _ _ _ 213 ls [.int 1] h2 _ _
      refine r_if 235 (q122 (i := 121) rfl) (by decide) (fun zz => absurd zz (show ¬ ((1 : Int32) = 0) from by decide)) (fun _ => ?_)
      exact kk ls l2 l1 l0
  · rw [if_neg g] at Rn st
    unfold Fuse
    rw [if_neg g]
    refine ⟨h2, ⟨st.2.2, S2⟩, F12, fun Q bc bs hQ ls l2 l1 l0 => ?_⟩
    refine r_aload_n (q122 (i := 133) rfl) l0 ?_
    refine r_getR (b := 1079) (q122 (i := 134) rfl) rfl (by decide) (k_47 S) (fun _ _ _ => rfl) (r_47_34 S) ?_
    refine r_iload_n (q122 (i := 135) rfl) l1 ?_
    refine r_aa5N (q122 (i := 136) rfl) (k_1079 S) (by omega) (by decide) (rAnd S (by omega)) ?_
    refine r_iload_n (q122 (i := 137) rfl) l2 ?_
    refine r_aload_n (q122 (i := 138) rfl) l0 ?_
    refine r_getI (x := nI (2 * v)) (q122 (i := 139) rfl) rfl (by decide) (k_47 S) (fun _ _ _ => rfl) evl ?_
    refine r_iastore (q122 (i := 140) rfl) (kAnd S (x := i) (by omega)) (vp_in_nI (n := 0) (by decide) (by decide)) ?_
    show Wp _ _ _ _ _ _ (sI h (1080 + i) 0 (nI (2 * v))) _ _
    refine r_iinc (y := 1) (q122 (i := 141) rfl) (Nat.le_of_ble_eq_true rfl) l2 (by decide) rfl ?_
    have l1 := lk1 (k := 2) (v := .int 1) l1 (by decide) (Or.inl rfl)
    have l0 := lk1 (k := 2) (v := .int 1) l0 (by decide) (Or.inr (by decide))
    have l2 := lk0 ls 2 (.int 1)
    generalize lset1 ls 2 (.int 1) = ls at l2 l1 l0 ⊢
    refine r_goto 156 (q122 (i := 142) rfl) (by decide) ?_
    refine r_iload_n (q122 (i := 88) rfl) l2 ?_
    refine r_iconst (v := 3) (q122 (i := 89) rfl) (by decide) ?_
    refine r_icmp 255 (q122 (i := 90) rfl) (by decide) (fun zz => absurd zz (show ¬ (3 ≤ (1 : Int32)) from by decide)) (fun _ => ?_)
    refine r_aload_n (q122 (i := 91) rfl) l0 ?_
    refine r_getR (b := 1200) (q122 (i := 92) rfl) rfl (by decide) (k_47 S) (fun _ _ _ => rfl) (r_47_35 S) ?_
    refine r_iload_n (q122 (i := 93) rfl) l1 ?_
    refine r_aa5N (q122 (i := 94) rfl) (k_1200 S) (by omega) (by decide) (rAt S (by omega)) ?_
    refine r_iload_n (q122 (i := 95) rfl) l2 ?_
    refine r_aload_n (q122 (i := 96) rfl) l0 ?_
    refine r_getI (x := nI s.1) (q122 (i := 97) rfl) rfl (by decide) (k_47 S) (fun _ _ _ => rfl) e27a ?_
    refine r_iastore (q122 (i := 98) rfl) (kAt S (x := i) (by omega)) (vp_in_nI (n := 1) (by decide) (by decide)) ?_
    show Wp _ _ _ _ _ _ (sI (sI h (1080 + i) 0 (nI (2 * v))) (1201 + i) 1 (nI s.1)) _ _
    refine r_aload_n (q122 (i := 99) rfl) l0 ?_
    refine r_cV (d := _) (q122 (i := 100) rfl) rfl rfl rfl (k_47 S) (Nat.le_of_ble_eq_true rfl) (Nat.zero_le _) (Nat.zero_le _) Rn ?_
    show Wp _ _ _ 177 ls [.int 0] h2 _ _
    refine r_if 235 (q122 (i := 101) rfl) (by decide) (fun _ => ?_) (fun zz => absurd (show (0 : Int32) = 0 from by decide) zz)
    refine r_iconst (v := 0) (q122 (i := 131) rfl) (by decide) ?_
    exact r_zret (q122 (i := 132) rfl) rfl (by decide) hQ
set_option maxHeartbeats 2000000 in
set_option maxRecDepth 10000 in
theorem la_use1 {d : Nat} {B : Nat → Int32} {z n M O N i : Nat} (hN : N ≤ 119) (hi : i < N) {h : hp} {s : pst} (L : LSt h B z n M O O i s) (hu : s.2.2.1.2.2 = O + 2 * i + 1) (r0 : R0 h i s) (rd : RD h n i s) (rv : RV h O i 0 s) : LRes (Fuse B z (2 * M + 1) s) h (fun h1 s1 => LSt h1 B z n M O O i s1 ∧ (s1.2.2.1.2.2 = O + 2 * i + 1 + 1 ∧ s1.2.2.2.2 = s.2.2.2.2) ∧ R0 h1 i s1 ∧ RD h1 n i s1 ∧ RU h1 O i 0 s1 ∧ RV h1 O i 1 s1) (fun Q bc bs => ∀ ls : List (Nat × Value), ls.lookup 2 = some (.int 1) → ls.lookup 1 = some (.int (nI i)) → ls.lookup 0 = some (.ref 47) → Wp (Ex (d + 2)) 122 Q 237 ls [] h bc bs) (fun h Q bc bs => ∀ ls : List (Nat × Value), ls.lookup 2 = some (.int 2) → ls.lookup 1 = some (.int (nI i)) → ls.lookup 0 = some (.ref 47) → Wp (Ex (d + 2)) 122 Q 216 ls [] h bc bs) := by
  have S := L.1.1
  have hz := L.1.2.1.2.2.1
  have ha := L.2.1.2.2
  have evl := rv.1
  have ik : ∀ k, k ≠ 1201 + i → k ≠ 1080 + i → hI (sI (sI h (1080 + i) 1 (nI (s.2.2.1.1 (O + 2 * i + 0)))) (1201 + i) 2 (nI s.1)) k = hI h k := fun k a b => by
    show u2 (u2 h.1 (1080 + i) _ _) (1201 + i) _ _ k = _
    rw [u2_n a, u2_n b]
  have F1 : FrLn h (sI (sI h (1080 + i) 1 (nI (s.2.2.1.1 (O + 2 * i + 0)))) (1201 + i) 2 (nI s.1)) := (FrLn.w (by omega) _ _).tr (FrLn.w (by omega) _ _)
  have T1 : TM (sI (sI h (1080 + i) 1 (nI (s.2.2.1.1 (O + 2 * i + 0)))) (1201 + i) 2 (nI s.1)) B z := ⟨by rw [ik 1074 (by omega) (by omega)]; exact L.1.2.1.1, by rw [ik 47 (by omega) (by omega)]; exact L.1.2.1.2.1, L.1.2.1.2.2⟩
  have e27a : hI (sI h (1080 + i) 1 (nI (s.2.2.1.1 (O + 2 * i + 0)))) 47 27 = nI s.1 := by
    show u2 h.1 (1080 + i) _ _ 47 27 = _
    rw [u2_n (by omega)]; exact L.2.1.2.1
  obtain ⟨h2, Rn, st, F2⟩ := sp_mnum (d := d) (h := sI (sI h (1080 + i) 1 (nI (s.2.2.1.1 (O + 2 * i + 0)))) (1201 + i) 2 (nI s.1)) (S.to rfl) T1 (t := none) (by show hI _ 47 28 = 0 ∧ hI _ 47 26 = -1; rw [ik 47 (by omega) (by omega)]; exact L.2.1.1) (a := s.1) (by rw [ik 47 (by omega) (by omega)]; exact L.2.1.2.1) L.2.1.2.2
  have S2 : Sh h2 := F2.S (S.to rfl)
  have F12 := F1.tr F2.L
  have i2 : ∀ k, k ≠ 47 → k ≠ 1201 + i → k ≠ 1080 + i → hI h2 k = hI h k := fun k a b c => (F2.2.1 k a).trans (ik k b c)
  have eA : hI h2 (1201 + i) 2 = nI s.1 := by
    rw [F2.2.1 (1201 + i) (by omega)]
    show u2 (u2 h.1 (1080 + i) _ _) (1201 + i) 2 (nI s.1) (1201 + i) 2 = _
    rw [u2_s, u1_s]
  have eN : ∀ q, q ≠ 2 → hI h2 (1201 + i) q = hI h (1201 + i) q := fun q hq => by
    rw [F2.2.1 (1201 + i) (by omega)]
    show u2 (u2 h.1 (1080 + i) _ _) (1201 + i) 2 (nI s.1) (1201 + i) q = _
    rw [u2_s, u1_n hq, u2_n (by omega)]
  have eB : hI h2 (1080 + i) 1 = nI (s.2.2.1.1 (O + 2 * i + 0)) := by
    rw [F2.2.1 (1080 + i) (by omega)]
    show u2 (u2 h.1 (1080 + i) 1 (nI (s.2.2.1.1 (O + 2 * i + 0)))) (1201 + i) _ _ (1080 + i) 1 = _
    rw [u2_n (by omega), u2_s, u1_s]
  have eM : ∀ q, q ≠ 1 → hI h2 (1080 + i) q = hI h (1080 + i) q := fun q hq => by
    rw [F2.2.1 (1080 + i) (by omega)]
    show u2 (u2 h.1 (1080 + i) 1 (nI (s.2.2.1.1 (O + 2 * i + 0)))) (1201 + i) _ _ (1080 + i) q = _
    rw [u2_n (by omega), u2_s, u1_n hq]
  by_cases g : dg B z s.1 = true
  · rw [if_pos g] at Rn st
    obtain ⟨eb, ev, f2⟩ := st
    obtain ⟨n1, n2, n3⟩ := numP_le B z ha
    obtain ⟨w, ew⟩ : ∃ w, w = (numP B z s.1).1 := ⟨_, rfl⟩
    rw [Fuse_g g, ← ew]
    rw [← ew] at ev n3
    have hM : hI h2 1075 0 = nI M := by rw [i2 1075 (by decide) (by omega) (by omega)]; exact L.1.2.2.1
    obtain ⟨P1, P2⟩ := sp_uses (d := d) S2 f2 ev n3 hM L.1.2.2.2 (p := s.1) (by omega)
    by_cases b : 2 * M + 1 < w
    · rw [if_pos b]
      obtain ⟨h3, R1, f3, F3⟩ := P1 b
      refine ⟨h3, ⟨f3, F3.S S2⟩, F12.tr F3.L, fun Q bc bs hQ ls l2 l1 l0 => ?_⟩
      refine r_aload_n (q122 (i := 133) rfl) l0 ?_
      refine r_getR (b := 1079) (q122 (i := 134) rfl) rfl (by decide) (k_47 S) (fun _ _ _ => rfl) (r_47_34 S) ?_
      refine r_iload_n (q122 (i := 135) rfl) l1 ?_
      refine r_aa5N (q122 (i := 136) rfl) (k_1079 S) (by omega) (by decide) (rAnd S (by omega)) ?_
      refine r_iload_n (q122 (i := 137) rfl) l2 ?_
      refine r_aload_n (q122 (i := 138) rfl) l0 ?_
      refine r_getI (x := nI (s.2.2.1.1 (O + 2 * i + 0))) (q122 (i := 139) rfl) rfl (by decide) (k_47 S) (fun _ _ _ => rfl) evl ?_
      refine r_iastore (q122 (i := 140) rfl) (kAnd S (x := i) (by omega)) (vp_in_nI (n := 1) (by decide) (by decide)) ?_
      show Wp _ _ _ _ _ _ (sI h (1080 + i) 1 (nI (s.2.2.1.1 (O + 2 * i + 0)))) _ _
      refine r_iinc (y := 2) (q122 (i := 141) rfl) (Nat.le_of_ble_eq_true rfl) l2 (by decide) rfl ?_
      have l1 := lk1 (k := 2) (v := .int 2) l1 (by decide) (Or.inl rfl)
      have l0 := lk1 (k := 2) (v := .int 2) l0 (by decide) (Or.inr (by decide))
      have l2 := lk0 ls 2 (.int 2)
      generalize lset1 ls 2 (.int 2) = ls at l2 l1 l0 ⊢
      refine r_goto 156 (q122 (i := 142) rfl) (by decide) ?_
      refine r_iload_n (q122 (i := 88) rfl) l2 ?_
      refine r_iconst (v := 3) (q122 (i := 89) rfl) (by decide) ?_
      refine r_icmp 255 (q122 (i := 90) rfl) (by decide) (fun zz => absurd zz (show ¬ (3 ≤ (2 : Int32)) from by decide)) (fun _ => ?_)
      refine r_aload_n (q122 (i := 91) rfl) l0 ?_
      refine r_getR (b := 1200) (q122 (i := 92) rfl) rfl (by decide) (k_47 S) (fun _ _ _ => rfl) (r_47_35 S) ?_
      refine r_iload_n (q122 (i := 93) rfl) l1 ?_
      refine r_aa5N (q122 (i := 94) rfl) (k_1200 S) (by omega) (by decide) (rAt S (by omega)) ?_
      refine r_iload_n (q122 (i := 95) rfl) l2 ?_
      refine r_aload_n (q122 (i := 96) rfl) l0 ?_
      refine r_getI (x := nI s.1) (q122 (i := 97) rfl) rfl (by decide) (k_47 S) (fun _ _ _ => rfl) e27a ?_
      refine r_iastore (q122 (i := 98) rfl) (kAt S (x := i) (by omega)) (vp_in_nI (n := 2) (by decide) (by decide)) ?_
      show Wp _ _ _ _ _ _ (sI (sI h (1080 + i) 1 (nI (s.2.2.1.1 (O + 2 * i + 0)))) (1201 + i) 2 (nI s.1)) _ _
      refine r_aload_n (q122 (i := 99) rfl) l0 ?_
      refine r_cV (d := _) (q122 (i := 100) rfl) rfl rfl rfl (k_47 S) (Nat.le_of_ble_eq_true rfl) (Nat.zero_le _) (Nat.zero_le _) Rn ?_
      show Wp _ _ _ 177 ls [.int 1] h2 _ _
      refine r_if 235 (q122 (i := 101) rfl) (by decide) (fun zz => absurd zz (show ¬ ((1 : Int32) = 0) from by decide)) (fun _ => ?_)
      refine r_iload_n (q122 (i := 102) rfl) l2 ?_
      refine r_if 201 (q122 (i := 103) rfl) (by decide) (fun _ => ?_) (fun zz => absurd (show ¬ (2 : Int32) = 0 from by decide) zz)
      refine r_aload_n (q122 (i := 113) rfl) l0 ?_
      refine r_aload_n (q122 (i := 114) rfl) l0 ?_
      refine r_getR (b := 1200) (q122 (i := 115) rfl) rfl (by decide) (k_47 S2) (fun _ _ _ => rfl) (r_47_35 S2) ?_
      refine r_iload_n (q122 (i := 116) rfl) l1 ?_
      refine r_aa5N (q122 (i := 117) rfl) (k_1200 S2) (by omega) (by decide) (rAt S2 (by omega)) ?_
      refine r_iload_n (q122 (i := 118) rfl) l2 ?_
      refine r_iaload (x := nI s.1) (q122 (i := 119) rfl) (kAt S2 (x := i) (by omega)) (vp_in_nI (n := 2) (by decide) (by decide)) eA ?_
      refine r_cV (d := _) (q122 (i := 120) rfl) rfl rfl rfl (k_47 S2) (Nat.le_of_ble_eq_true rfl) (Nat.zero_le _) (Nat.zero_le _) R1 ?_
      show Wp _ _ _ 213 ls [.int 0] h3 _ _
      refine r_if 235 (q122 (i := 121) rfl) (by decide) (fun _ => ?_) (fun zz => absurd (show (0 : Int32) = 0 from by decide) zz)
      refine r_iconst (v := 0) (q122 (i := 131) rfl) (by decide) ?_
      exact r_zret (q122 (i := 132) rfl) rfl (by decide) hQ
    · rw [if_neg b]
      have R1 := P2 b
      have hM1 := L.1.2.2.2
      refine ⟨h2, ⟨⟨⟨S2, F2.T T1, hM, hM1⟩, ⟨f2, eb, n2⟩, ?_, ?_, ?_⟩, ⟨by show s.2.2.1.2.2 + 1 = _; rw [hu], rfl⟩, ⟨?_, r0.2⟩, RD.to rd (eM 0 (by decide)) rfl, ⟨?_, ?_, ?_, ?_⟩, ⟨?_, ?_, ?_, ?_⟩⟩, F12, fun Q bc bs kk ls l2 l1 l0 => ?_⟩
      · intro q hq
        rw [i2 1077 (by decide) (by omega) (by omega), i2 1078 (by decide) (by omega) (by omega)]; exact L.2.2.1 q hq
      · exact OMs_us (u := O + 2 * i + 1) L.2.2.2.1 (by omega) (by rw [i2 1321 (by decide) (by omega) (by omega)]) (fun q hq => by rw [i2 1322 (by decide) (by omega) (by omega)]) (by show u1 s.2.2.1.1 s.2.2.1.2.2 w = _; rw [hu]) (by show u1 s.2.2.1.2.1 s.2.2.1.2.2 s.1 = _; rw [hu])
      · exact AMs_us (u := O + 2 * i + 1) L.2.2.2.2 (by omega) (fun q hq => ⟨i2 _ (by omega) (by omega) (by omega), i2 _ (by omega) (by omega) (by omega)⟩) rfl (by show u1 s.2.2.1.1 s.2.2.1.2.2 w = _; rw [hu]) (by show u1 s.2.2.1.2.1 s.2.2.1.2.2 s.1 = _; rw [hu]) rfl
      · rw [eN 0 (by decide)]; exact r0.1
      · show hI h2 (1080 + i) 1 = nI (u1 s.2.2.1.1 s.2.2.1.2.2 w (O + 2 * i + 0))
        rw [hu, u1_n (by omega)]; exact eB
      · show hI h2 (1201 + i) 1 = nI (u1 s.2.2.1.2.1 s.2.2.1.2.2 s.1 (O + 2 * i + 0))
        rw [hu, u1_n (by omega), eN 1 (by decide)]; exact rv.2.1
      · show u1 s.2.2.1.1 s.2.2.1.2.2 w (O + 2 * i + 0) ≤ 2001
        rw [hu, u1_n (by omega)]; exact rv.2.2.1
      · show u1 s.2.2.1.2.1 s.2.2.1.2.2 s.1 (O + 2 * i + 0) ≤ 3000
        rw [hu, u1_n (by omega)]; exact rv.2.2.2
      · show hI h2 47 29 = nI (u1 s.2.2.1.1 s.2.2.1.2.2 w (O + 2 * i + 1))
        rw [hu, u1_s]; exact ev
      · show hI h2 (1201 + i) 2 = nI (u1 s.2.2.1.2.1 s.2.2.1.2.2 s.1 (O + 2 * i + 1))
        rw [hu, u1_s]; exact eA
      · show u1 s.2.2.1.1 s.2.2.1.2.2 w (O + 2 * i + 1) ≤ 2001
        rw [hu, u1_s]; omega
      · show u1 s.2.2.1.2.1 s.2.2.1.2.2 s.1 (O + 2 * i + 1) ≤ 3000
        rw [hu, u1_s]; omega
      refine r_aload_n (q122 (i := 133) rfl) l0 ?_
      refine r_getR (b := 1079) (q122 (i := 134) rfl) rfl (by decide) (k_47 S) (fun _ _ _ => rfl) (r_47_34 S) ?_
      refine r_iload_n (q122 (i := 135) rfl) l1 ?_
      refine r_aa5N (q122 (i := 136) rfl) (k_1079 S) (by omega) (by decide) (rAnd S (by omega)) ?_
      refine r_iload_n (q122 (i := 137) rfl) l2 ?_
      refine r_aload_n (q122 (i := 138) rfl) l0 ?_
      refine r_getI (x := nI (s.2.2.1.1 (O + 2 * i + 0))) (q122 (i := 139) rfl) rfl (by decide) (k_47 S) (fun _ _ _ => rfl) evl ?_
      refine r_iastore (q122 (i := 140) rfl) (kAnd S (x := i) (by omega)) (vp_in_nI (n := 1) (by decide) (by decide)) ?_
      show Wp _ _ _ _ _ _ (sI h (1080 + i) 1 (nI (s.2.2.1.1 (O + 2 * i + 0)))) _ _
      refine r_iinc (y := 2) (q122 (i := 141) rfl) (Nat.le_of_ble_eq_true rfl) l2 (by decide) rfl ?_
      have l1 := lk1 (k := 2) (v := .int 2) l1 (by decide) (Or.inl rfl)
      have l0 := lk1 (k := 2) (v := .int 2) l0 (by decide) (Or.inr (by decide))
      have l2 := lk0 ls 2 (.int 2)
      generalize lset1 ls 2 (.int 2) = ls at l2 l1 l0 ⊢
      refine r_goto 156 (q122 (i := 142) rfl) (by decide) ?_
      refine r_iload_n (q122 (i := 88) rfl) l2 ?_
      refine r_iconst (v := 3) (q122 (i := 89) rfl) (by decide) ?_
      refine r_icmp 255 (q122 (i := 90) rfl) (by decide) (fun zz => absurd zz (show ¬ (3 ≤ (2 : Int32)) from by decide)) (fun _ => ?_)
      refine r_aload_n (q122 (i := 91) rfl) l0 ?_
      refine r_getR (b := 1200) (q122 (i := 92) rfl) rfl (by decide) (k_47 S) (fun _ _ _ => rfl) (r_47_35 S) ?_
      refine r_iload_n (q122 (i := 93) rfl) l1 ?_
      refine r_aa5N (q122 (i := 94) rfl) (k_1200 S) (by omega) (by decide) (rAt S (by omega)) ?_
      refine r_iload_n (q122 (i := 95) rfl) l2 ?_
      refine r_aload_n (q122 (i := 96) rfl) l0 ?_
      refine r_getI (x := nI s.1) (q122 (i := 97) rfl) rfl (by decide) (k_47 S) (fun _ _ _ => rfl) e27a ?_
      refine r_iastore (q122 (i := 98) rfl) (kAt S (x := i) (by omega)) (vp_in_nI (n := 2) (by decide) (by decide)) ?_
      show Wp _ _ _ _ _ _ (sI (sI h (1080 + i) 1 (nI (s.2.2.1.1 (O + 2 * i + 0)))) (1201 + i) 2 (nI s.1)) _ _
      refine r_aload_n (q122 (i := 99) rfl) l0 ?_
      refine r_cV (d := _) (q122 (i := 100) rfl) rfl rfl rfl (k_47 S) (Nat.le_of_ble_eq_true rfl) (Nat.zero_le _) (Nat.zero_le _) Rn ?_
      show Wp _ _ _ 177 ls [.int 1] h2 _ _
      refine r_if 235 (q122 (i := 101) rfl) (by decide) (fun zz => absurd zz (show ¬ ((1 : Int32) = 0) from by decide)) (fun _ => ?_)
      refine r_iload_n (q122 (i := 102) rfl) l2 ?_
      refine r_if 201 (q122 (i := 103) rfl) (by decide) (fun _ => ?_) (fun zz => absurd (show ¬ (2 : Int32) = 0 from by decide) zz)
      refine r_aload_n (q122 (i := 113) rfl) l0 ?_
      refine r_aload_n (q122 (i := 114) rfl) l0 ?_
      refine r_getR (b := 1200) (q122 (i := 115) rfl) rfl (by decide) (k_47 S2) (fun _ _ _ => rfl) (r_47_35 S2) ?_
      refine r_iload_n (q122 (i := 116) rfl) l1 ?_
      refine r_aa5N (q122 (i := 117) rfl) (k_1200 S2) (by omega) (by decide) (rAt S2 (by omega)) ?_
      refine r_iload_n (q122 (i := 118) rfl) l2 ?_
      refine r_iaload (x := nI s.1) (q122 (i := 119) rfl) (kAt S2 (x := i) (by omega)) (vp_in_nI (n := 2) (by decide) (by decide)) eA ?_
      refine r_cV (d := _) (q122 (i := 120) rfl) rfl rfl rfl (k_47 S2) (Nat.le_of_ble_eq_true rfl) (Nat.zero_le _) (Nat.zero_le _) R1 ?_
      show Wp _ _ _ 213 ls [.int 1] h2 _ _
      refine r_if 235 (q122 (i := 121) rfl) (by decide) (fun zz => absurd zz (show ¬ ((1 : Int32) = 0) from by decide)) (fun _ => ?_)
      exact kk ls l2 l1 l0
  · rw [if_neg g] at Rn st
    unfold Fuse
    rw [if_neg g]
    refine ⟨h2, ⟨st.2.2, S2⟩, F12, fun Q bc bs hQ ls l2 l1 l0 => ?_⟩
    refine r_aload_n (q122 (i := 133) rfl) l0 ?_
    refine r_getR (b := 1079) (q122 (i := 134) rfl) rfl (by decide) (k_47 S) (fun _ _ _ => rfl) (r_47_34 S) ?_
    refine r_iload_n (q122 (i := 135) rfl) l1 ?_
    refine r_aa5N (q122 (i := 136) rfl) (k_1079 S) (by omega) (by decide) (rAnd S (by omega)) ?_
    refine r_iload_n (q122 (i := 137) rfl) l2 ?_
    refine r_aload_n (q122 (i := 138) rfl) l0 ?_
    refine r_getI (x := nI (s.2.2.1.1 (O + 2 * i + 0))) (q122 (i := 139) rfl) rfl (by decide) (k_47 S) (fun _ _ _ => rfl) evl ?_
    refine r_iastore (q122 (i := 140) rfl) (kAnd S (x := i) (by omega)) (vp_in_nI (n := 1) (by decide) (by decide)) ?_
    show Wp _ _ _ _ _ _ (sI h (1080 + i) 1 (nI (s.2.2.1.1 (O + 2 * i + 0)))) _ _
    refine r_iinc (y := 2) (q122 (i := 141) rfl) (Nat.le_of_ble_eq_true rfl) l2 (by decide) rfl ?_
    have l1 := lk1 (k := 2) (v := .int 2) l1 (by decide) (Or.inl rfl)
    have l0 := lk1 (k := 2) (v := .int 2) l0 (by decide) (Or.inr (by decide))
    have l2 := lk0 ls 2 (.int 2)
    generalize lset1 ls 2 (.int 2) = ls at l2 l1 l0 ⊢
    refine r_goto 156 (q122 (i := 142) rfl) (by decide) ?_
    refine r_iload_n (q122 (i := 88) rfl) l2 ?_
    refine r_iconst (v := 3) (q122 (i := 89) rfl) (by decide) ?_
    refine r_icmp 255 (q122 (i := 90) rfl) (by decide) (fun zz => absurd zz (show ¬ (3 ≤ (2 : Int32)) from by decide)) (fun _ => ?_)
    refine r_aload_n (q122 (i := 91) rfl) l0 ?_
    refine r_getR (b := 1200) (q122 (i := 92) rfl) rfl (by decide) (k_47 S) (fun _ _ _ => rfl) (r_47_35 S) ?_
    refine r_iload_n (q122 (i := 93) rfl) l1 ?_
    refine r_aa5N (q122 (i := 94) rfl) (k_1200 S) (by omega) (by decide) (rAt S (by omega)) ?_
    refine r_iload_n (q122 (i := 95) rfl) l2 ?_
    refine r_aload_n (q122 (i := 96) rfl) l0 ?_
    refine r_getI (x := nI s.1) (q122 (i := 97) rfl) rfl (by decide) (k_47 S) (fun _ _ _ => rfl) e27a ?_
    refine r_iastore (q122 (i := 98) rfl) (kAt S (x := i) (by omega)) (vp_in_nI (n := 2) (by decide) (by decide)) ?_
    show Wp _ _ _ _ _ _ (sI (sI h (1080 + i) 1 (nI (s.2.2.1.1 (O + 2 * i + 0)))) (1201 + i) 2 (nI s.1)) _ _
    refine r_aload_n (q122 (i := 99) rfl) l0 ?_
    refine r_cV (d := _) (q122 (i := 100) rfl) rfl rfl rfl (k_47 S) (Nat.le_of_ble_eq_true rfl) (Nat.zero_le _) (Nat.zero_le _) Rn ?_
    show Wp _ _ _ 177 ls [.int 0] h2 _ _
    refine r_if 235 (q122 (i := 101) rfl) (by decide) (fun _ => ?_) (fun zz => absurd (show (0 : Int32) = 0 from by decide) zz)
    refine r_iconst (v := 0) (q122 (i := 131) rfl) (by decide) ?_
    exact r_zret (q122 (i := 132) rfl) rfl (by decide) hQ
