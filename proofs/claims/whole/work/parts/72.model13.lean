def O1 (h : hp) (B : Nat → Int32) (z n M O N i : Nat) (s : pst) : Prop := LSt h B z n M O O i s ∧ (s.2.2.1.2.2 = O + 2 * i ∧ s.2.2.2.2.2 = i + 1) ∧ (R0 h i s ∧ RE h n i s) ∧ hI h 1075 4 = nI N
def O3 (h : hp) (B : Nat → Int32) (z n M O N i : Nat) (s : pst) : Prop := LSt h B z n M O O i s ∧ (s.2.2.1.2.2 = O + 2 * i + 1 ∧ s.2.2.2.2.2 = i + 1) ∧ (R0 h i s ∧ RD h n i s ∧ RV h O i 0 s) ∧ hI h 1075 4 = nI N
def O5 (h : hp) (B : Nat → Int32) (z n M O N i : Nat) (s : pst) : Prop := LSt h B z n M O O i s ∧ (s.2.2.1.2.2 = O + 2 * i + 2 ∧ s.2.2.2.2.2 = i + 1) ∧ (R0 h i s ∧ RD h n i s ∧ RU h O i 0 s ∧ RV h O i 1 s) ∧ hI h 1075 4 = nI N
theorem e29_RE {h h' : hp} {n i : Nat} {s : pst} (e : hI h' 47 29 = hI h 47 29) (r : RE h n i s) : RE h' n i s := by
  obtain ⟨v, a, b, c, d⟩ := r
  exact ⟨v, a, b, by rw [e]; exact c, d⟩
theorem e29_RV {h h' : hp} {O i j : Nat} {s : pst} (F : FrT2 h h') (e : hI h' 47 29 = hI h 47 29) (r : RV h O i j s) : RV h' O i j s := ⟨by rw [e]; exact r.1, by rw [(F.A i).2]; exact r.2.1, r.2.2⟩
set_option maxHeartbeats 2000000 in
set_option maxRecDepth 10000 in
theorem la_line {d : Nat} {B : Nat → Int32} {z n M O N i : Nat} (hn : n ≤ 12) (hN : N ≤ 119) (hi : i < N) {h : hp} {s : pst} (hN4 : hI h 1075 4 = nI N) (L : LSt h B z n M O O i s) (hu : s.2.2.1.2.2 = O + 2 * i) (hc : s.2.2.2.2.2 = i) : LRes (Fline B z (2 * M + 1) n s) h (fun h1 s1 => O5 h1 B z n M O N i s1) (fun Q bc bs => ∀ ls : List (Nat × Value), ls.lookup 1 = some (.int (nI i)) → ls.lookup 0 = some (.ref 47) → Wp (Ex (d + 2)) 122 Q 144 ls [] h bc bs) (fun h Q bc bs => ∀ ls : List (Nat × Value), ls.lookup 2 = some (.int 2) → ls.lookup 1 = some (.int (nI i)) → ls.lookup 0 = some (.ref 47) → Wp (Ex (d + 2)) 122 Q 237 ls [] h bc bs) := by
  have hd : ∀ {h0 h1 : hp}, hI h0 1075 4 = nI N → FrLn h0 h1 → hI h1 1075 4 = nI N := fun e F => by rw [F.2.1 1075 (by decide) (by decide)]; exact e
  have A1 : LRes (Fdef B z (2 * M + 1) (n + 1 + s.2.2.2.2.2) (Fap s)) h (fun h1 s1 => O1 h1 B z n M O N i s1) _ _ := LR_ok (LR_and (la_def (d := d) hn hN hi hN4 L hu hc) (fun h1 F => hd hN4 F)) (fun h1 s1 o => ⟨o.1.1, o.1.2.1, o.1.2.2, o.2⟩)
  have A2 := LRes.bind (f := Fex B z 32) (OK2 := fun h1 s1 => O1 h1 B z n M O N i s1) A1 (fun s1 h1 o => LR_ok (li_is3_0 (d := d) (i := i) o.1 (X := fun h2 => (R0 h2 i s1 ∧ RE h2 n i s1) ∧ hI h2 1075 4 = nI N) (fun h2 F e29 => ⟨⟨o.2.2.1.1.to (by rw [(F.A i).2]) rfl, e29_RE e29 o.2.2.1.2⟩, hd o.2.2.2 F.L⟩)) (fun h2 s2 o2 => by
    obtain ⟨p1, p2, p3⟩ := o2
    refine ⟨p1, by rw [p3]; exact o.2.1, ⟨by unfold R0; rw [p3]; exact p2.1.1, by unfold RE; rw [p3]; exact p2.1.2⟩, p2.2⟩))
  have A3 := LRes.bind (f := Fuse B z (2 * M + 1)) (OK2 := fun h1 s1 => O3 h1 B z n M O N i s1) A2 (fun s1 h1 o => LR_ok (LR_and (la_use0 (d := d) hN hi o.1 o.2.1.1 o.2.2.1.1 o.2.2.1.2) (fun h2 F => hd o.2.2.2 F)) (fun h2 s2 o2 => ⟨o2.1.1, ⟨o2.1.2.1.1, by rw [o2.1.2.1.2]; exact o.2.1.2⟩, o2.1.2.2, o2.2⟩))
  have A4 := LRes.bind (f := Fex B z 32) (OK2 := fun h1 s1 => O3 h1 B z n M O N i s1) A3 (fun s1 h1 o => LR_ok (li_is3_1 (d := d) (i := i) o.1 (X := fun h2 => (R0 h2 i s1 ∧ RD h2 n i s1 ∧ RV h2 O i 0 s1) ∧ hI h2 1075 4 = nI N) (fun h2 F e29 => ⟨⟨o.2.2.1.1.to (by rw [(F.A i).2]) rfl, o.2.2.1.2.1.to (by rw [(F.A i).1]) rfl, e29_RV F e29 o.2.2.1.2.2⟩, hd o.2.2.2 F.L⟩)) (fun h2 s2 o2 => by
    obtain ⟨p1, p2, p3⟩ := o2
    refine ⟨p1, by rw [p3]; exact o.2.1, ⟨by unfold R0; rw [p3]; exact p2.1.1, by unfold RD; rw [p3]; exact p2.1.2.1, by unfold RV; rw [p3]; exact p2.1.2.2⟩, p2.2⟩))
  have A5 := LRes.bind (f := Fuse B z (2 * M + 1)) (OK2 := fun h1 s1 => O5 h1 B z n M O N i s1) A4 (fun s1 h1 o => LR_ok (LR_and (la_use1 (d := d) hN hi o.1 o.2.1.1 o.2.2.1.1 o.2.2.1.2.1 o.2.2.1.2.2) (fun h2 F => hd o.2.2.2 F)) (fun h2 s2 o2 => ⟨o2.1.1, ⟨o2.1.2.1.1, by rw [o2.1.2.1.2]; exact o.2.1.2⟩, o2.1.2.2, o2.2⟩))
  exact LRes.bind (f := Fex B z 10) (OK2 := fun h1 s1 => O5 h1 B z n M O N i s1) A5 (fun s1 h1 o => LR_ok (li_is3_2 (d := d) (i := i) o.1 (X := fun h2 => (R0 h2 i s1 ∧ RD h2 n i s1 ∧ RU h2 O i 0 s1 ∧ RV h2 O i 1 s1) ∧ hI h2 1075 4 = nI N) (fun h2 F e29 => ⟨⟨o.2.2.1.1.to (by rw [(F.A i).2]) rfl, o.2.2.1.2.1.to (by rw [(F.A i).1]) rfl, by unfold RU; rw [(F.A i).1, (F.A i).2]; exact o.2.2.1.2.2.1, e29_RV F e29 o.2.2.1.2.2.2⟩, hd o.2.2.2 F.L⟩)) (fun h2 s2 o2 => by
    obtain ⟨p1, p2, p3⟩ := o2
    refine ⟨p1, by rw [p3]; exact o.2.1, ⟨by unfold R0; rw [p3]; exact p2.1.1, by unfold RD; rw [p3]; exact p2.1.2.1, by unfold RU; rw [p3]; exact p2.1.2.2.1, by unfold RV; rw [p3]; exact p2.1.2.2.2⟩, p2.2⟩))
set_option maxHeartbeats 2000000 in
set_option maxRecDepth 10000 in
theorem lp_la {d : Nat} {B : Nat → Int32} {z n M O N : Nat} (hn : n ≤ 12) (hN : N ≤ 119) : ∀ (m i : Nat) (s : pst) (h : hp), i + m = N → hI h 1075 4 = nI N → LSt h B z n M O O i s → s.2.2.1.2.2 = O + 2 * i → s.2.2.2.2.2 = i → LRes (Fands B z (2 * M + 1) n m s) h (fun h1 s1 => LSt h1 B z n M O O N s1 ∧ s1.2.2.1.2.2 = O + 2 * N ∧ s1.2.2.2.2.2 = N) (fun Q bc bs => ∀ ls : List (Nat × Value), ls.lookup 1 = some (.int (nI i)) → ls.lookup 0 = some (.ref 47) → Wp (Ex (d + 2)) 122 Q 144 ls [] h bc bs) (fun h Q bc bs => ∀ ls : List (Nat × Value), ls.lookup 0 = some (.ref 47) → Wp (Ex (d + 2)) 122 Q 261 ls [] h bc bs) := by
  intro m
  induction m with
  | zero =>
    intro i s h hm hN4 L hu hc
    have e : i = N := by omega
    subst e
    have S := L.1.1
    refine ⟨h, ⟨L, hu, hc⟩, FrLn.rf h, fun Q bc bs kk ls l1 l0 => ?_⟩
    refine r_iload_n (q122 (i := 80) rfl) l1 ?_
    refine r_aload_n (q122 (i := 81) rfl) l0 ?_
    refine r_getR (b := 1075) (q122 (i := 82) rfl) rfl (by decide) (k_47 S) (fun _ _ _ => rfl) (r_47_30 S) ?_
    refine r_iconst (v := 4) (q122 (i := 83) rfl) (by decide) ?_
    refine r_iaload (x := nI i) (q122 (i := 84) rfl) (k_1075 S) (vp_in_nI (n := 4) (by decide) (by decide)) hN4 ?_
    refine r_icmp 261 (q122 (i := 85) rfl) (by decide) (fun _ => ?_) (fun zz => absurd (show nI i ≤ nI i from Int32.le_refl _) zz)
    exact kk ls l0
  | succ m ih =>
    intro i s h hm hN4 L hu hc
    refine LRes.bind (la_line (d := d) hn hN (by omega) hN4 L hu hc) (fun s6 h6 o => ?_)
    obtain ⟨L6, ⟨u6, c6⟩, ⟨r0, rd, ru, rv⟩, h4⟩ := o
    have S := L6.1.1
    have i7 : ∀ k, k ≠ 1080 + i → hI (sI h6 (1080 + i) 2 (nI (s6.2.2.1.1 (O + 2 * i + 1)))) k = hI h6 k := fun k hk => by
      show u2 h6.1 (1080 + i) _ _ k = _
      rw [u2_n hk]
    have n7 : ∀ q, q ≠ 2 → hI (sI h6 (1080 + i) 2 (nI (s6.2.2.1.1 (O + 2 * i + 1)))) (1080 + i) q = hI h6 (1080 + i) q := fun q hq => by
      show u2 h6.1 (1080 + i) _ _ (1080 + i) q = _
      rw [u2_s, u1_n hq]
    have L7 : LSt (sI h6 (1080 + i) 2 (nI (s6.2.2.1.1 (O + 2 * i + 1)))) B z n M O O (i + 1) s6 := by
      refine ⟨⟨S.to rfl, ⟨by rw [i7 1074 (by omega)]; exact L6.1.2.1.1, by rw [i7 47 (by omega)]; exact L6.1.2.1.2.1, L6.1.2.1.2.2⟩, by rw [i7 1075 (by omega)]; exact L6.1.2.2.1, L6.1.2.2.2⟩, by show (hI _ 47 28 = 0 ∧ hI _ 47 26 = -1) ∧ _; rw [i7 47 (by omega)]; exact L6.2.1, fun v hv => by rw [i7 1077 (by omega), i7 1078 (by omega)]; exact L6.2.2.1 v hv, fun j hj => by rw [i7 1321 (by omega), i7 1322 (by omega)]; exact L6.2.2.2.1 j hj, fun k hk => ?_⟩
      by_cases e : k = i
      · subst e
        obtain ⟨v, a1, a2, a3, a4⟩ := rd
        refine ⟨⟨v, a1, a2, by rw [n7 0 (by decide)]; exact a3, a4⟩, ⟨by rw [i7 (1201 + k) (by omega)]; exact r0.1, r0.2⟩, fun j hj => ?_⟩
        rw [i7 (1201 + k) (by omega)]
        rcases (show j = 0 ∨ j = 1 by omega) with w | w
        · subst w
          rw [n7 (1 + 0) (by decide)]
          exact ru
        · subst w
          refine ⟨?_, rv.2⟩
          show u2 h6.1 (1080 + k) 2 (nI (s6.2.2.1.1 (O + 2 * k + 1))) (1080 + k) 2 = _
          rw [u2_s, u1_s]
      · rw [i7 (1080 + k) (by omega), i7 (1201 + k) (by omega)]
        exact L6.2.2.2.2 k (by omega)
    refine LRes.pre (FrLn.w (a := 1080 + i) (by omega) 2 (nI (s6.2.2.1.1 (O + 2 * i + 1)))) (LRes.en (ih (i + 1) s6 (sI h6 (1080 + i) 2 (nI (s6.2.2.1.1 (O + 2 * i + 1)))) (by omega) (by rw [i7 1075 (by omega)]; exact h4) L7 (by rw [u6]; omega) c6) (fun Q bc bs y ls l2 l1 l0 => ?_))
    refine r_aload_n (q122 (i := 133) rfl) l0 ?_
    refine r_getR (b := 1079) (q122 (i := 134) rfl) rfl (by decide) (k_47 S) (fun _ _ _ => rfl) (r_47_34 S) ?_
    refine r_iload_n (q122 (i := 135) rfl) l1 ?_
    refine r_aa5N (q122 (i := 136) rfl) (k_1079 S) (by omega) (by decide) (rAnd S (by omega)) ?_
    refine r_iload_n (q122 (i := 137) rfl) l2 ?_
    refine r_aload_n (q122 (i := 138) rfl) l0 ?_
    refine r_getI (x := nI (s6.2.2.1.1 (O + 2 * i + 1))) (q122 (i := 139) rfl) rfl (by decide) (k_47 S) (fun _ _ _ => rfl) rv.1 ?_
    refine r_iastore (q122 (i := 140) rfl) (kAnd S (x := i) (by omega)) (vp_in_nI (n := 2) (by decide) (by decide)) ?_
    show Wp _ _ _ _ _ _ (sI h6 (1080 + i) 2 (nI (s6.2.2.1.1 (O + 2 * i + 1)))) _ _
    refine r_iinc (y := 3) (q122 (i := 141) rfl) (Nat.le_of_ble_eq_true rfl) l2 (by decide) rfl ?_
    have l1 := lk1 (k := 2) (v := .int 3) l1 (by decide) (Or.inl rfl)
    have l0 := lk1 (k := 2) (v := .int 3) l0 (by decide) (Or.inr (by decide))
    have l2 := lk0 ls 2 (.int 3)
    generalize lset1 ls 2 (.int 3) = ls at l2 l1 l0 ⊢
    refine r_goto 156 (q122 (i := 142) rfl) (by decide) ?_
    refine r_iload_n (q122 (i := 88) rfl) l2 ?_
    refine r_iconst (v := 3) (q122 (i := 89) rfl) (by decide) ?_
    refine r_icmp 255 (q122 (i := 90) rfl) (by decide) (fun _ => ?_) (fun zz => absurd (show 3 ≤ (3 : Int32) from by decide) zz)
    refine r_iinc (y := nI (i + 1)) (q122 (i := 143) rfl) (Nat.le_of_ble_eq_true rfl) l1 (nI_1 i) rfl ?_
    have l2 := lk1 (k := 1) (v := .int (nI (i + 1))) l2 (by decide) (Or.inr (by decide))
    have l0 := lk1 (k := 1) (v := .int (nI (i + 1))) l0 (by decide) (Or.inl rfl)
    have l1 := lk0 ls 1 (.int (nI (i + 1)))
    generalize lset1 ls 1 (.int (nI (i + 1))) = ls at l1 l2 l0 ⊢
    refine r_goto 144 (q122 (i := 144) rfl) (by decide) ?_
    exact y ls l1 l0
set_option maxHeartbeats 2000000 in
set_option maxRecDepth 10000 in
theorem la_end {d : Nat} {B : Nat → Int32} {z n M O N : Nat} {h : hp} {s : pst} (L : LSt h B z n M O O N s) (hu : s.2.2.1.2.2 = O + 2 * N) (hc : s.2.2.2.2.2 = N) : LRes (Fend z s) h (fun h1 s1 => LSt h1 B z n M O O N s1 ∧ s1.2.2.1.2.2 = O + 2 * N ∧ s1.2.2.2.2.2 = N) (fun Q bc bs => ∀ ls : List (Nat × Value), ls.lookup 0 = some (.ref 47) → Wp (Ex (d + 2)) 122 Q 261 ls [] h bc bs) (fun h Q bc bs => Q (some (.int 1)) h) := by
  have S := L.1.1
  have hz := L.1.2.1.2.2.1
  have ha := L.2.1.2.2
  unfold Fend
  by_cases q : s.1 < z
  · rw [if_pos q]
    obtain ⟨h1, R1, f1, F1, _⟩ := sp_fails (d := d + 1) S (t := none) L.2.1.1 (f := 1) (p := s.1) (by decide) (by omega)
    refine ⟨h1, ⟨f1, F1.S S⟩, F1.L, fun Q bc bs hQ ls l0 => ?_⟩
    refine r_aload_n (q122 (i := 145) rfl) l0 ?_
    refine r_getI (x := nI s.1) (q122 (i := 146) rfl) rfl (by decide) (k_47 S) (fun _ _ _ => rfl) L.2.1.2.1 ?_
    refine r_aload_n (q122 (i := 147) rfl) l0 ?_
    refine r_getI (x := nI z) (q122 (i := 148) rfl) rfl (by decide) (k_47 S) (fun _ _ _ => rfl) L.1.2.1.2.1 ?_
    refine r_icmp 284 (q122 (i := 149) rfl) (by decide) (fun zz => absurd zz (show ¬ (nI s.1 = nI z) from neN (by omega) (by omega) (by omega))) (fun _ => ?_)
    refine r_aload_n (q122 (i := 150) rfl) l0 ?_
    refine r_iconst (v := 1) (q122 (i := 151) rfl) (by decide) ?_
    refine r_aload_n (q122 (i := 152) rfl) l0 ?_
    refine r_getI (x := nI s.1) (q122 (i := 153) rfl) rfl (by decide) (k_47 S) (fun _ _ _ => rfl) L.2.1.2.1 ?_
    refine r_cV (d := _) (q122 (i := 154) rfl) rfl rfl rfl (k_47 S) (Nat.le_of_ble_eq_true rfl) (Nat.zero_le _) (Nat.zero_le _) R1 ?_
    show Wp _ _ _ 281 ls [.int 0] h1 _ _
    refine r_if 288 (q122 (i := 155) rfl) (by decide) (fun _ => ?_) (fun zz => absurd (show (0 : Int32) = 0 from by decide) zz)
    refine r_iconst (v := 0) (q122 (i := 158) rfl) (by decide) ?_
    exact r_zret (q122 (i := 159) rfl) rfl (by decide) hQ
  · rw [if_neg q]
    refine ⟨h, ⟨L, hu, hc⟩, FrLn.rf h, fun Q bc bs hQ ls l0 => ?_⟩
    refine r_aload_n (q122 (i := 145) rfl) l0 ?_
    refine r_getI (x := nI s.1) (q122 (i := 146) rfl) rfl (by decide) (k_47 S) (fun _ _ _ => rfl) L.2.1.2.1 ?_
    refine r_aload_n (q122 (i := 147) rfl) l0 ?_
    refine r_getI (x := nI z) (q122 (i := 148) rfl) rfl (by decide) (k_47 S) (fun _ _ _ => rfl) L.1.2.1.2.1 ?_
    refine r_icmp 284 (q122 (i := 149) rfl) (by decide) (fun _ => ?_) (fun zz => absurd (show nI s.1 = nI z from by rw [show s.1 = z by omega]) zz)
    refine r_iconst (v := 1) (q122 (i := 156) rfl) (by decide) ?_
    refine r_goto 289 (q122 (i := 157) rfl) (by decide) ?_
    exact r_zret (q122 (i := 159) rfl) rfl (by decide) hQ
set_option maxHeartbeats 2000000 in
set_option maxRecDepth 10000 in
theorem lp_lcl {d : Nat} {h : hp} (S : Sh h) {Q : resP} {bc bs : Nat} (hk : ∀ ls : List (Nat × Value), ls.lookup 0 = some (.ref 47) → Wp (Ex d) 122 Q 22 ls [] (rI h 1077 (filI (hI h 1077) 0 1002)) bc bs) : ∀ (m i : Nat), i + m = 1002 → ∀ ls : List (Nat × Value), ls.lookup 1 = some (.int (nI i)) → ls.lookup 0 = some (.ref 47) → Wp (Ex d) 122 Q 2 ls [] (rI h 1077 (filI (hI h 1077) 0 i)) bc bs := by
  intro m
  induction m with
  | zero =>
    intro i hm ls l1 l0
    have e : i = 1002 := by omega
    subst e
    refine r_iload_n (q122 (i := 2) rfl) l1 ?_
    refine r_sipush (v := 1002) (q122 (i := 3) rfl) (by decide) ?_
    refine r_icmp 22 (q122 (i := 4) rfl) (by decide) (fun _ => ?_) (fun zz => absurd (show 1002 ≤ nI 1002 from Int32.le_refl _) zz)
    exact hk ls l0
  | succ m ih =>
    intro i hm ls l1 l0
    have S2 : Sh (rI h 1077 (filI (hI h 1077) 0 i)) := S.to rfl
    refine r_iload_n (q122 (i := 2) rfl) l1 ?_
    refine r_sipush (v := 1002) (q122 (i := 3) rfl) (by decide) ?_
    refine r_icmp 22 (q122 (i := 4) rfl) (by decide) (fun zz => absurd zz (show ¬ (1002 ≤ nI i) from nI_ge (b := 1002) (by omega) (by decide))) (fun _ => ?_)
    refine r_aload_n (q122 (i := 5) rfl) l0 ?_
    refine r_getR (b := 1077) (q122 (i := 6) rfl) rfl (by decide) (k_47 S2) (fun _ _ _ => rfl) (r_47_32 S2) ?_
    refine r_iload_n (q122 (i := 7) rfl) l1 ?_
    refine r_iconst (v := 0) (q122 (i := 8) rfl) (by decide) ?_
    refine r_iasN (q122 (i := 9) rfl) (k_1077 S2) (by omega) (by decide) ?_
    refine r_iinc (y := nI (i + 1)) (q122 (i := 10) rfl) (Nat.le_of_ble_eq_true rfl) l1 (nI_1 i) rfl ?_
    have l0 := lk1 (k := 1) (v := .int (nI (i + 1))) l0 (by decide) (Or.inl rfl)
    have l1 := lk0 ls 1 (.int (nI (i + 1)))
    generalize lset1 ls 1 (.int (nI (i + 1))) = ls at l1 l0 ⊢
    refine r_goto 2 (q122 (i := 11) rfl) (by decide) ?_
    rw [sI_rI, filI_s]
    exact ih (i + 1) (by omega) ls l1 l0
set_option maxHeartbeats 2000000 in
set_option maxRecDepth 10000 in
theorem sp_lines {d : Nat} {B : Nat → Int32} {z n : Nat} {hv : Nat → Nat} (hn : n ≤ 12) (h0 : hv 0 ≤ 1000) (h1v : hv 1 = n) (h3 : hv 3 ≤ 10) (h4 : hv 4 ≤ 119) {h : hp} (S : Sh h) (T : TM h B z) (ft : FTM h none) {a : Nat} (ea : hI h 47 27 = nI a) (ha : a ≤ z) (hd : ∀ i, i < 5 → hI h 1075 i = nI (hv i)) : LRes (Flines B z n hv (a, s00.2)) h (fun h1 s1 => LSt h1 B z n (hv 0) (hv 3) (hv 3) (hv 4) s1 ∧ s1.2.2.1.2.2 = hv 3 + 2 * hv 4 ∧ s1.2.2.2.2.2 = hv 4) (fun Q bc bs => Wp (Ex (d + 2)) 122 Q 0 [(0, .ref 47)] [] h bc bs) (fun h Q bc bs => Q (some (.int 1)) h) := by
  obtain ⟨h1, e1⟩ : ∃ x, x = rI h 1077 (filI (hI h 1077) 0 1002) := ⟨_, rfl⟩
  have i1 : ∀ k, k ≠ 1077 → hI h1 k = hI h k := fun k hk => by
    rw [e1]
    show u1 h.1 1077 _ k = _
    rw [u1_n hk]
  have e12 : h1.2 = h.2 := by rw [e1]; rfl
  have F1 : FrLn h h1 := ⟨e12, fun k a _ => i1 k (by omega), fun k a => i1 k (by omega), fun j _ => by rw [i1 47 (by decide)]⟩
  have S1 := F1.S S
  have hd1 : ∀ i, i < 5 → hI h1 1075 i = nI (hv i) := fun i hi => by rw [i1 1075 (by decide)]; exact hd i hi
  have L1 : LSt h1 B z n (hv 0) (hv 3) 0 0 (a, s00.2) := ⟨⟨S1, ⟨by rw [i1 1074 (by decide)]; exact T.1, by rw [i1 47 (by decide)]; exact T.2.1, T.2.2⟩, hd1 0 (by decide), h0⟩, by show (hI h1 47 28 = 0 ∧ hI h1 47 26 = -1) ∧ _; rw [i1 47 (by decide)]; exact ⟨ft, ea, ha⟩, fun v hv => ⟨by
    rw [e1]
    show filI (hI h 1077) 0 1002 v = nI 0
    exact if_pos hv, fun y => absurd rfl y⟩, fun i hi => absurd hi (Nat.not_lt_zero i), fun i hi => absurd hi (Nat.not_lt_zero i)⟩
  refine LRes.pre F1 (LRes.en (en := fun Q bc bs => ∀ ls : List (Nat × Value), ls.lookup 0 = some (.ref 47) → Wp (Ex (d + 2)) 122 Q 22 ls [] h1 bc bs) ?_ (fun Q bc bs y => ?_))
  · have R1 := LR_and (lp_li (d := d) (O := hv 3) hn n 0 (a, s00.2) h1 (Nat.zero_add _) (by rw [hd1 1 (by decide), h1v]) L1) (X := fun h2 => hI h2 1075 3 = nI (hv 3) ∧ hI h2 1075 4 = nI (hv 4)) (fun h2 F => by rw [F.2.1 1075 (by decide) (by decide)]; exact ⟨hd1 3 (by decide), hd1 4 (by decide)⟩)
    have R1' : LRes (Fins B z (2 * hv 0 + 1) n 0 (a, s00.2)) h1 (fun h2 s => (LSt h2 B z n (hv 0) (hv 3) 0 0 s ∧ s.2.2 = s00.2.2) ∧ (hI h2 1075 3 = nI (hv 3) ∧ hI h2 1075 4 = nI (hv 4))) (fun Q bc bs => ∀ ls : List (Nat × Value), ls.lookup 0 = some (.ref 47) → Wp (Ex (d + 2)) 122 Q 22 ls [] h1 bc bs) (fun h Q bc bs => ∀ ls : List (Nat × Value), ls.lookup 0 = some (.ref 47) → Wp (Ex (d + 2)) 122 Q 73 ls [] h bc bs) := by
      have q := Fins_ok (B := B) (z := z) (H := 2 * hv 0 + 1) n 0 (a, s00.2)
      unfold LRes at R1 ⊢
      cases r : Fins B z (2 * hv 0 + 1) n 0 (a, s00.2) with
      | error e =>
        rw [r] at R1
        obtain ⟨h2, o, F, k⟩ := R1
        refine ⟨h2, o, F, fun Q bc bs hQ ls l0 => ?_⟩
        have y := k Q bc bs hQ
        refine r_iconst (v := nI 0) (q122 (i := 12) rfl) (by decide) ?_
        refine r_istore_n (ls' := lset1 ls 1 (.int (nI 0))) (q122 (i := 13) rfl) (Nat.le_of_ble_eq_true rfl) rfl ?_
        have l0 := lk1 (k := 1) (v := .int (nI 0)) l0 (by decide) (Or.inl rfl)
        have l1 := lk0 ls 1 (.int (nI 0))
        generalize lset1 ls 1 (.int (nI 0)) = ls at l1 l0 ⊢
        exact y _ l1 l0
      | ok s =>
        rw [r] at R1
        obtain ⟨h2, o, F, k⟩ := R1
        refine ⟨h2, ⟨⟨o.1, q s r⟩, o.2⟩, F, fun Q bc bs kk ls l0 => ?_⟩
        have y := k Q bc bs kk
        refine r_iconst (v := nI 0) (q122 (i := 12) rfl) (by decide) ?_
        refine r_istore_n (ls' := lset1 ls 1 (.int (nI 0))) (q122 (i := 13) rfl) (Nat.le_of_ble_eq_true rfl) rfl ?_
        have l0 := lk1 (k := 1) (v := .int (nI 0)) l0 (by decide) (Or.inl rfl)
        have l1 := lk0 ls 1 (.int (nI 0))
        generalize lset1 ls 1 (.int (nI 0)) = ls at l1 l0 ⊢
        exact y _ l1 l0
    refine LRes.bind (f := Fend z) (OK1 := fun h1 s1 => LSt h1 B z n (hv 0) (hv 3) (hv 3) (hv 4) s1 ∧ s1.2.2.1.2.2 = hv 3 + 2 * hv 4 ∧ s1.2.2.2.2.2 = hv 4) (mid := fun h Q bc bs => ∀ ls : List (Nat × Value), ls.lookup 0 = some (.ref 47) → Wp (Ex (d + 2)) 122 Q 261 ls [] h bc bs) ?_ (fun s h o => la_end o.1 o.2.1 o.2.2)
    refine LRes.bind (f := Fands B z (2 * hv 0 + 1) n (hv 4)) (OK1 := fun h1 s1 => (LSt h1 B z n (hv 0) (hv 3) (hv 3) 0 s1 ∧ s1.2.2.1.2.2 = hv 3 ∧ s1.2.2.2.2 = s00.2.2.2.2) ∧ hI h1 1075 4 = nI (hv 4)) (mid := fun h Q bc bs => ∀ ls : List (Nat × Value), ls.lookup 0 = some (.ref 47) → Wp (Ex (d + 2)) 122 Q 142 ls [] h bc bs) ?_ (fun s h3 o => ?_)
    · refine LRes.bind R1' (fun s h2 o => ?_)
      refine LRes.en (LR_ok (LR_and (lp_lo (d := d) h3 (hv 3) 0 s h2 (Nat.zero_add _) o.2.1 o.1.1 (by rw [o.1.2]; rfl)) (X := fun h3 => hI h3 1075 4 = nI (hv 4)) (fun h3 F => by rw [F.2.1 1075 (by decide) (by decide)]; exact o.2.2)) (fun h3 s3 o3 => ⟨⟨o3.1.1, o3.1.2.1, by rw [o3.1.2.2, o.1.2]⟩, o3.2⟩)) (fun Q bc bs y ls l0 => ?_)
      · have S := o.1.1.1.1
        refine r_iconst (v := nI 0) (q122 (i := 40) rfl) (by decide) ?_
        refine r_istore_n (ls' := lset1 ls 1 (.int (nI 0))) (q122 (i := 41) rfl) (Nat.le_of_ble_eq_true rfl) rfl ?_
        have l0 := lk1 (k := 1) (v := .int (nI 0)) l0 (by decide) (Or.inl rfl)
        have l1 := lk0 ls 1 (.int (nI 0))
        generalize lset1 ls 1 (.int (nI 0)) = ls at l1 l0 ⊢
        exact y _ l1 l0
    · refine LRes.en (lp_la (d := d) hn h4 (hv 4) 0 s h3 (Nat.zero_add _) o.2 o.1.1 o.1.2.1 (by rw [o.1.2.2]; rfl)) (fun Q bc bs y ls l0 => ?_)
      · have S := o.1.1.1.1
        refine r_iconst (v := nI 0) (q122 (i := 78) rfl) (by decide) ?_
        refine r_istore_n (ls' := lset1 ls 1 (.int (nI 0))) (q122 (i := 79) rfl) (Nat.le_of_ble_eq_true rfl) rfl ?_
        have l0 := lk1 (k := 1) (v := .int (nI 0)) l0 (by decide) (Or.inl rfl)
        have l1 := lk0 ls 1 (.int (nI 0))
        generalize lset1 ls 1 (.int (nI 0)) = ls at l1 l0 ⊢
        exact y _ l1 l0
  · have K1 := lp_lcl (d := d + 2) (Q := Q) (bc := bc) (bs := bs) S (fun ls l0 => by rw [← e1]; exact y ls l0) 1002 0 rfl
    rw [filI_0, rI_self] at K1
    refine r_iconst (v := nI 0) (q122 (i := 0) rfl) (by decide) ?_
    refine r_istore_n (ls' := [(1, .int (nI 0)), (0, .ref 47)]) (q122 (i := 1) rfl) (Nat.le_of_ble_eq_true rfl) rfl ?_
    exact K1 _ rfl rfl
set_option maxHeartbeats 2000000 in
set_option maxRecDepth 10000 in
theorem sp_isDef {d : Nat} {h : hp} (S : Sh h) {n : Nat} {D : Nat → Nat} (dm : DM h n D) {lit : Nat} (hl : lit ≤ 2001) : Run (d + 1) 124 [.ref 47, .int (nI lit)] h 0 0 (some (.int (if lit < 2 ∨ D (lit / 2) ≠ 0 then 1 else 0))) h := by
  refine Run.of (Nat.le_of_ble_eq_true rfl) (fun Q hQ => ?_)
  show Wp (Ex (d)) 124 Q 0 [(0, .ref 47), (1, .int (nI lit))] [] h 0 0
  refine r_iload_n (q124 (i := 0) rfl) rfl ?_
  refine r_iconst (v := 2) (q124 (i := 1) rfl) (by decide) ?_
  refine r_icmp 16 (q124 (i := 2) rfl) (by decide) (fun c2 => ?_) (fun c2 => ?_)
  · have c2 : nI lit < 2 := c2
    have e1 : lit < 2 := (nI_ltI (b := 2) (by omega) (by decide)).mp c2
    rw [if_pos (Or.inl e1)] at hQ
    refine r_iconst (v := 1) (q124 (i := 10) rfl) (by decide) ?_
    refine r_goto 21 (q124 (i := 11) rfl) (by decide) ?_
    exact r_zret (q124 (i := 13) rfl) rfl (by decide) hQ
  · have c2 : ¬ (nI lit < 2) := c2
    have e1 : ¬ lit < 2 := fun y => c2 (nI_lt (b := 2) y (by decide))
    refine r_aload_n (q124 (i := 3) rfl) rfl ?_
    refine r_getR (b := 1077) (q124 (i := 4) rfl) rfl (by decide) (k_47 S) (fun _ _ _ => rfl) (r_47_32 S) ?_
    refine r_iload_n (q124 (i := 5) rfl) rfl ?_
    refine r_iconst (v := 2) (q124 (i := 6) rfl) (by decide) ?_
    refine r_idiv (q124 (i := 7) rfl) (by decide) ?_
    rw [show ((nI lit) / 2 : Int32) = nI (lit / 2) from div2 (by omega)]
    refine r_iaN (x := nI (if D (lit / 2) = 0 then 0 else if D (lit / 2) ≤ n then 1 else 2)) (q124 (i := 8) rfl) (k_1077 S) (by omega) (by decide) ((dm (lit / 2) (by omega)).1) ?_
    refine r_if 20 (q124 (i := 9) rfl) (by decide) (fun c13 => ?_) (fun c13 => ?_)
    · have c13 : nI (if D (lit / 2) = 0 then 0 else if D (lit / 2) ≤ n then 1 else 2) = 0 := c13
      have e2 : D (lit / 2) = 0 := Classical.not_not.mp (fun y => by rw [if_neg y] at c13; split at c13 <;> exact absurd c13 (by decide))
      rw [if_neg (fun y => y.elim e1 (fun w => w e2))] at hQ
      refine r_iconst (v := 0) (q124 (i := 12) rfl) (by decide) ?_
      exact r_zret (q124 (i := 13) rfl) rfl (by decide) hQ
    · have c13 : ¬ (nI (if D (lit / 2) = 0 then 0 else if D (lit / 2) ≤ n then 1 else 2) = 0) := c13
      have e2 : D (lit / 2) ≠ 0 := fun y => c13 (by rw [if_pos y]; rfl)
      rw [if_pos (Or.inr e2)] at hQ
      refine r_iconst (v := 1) (q124 (i := 10) rfl) (by decide) ?_
      refine r_goto 21 (q124 (i := 11) rfl) (by decide) ?_
      exact r_zret (q124 (i := 13) rfl) rfl (by decide) hQ
theorem Fnd_s (m k : Nat) (s : pst) : Fnd (m + 1) k s = if s.2.2.1.1 k < 2 ∨ s.2.1 (s.2.2.1.1 k / 2) ≠ 0 then Fnd m (k + 1) s else .error (5, s.2.2.1.2.1 k) := by
  show (if 0 < s.2.2.1.1 k / 2 ∧ s.2.1 (s.2.2.1.1 k / 2) = 0 then _ else _) = _
  by_cases y : s.2.2.1.1 k < 2 ∨ s.2.1 (s.2.2.1.1 k / 2) ≠ 0
  · rw [if_pos y, if_neg (fun w => y.elim (fun u => by omega) (fun u => u w.2))]
  · rw [if_neg y, if_pos ⟨by
      have : ¬ s.2.2.1.1 k < 2 := fun u => y (Or.inl u)
      omega, Classical.not_not.mp (fun u => y (Or.inr u))⟩]
set_option maxHeartbeats 2000000 in
set_option maxRecDepth 10000 in
theorem lp_ad2 {d : Nat} {B : Nat → Int32} {z n M O N : Nat} (hN : N ≤ 119) {h : hp} {s : pst} (hN4 : hI h 1075 4 = nI N) (L : LSt h B z n M O O N s) : ∀ (m i : Nat), i + m = N → LRes (Fnd (2 * m) (O + 2 * i) s) h (fun h1 s1 => h1 = h ∧ s1 = s) (fun Q bc bs => ∀ ls : List (Nat × Value), ls.lookup 1 = some (.int (nI i)) → ls.lookup 0 = some (.ref 47) → Wp (Ex (d + 1)) 125 Q 45 ls [] h bc bs) (fun h Q bc bs => Q (some (.int 1)) h) := by
  have S := L.1.1
  intro m
  induction m with
  | zero =>
    intro i hm
    have e : i = N := by omega
    subst e
    refine ⟨h, ⟨rfl, rfl⟩, FrLn.rf h, fun Q bc bs hQ ls l1 l0 => ?_⟩
    refine r_iload_n (q125 (i := 27) rfl) l1 ?_
    refine r_aload_n (q125 (i := 28) rfl) l0 ?_
    refine r_getR (b := 1075) (q125 (i := 29) rfl) rfl (by decide) (k_47 S) (fun _ _ _ => rfl) (r_47_30 S) ?_
    refine r_iconst (v := 4) (q125 (i := 30) rfl) (by decide) ?_
    refine r_iaload (x := nI i) (q125 (i := 31) rfl) (k_1075 S) (vp_in_nI (n := 4) (by decide) (by decide)) hN4 ?_
    refine r_icmp 103 (q125 (i := 32) rfl) (by decide) (fun _ => ?_) (fun zz => absurd (show nI i ≤ nI i from Int32.le_refl _) zz)
    refine r_iconst (v := 1) (q125 (i := 61) rfl) (by decide) ?_
    exact r_zret (q125 (i := 62) rfl) rfl (by decide) hQ
  | succ m ih =>
    intro i hm
    obtain ⟨a1, a2, a3⟩ := L.2.2.2.2 i (by omega)
    have R1 := sp_isDef (d := d) S L.2.2.1 (a3 0 (by decide)).2.2.1
    have R2 := sp_isDef (d := d) S L.2.2.1 (a3 1 (by decide)).2.2.1
    rw [show 2 * (m + 1) = 2 * m + 1 + 1 by omega, Fnd_s]
    rw [show s.2.2.1.1 (O + 2 * i) = s.2.2.1.1 (O + 2 * i + 0) from rfl, show s.2.2.1.2.1 (O + 2 * i) = s.2.2.1.2.1 (O + 2 * i + 0) from rfl]
    by_cases y : s.2.2.1.1 (O + 2 * i + 0) < 2 ∨ s.2.1 (s.2.2.1.1 (O + 2 * i + 0) / 2) ≠ 0
    · rw [if_pos y] at R1 ⊢
      rw [Fnd_s]
      by_cases y2 : s.2.2.1.1 (O + 2 * i + 1) < 2 ∨ s.2.1 (s.2.2.1.1 (O + 2 * i + 1) / 2) ≠ 0
      · rw [if_pos y2] at R2 ⊢
        have R := ih (i + 1) (by omega)
        rw [show O + 2 * (i + 1) = O + 2 * i + 1 + 1 by omega] at R
        unfold LRes at R ⊢
        cases r : Fnd (2 * m) (O + 2 * i + 1 + 1) s with
        | error e =>
          rw [r] at R
          obtain ⟨h2, o, F, k⟩ := R
          refine ⟨h2, o, F, fun Q bc bs hQ ls l1 l0 => ?_⟩
          refine r_iload_n (q125 (i := 27) rfl) l1 ?_
          refine r_aload_n (q125 (i := 28) rfl) l0 ?_
          refine r_getR (b := 1075) (q125 (i := 29) rfl) rfl (by decide) (k_47 S) (fun _ _ _ => rfl) (r_47_30 S) ?_
          refine r_iconst (v := 4) (q125 (i := 30) rfl) (by decide) ?_
          refine r_iaload (x := nI N) (q125 (i := 31) rfl) (k_1075 S) (vp_in_nI (n := 4) (by decide) (by decide)) hN4 ?_
          refine r_icmp 103 (q125 (i := 32) rfl) (by decide) (fun zz => absurd zz (show ¬ (nI N ≤ nI i) from nI_ge (by omega) (by omega))) (fun _ => ?_)
          refine r_iconst (v := 1) (q125 (i := 33) rfl) (by decide) ?_
          refine r_istore_n (ls' := lset1 ls 2 (.int 1)) (q125 (i := 34) rfl) (Nat.le_of_ble_eq_true rfl) rfl ?_
          have l1 := lk1 (k := 2) (v := .int 1) l1 (by decide) (Or.inl rfl)
          have l0 := lk1 (k := 2) (v := .int 1) l0 (by decide) (Or.inr (by decide))
          have l2 := lk0 ls 2 (.int 1)
          generalize lset1 ls 2 (.int 1) = ls at l2 l1 l0 ⊢
          refine r_iload_n (q125 (i := 35) rfl) l2 ?_
          refine r_iconst (v := 3) (q125 (i := 36) rfl) (by decide) ?_
          refine r_icmp 97 (q125 (i := 37) rfl) (by decide) (fun zz => absurd zz (show ¬ (3 ≤ (1 : Int32)) from by decide)) (fun _ => ?_)
          refine r_aload_n (q125 (i := 38) rfl) l0 ?_
          refine r_aload_n (q125 (i := 39) rfl) l0 ?_
          refine r_getR (b := 1079) (q125 (i := 40) rfl) rfl (by decide) (k_47 S) (fun _ _ _ => rfl) (r_47_34 S) ?_
          refine r_iload_n (q125 (i := 41) rfl) l1 ?_
          refine r_aa5N (q125 (i := 42) rfl) (k_1079 S) (by omega) (by decide) (rAnd S (by omega)) ?_
          refine r_iload_n (q125 (i := 43) rfl) l2 ?_
          refine r_iaload (x := nI (s.2.2.1.1 (O + 2 * i + 0))) (q125 (i := 44) rfl) (kAnd S (x := i) (by omega)) (vp_in_nI (n := 1) (by decide) (by decide)) ((a3 0 (by decide)).1) ?_
          refine r_cV (d := _) (q125 (i := 45) rfl) rfl rfl rfl (k_47 S) (Nat.le_of_ble_eq_true rfl) (Nat.zero_le _) (Nat.zero_le _) R1 ?_
          show Wp _ _ _ 74 ls [.int 1] h _ _
          refine r_if 91 (q125 (i := 46) rfl) (by decide) (fun _ => ?_) (fun zz => absurd (show ¬ (1 : Int32) = 0 from by decide) zz)
          refine r_iinc (y := 2) (q125 (i := 57) rfl) (Nat.le_of_ble_eq_true rfl) l2 (by decide) rfl ?_
          have l1 := lk1 (k := 2) (v := .int 2) l1 (by decide) (Or.inl rfl)
          have l0 := lk1 (k := 2) (v := .int 2) l0 (by decide) (Or.inr (by decide))
          have l2 := lk0 ls 2 (.int 2)
          generalize lset1 ls 2 (.int 2) = ls at l2 l1 l0 ⊢
          refine r_goto 57 (q125 (i := 58) rfl) (by decide) ?_
          refine r_iload_n (q125 (i := 35) rfl) l2 ?_
          refine r_iconst (v := 3) (q125 (i := 36) rfl) (by decide) ?_
          refine r_icmp 97 (q125 (i := 37) rfl) (by decide) (fun zz => absurd zz (show ¬ (3 ≤ (2 : Int32)) from by decide)) (fun _ => ?_)
          refine r_aload_n (q125 (i := 38) rfl) l0 ?_
          refine r_aload_n (q125 (i := 39) rfl) l0 ?_
          refine r_getR (b := 1079) (q125 (i := 40) rfl) rfl (by decide) (k_47 S) (fun _ _ _ => rfl) (r_47_34 S) ?_
          refine r_iload_n (q125 (i := 41) rfl) l1 ?_
          refine r_aa5N (q125 (i := 42) rfl) (k_1079 S) (by omega) (by decide) (rAnd S (by omega)) ?_
          refine r_iload_n (q125 (i := 43) rfl) l2 ?_
          refine r_iaload (x := nI (s.2.2.1.1 (O + 2 * i + 1))) (q125 (i := 44) rfl) (kAnd S (x := i) (by omega)) (vp_in_nI (n := 2) (by decide) (by decide)) ((a3 1 (by decide)).1) ?_
          refine r_cV (d := _) (q125 (i := 45) rfl) rfl rfl rfl (k_47 S) (Nat.le_of_ble_eq_true rfl) (Nat.zero_le _) (Nat.zero_le _) R2 ?_
          show Wp _ _ _ 74 ls [.int 1] h _ _
          refine r_if 91 (q125 (i := 46) rfl) (by decide) (fun _ => ?_) (fun zz => absurd (show ¬ (1 : Int32) = 0 from by decide) zz)
          refine r_iinc (y := 3) (q125 (i := 57) rfl) (Nat.le_of_ble_eq_true rfl) l2 (by decide) rfl ?_
          have l1 := lk1 (k := 2) (v := .int 3) l1 (by decide) (Or.inl rfl)
          have l0 := lk1 (k := 2) (v := .int 3) l0 (by decide) (Or.inr (by decide))
          have l2 := lk0 ls 2 (.int 3)
          generalize lset1 ls 2 (.int 3) = ls at l2 l1 l0 ⊢
          refine r_goto 57 (q125 (i := 58) rfl) (by decide) ?_
          refine r_iload_n (q125 (i := 35) rfl) l2 ?_
          refine r_iconst (v := 3) (q125 (i := 36) rfl) (by decide) ?_
          refine r_icmp 97 (q125 (i := 37) rfl) (by decide) (fun _ => ?_) (fun zz => absurd (show 3 ≤ (3 : Int32) from by decide) zz)
          refine r_iinc (y := nI (i + 1)) (q125 (i := 59) rfl) (Nat.le_of_ble_eq_true rfl) l1 (nI_1 i) rfl ?_
          have l2 := lk1 (k := 1) (v := .int (nI (i + 1))) l2 (by decide) (Or.inr (by decide))
          have l0 := lk1 (k := 1) (v := .int (nI (i + 1))) l0 (by decide) (Or.inl rfl)
          have l1 := lk0 ls 1 (.int (nI (i + 1)))
          generalize lset1 ls 1 (.int (nI (i + 1))) = ls at l1 l2 l0 ⊢
          refine r_goto 45 (q125 (i := 60) rfl) (by decide) ?_
          exact k Q bc bs hQ ls l1 l0
        | ok t =>
          rw [r] at R
          obtain ⟨h2, o, F, k⟩ := R
          refine ⟨h2, o, F, fun Q bc bs hQ ls l1 l0 => ?_⟩
          refine r_iload_n (q125 (i := 27) rfl) l1 ?_
          refine r_aload_n (q125 (i := 28) rfl) l0 ?_
          refine r_getR (b := 1075) (q125 (i := 29) rfl) rfl (by decide) (k_47 S) (fun _ _ _ => rfl) (r_47_30 S) ?_
          refine r_iconst (v := 4) (q125 (i := 30) rfl) (by decide) ?_
          refine r_iaload (x := nI N) (q125 (i := 31) rfl) (k_1075 S) (vp_in_nI (n := 4) (by decide) (by decide)) hN4 ?_
          refine r_icmp 103 (q125 (i := 32) rfl) (by decide) (fun zz => absurd zz (show ¬ (nI N ≤ nI i) from nI_ge (by omega) (by omega))) (fun _ => ?_)
          refine r_iconst (v := 1) (q125 (i := 33) rfl) (by decide) ?_
          refine r_istore_n (ls' := lset1 ls 2 (.int 1)) (q125 (i := 34) rfl) (Nat.le_of_ble_eq_true rfl) rfl ?_
          have l1 := lk1 (k := 2) (v := .int 1) l1 (by decide) (Or.inl rfl)
          have l0 := lk1 (k := 2) (v := .int 1) l0 (by decide) (Or.inr (by decide))
          have l2 := lk0 ls 2 (.int 1)
          generalize lset1 ls 2 (.int 1) = ls at l2 l1 l0 ⊢
          refine r_iload_n (q125 (i := 35) rfl) l2 ?_
          refine r_iconst (v := 3) (q125 (i := 36) rfl) (by decide) ?_
          refine r_icmp 97 (q125 (i := 37) rfl) (by decide) (fun zz => absurd zz (show ¬ (3 ≤ (1 : Int32)) from by decide)) (fun _ => ?_)
          refine r_aload_n (q125 (i := 38) rfl) l0 ?_
          refine r_aload_n (q125 (i := 39) rfl) l0 ?_
          refine r_getR (b := 1079) (q125 (i := 40) rfl) rfl (by decide) (k_47 S) (fun _ _ _ => rfl) (r_47_34 S) ?_
          refine r_iload_n (q125 (i := 41) rfl) l1 ?_
          refine r_aa5N (q125 (i := 42) rfl) (k_1079 S) (by omega) (by decide) (rAnd S (by omega)) ?_
          refine r_iload_n (q125 (i := 43) rfl) l2 ?_
          refine r_iaload (x := nI (s.2.2.1.1 (O + 2 * i + 0))) (q125 (i := 44) rfl) (kAnd S (x := i) (by omega)) (vp_in_nI (n := 1) (by decide) (by decide)) ((a3 0 (by decide)).1) ?_
          refine r_cV (d := _) (q125 (i := 45) rfl) rfl rfl rfl (k_47 S) (Nat.le_of_ble_eq_true rfl) (Nat.zero_le _) (Nat.zero_le _) R1 ?_
          show Wp _ _ _ 74 ls [.int 1] h _ _
          refine r_if 91 (q125 (i := 46) rfl) (by decide) (fun _ => ?_) (fun zz => absurd (show ¬ (1 : Int32) = 0 from by decide) zz)
          refine r_iinc (y := 2) (q125 (i := 57) rfl) (Nat.le_of_ble_eq_true rfl) l2 (by decide) rfl ?_
          have l1 := lk1 (k := 2) (v := .int 2) l1 (by decide) (Or.inl rfl)
          have l0 := lk1 (k := 2) (v := .int 2) l0 (by decide) (Or.inr (by decide))
          have l2 := lk0 ls 2 (.int 2)
          generalize lset1 ls 2 (.int 2) = ls at l2 l1 l0 ⊢
          refine r_goto 57 (q125 (i := 58) rfl) (by decide) ?_
          refine r_iload_n (q125 (i := 35) rfl) l2 ?_
          refine r_iconst (v := 3) (q125 (i := 36) rfl) (by decide) ?_
          refine r_icmp 97 (q125 (i := 37) rfl) (by decide) (fun zz => absurd zz (show ¬ (3 ≤ (2 : Int32)) from by decide)) (fun _ => ?_)
          refine r_aload_n (q125 (i := 38) rfl) l0 ?_
          refine r_aload_n (q125 (i := 39) rfl) l0 ?_
          refine r_getR (b := 1079) (q125 (i := 40) rfl) rfl (by decide) (k_47 S) (fun _ _ _ => rfl) (r_47_34 S) ?_
          refine r_iload_n (q125 (i := 41) rfl) l1 ?_
          refine r_aa5N (q125 (i := 42) rfl) (k_1079 S) (by omega) (by decide) (rAnd S (by omega)) ?_
          refine r_iload_n (q125 (i := 43) rfl) l2 ?_
          refine r_iaload (x := nI (s.2.2.1.1 (O + 2 * i + 1))) (q125 (i := 44) rfl) (kAnd S (x := i) (by omega)) (vp_in_nI (n := 2) (by decide) (by decide)) ((a3 1 (by decide)).1) ?_
          refine r_cV (d := _) (q125 (i := 45) rfl) rfl rfl rfl (k_47 S) (Nat.le_of_ble_eq_true rfl) (Nat.zero_le _) (Nat.zero_le _) R2 ?_
          show Wp _ _ _ 74 ls [.int 1] h _ _
          refine r_if 91 (q125 (i := 46) rfl) (by decide) (fun _ => ?_) (fun zz => absurd (show ¬ (1 : Int32) = 0 from by decide) zz)
          refine r_iinc (y := 3) (q125 (i := 57) rfl) (Nat.le_of_ble_eq_true rfl) l2 (by decide) rfl ?_
          have l1 := lk1 (k := 2) (v := .int 3) l1 (by decide) (Or.inl rfl)
          have l0 := lk1 (k := 2) (v := .int 3) l0 (by decide) (Or.inr (by decide))
          have l2 := lk0 ls 2 (.int 3)
          generalize lset1 ls 2 (.int 3) = ls at l2 l1 l0 ⊢
          refine r_goto 57 (q125 (i := 58) rfl) (by decide) ?_
          refine r_iload_n (q125 (i := 35) rfl) l2 ?_
          refine r_iconst (v := 3) (q125 (i := 36) rfl) (by decide) ?_
          refine r_icmp 97 (q125 (i := 37) rfl) (by decide) (fun _ => ?_) (fun zz => absurd (show 3 ≤ (3 : Int32) from by decide) zz)
          refine r_iinc (y := nI (i + 1)) (q125 (i := 59) rfl) (Nat.le_of_ble_eq_true rfl) l1 (nI_1 i) rfl ?_
          have l2 := lk1 (k := 1) (v := .int (nI (i + 1))) l2 (by decide) (Or.inr (by decide))
          have l0 := lk1 (k := 1) (v := .int (nI (i + 1))) l0 (by decide) (Or.inl rfl)
          have l1 := lk0 ls 1 (.int (nI (i + 1)))
          generalize lset1 ls 1 (.int (nI (i + 1))) = ls at l1 l2 l0 ⊢
          refine r_goto 45 (q125 (i := 60) rfl) (by decide) ?_
          exact k Q bc bs hQ ls l1 l0
      · rw [if_neg y2] at R2 ⊢
        obtain ⟨h1, Rf, f1, F1, _⟩ := sp_fails (d := d) S (t := none) L.2.1.1 (f := 5) (p := s.2.2.1.2.1 (O + 2 * i + 1)) (by decide) (a3 1 (by decide)).2.2.2
        refine ⟨h1, ⟨f1, F1.S S⟩, F1.L, fun Q bc bs hQ ls l1 l0 => ?_⟩
        refine r_iload_n (q125 (i := 27) rfl) l1 ?_
        refine r_aload_n (q125 (i := 28) rfl) l0 ?_
        refine r_getR (b := 1075) (q125 (i := 29) rfl) rfl (by decide) (k_47 S) (fun _ _ _ => rfl) (r_47_30 S) ?_
        refine r_iconst (v := 4) (q125 (i := 30) rfl) (by decide) ?_
        refine r_iaload (x := nI N) (q125 (i := 31) rfl) (k_1075 S) (vp_in_nI (n := 4) (by decide) (by decide)) hN4 ?_
        refine r_icmp 103 (q125 (i := 32) rfl) (by decide) (fun zz => absurd zz (show ¬ (nI N ≤ nI i) from nI_ge (by omega) (by omega))) (fun _ => ?_)
        refine r_iconst (v := 1) (q125 (i := 33) rfl) (by decide) ?_
        refine r_istore_n (ls' := lset1 ls 2 (.int 1)) (q125 (i := 34) rfl) (Nat.le_of_ble_eq_true rfl) rfl ?_
        have l1 := lk1 (k := 2) (v := .int 1) l1 (by decide) (Or.inl rfl)
        have l0 := lk1 (k := 2) (v := .int 1) l0 (by decide) (Or.inr (by decide))
        have l2 := lk0 ls 2 (.int 1)
        generalize lset1 ls 2 (.int 1) = ls at l2 l1 l0 ⊢
        refine r_iload_n (q125 (i := 35) rfl) l2 ?_
        refine r_iconst (v := 3) (q125 (i := 36) rfl) (by decide) ?_
        refine r_icmp 97 (q125 (i := 37) rfl) (by decide) (fun zz => absurd zz (show ¬ (3 ≤ (1 : Int32)) from by decide)) (fun _ => ?_)
        refine r_aload_n (q125 (i := 38) rfl) l0 ?_
        refine r_aload_n (q125 (i := 39) rfl) l0 ?_
        refine r_getR (b := 1079) (q125 (i := 40) rfl) rfl (by decide) (k_47 S) (fun _ _ _ => rfl) (r_47_34 S) ?_
        refine r_iload_n (q125 (i := 41) rfl) l1 ?_
        refine r_aa5N (q125 (i := 42) rfl) (k_1079 S) (by omega) (by decide) (rAnd S (by omega)) ?_
        refine r_iload_n (q125 (i := 43) rfl) l2 ?_
        refine r_iaload (x := nI (s.2.2.1.1 (O + 2 * i + 0))) (q125 (i := 44) rfl) (kAnd S (x := i) (by omega)) (vp_in_nI (n := 1) (by decide) (by decide)) ((a3 0 (by decide)).1) ?_
        refine r_cV (d := _) (q125 (i := 45) rfl) rfl rfl rfl (k_47 S) (Nat.le_of_ble_eq_true rfl) (Nat.zero_le _) (Nat.zero_le _) R1 ?_
        show Wp _ _ _ 74 ls [.int 1] h _ _
        refine r_if 91 (q125 (i := 46) rfl) (by decide) (fun _ => ?_) (fun zz => absurd (show ¬ (1 : Int32) = 0 from by decide) zz)
        refine r_iinc (y := 2) (q125 (i := 57) rfl) (Nat.le_of_ble_eq_true rfl) l2 (by decide) rfl ?_
        have l1 := lk1 (k := 2) (v := .int 2) l1 (by decide) (Or.inl rfl)
        have l0 := lk1 (k := 2) (v := .int 2) l0 (by decide) (Or.inr (by decide))
        have l2 := lk0 ls 2 (.int 2)
        generalize lset1 ls 2 (.int 2) = ls at l2 l1 l0 ⊢
        refine r_goto 57 (q125 (i := 58) rfl) (by decide) ?_
        refine r_iload_n (q125 (i := 35) rfl) l2 ?_
        refine r_iconst (v := 3) (q125 (i := 36) rfl) (by decide) ?_
        refine r_icmp 97 (q125 (i := 37) rfl) (by decide) (fun zz => absurd zz (show ¬ (3 ≤ (2 : Int32)) from by decide)) (fun _ => ?_)
        refine r_aload_n (q125 (i := 38) rfl) l0 ?_
        refine r_aload_n (q125 (i := 39) rfl) l0 ?_
        refine r_getR (b := 1079) (q125 (i := 40) rfl) rfl (by decide) (k_47 S) (fun _ _ _ => rfl) (r_47_34 S) ?_
        refine r_iload_n (q125 (i := 41) rfl) l1 ?_
        refine r_aa5N (q125 (i := 42) rfl) (k_1079 S) (by omega) (by decide) (rAnd S (by omega)) ?_
        refine r_iload_n (q125 (i := 43) rfl) l2 ?_
        refine r_iaload (x := nI (s.2.2.1.1 (O + 2 * i + 1))) (q125 (i := 44) rfl) (kAnd S (x := i) (by omega)) (vp_in_nI (n := 2) (by decide) (by decide)) ((a3 1 (by decide)).1) ?_
        refine r_cV (d := _) (q125 (i := 45) rfl) rfl rfl rfl (k_47 S) (Nat.le_of_ble_eq_true rfl) (Nat.zero_le _) (Nat.zero_le _) R2 ?_
        show Wp _ _ _ 74 ls [.int 0] h _ _
        refine r_if 91 (q125 (i := 46) rfl) (by decide) (fun zz => absurd zz (show ¬ (¬ (0 : Int32) = 0) from by decide)) (fun _ => ?_)
        refine r_aload_n (q125 (i := 47) rfl) l0 ?_
        refine r_iconst (v := 5) (q125 (i := 48) rfl) (by decide) ?_
        refine r_aload_n (q125 (i := 49) rfl) l0 ?_
        refine r_getR (b := 1200) (q125 (i := 50) rfl) rfl (by decide) (k_47 S) (fun _ _ _ => rfl) (r_47_35 S) ?_
        refine r_iload_n (q125 (i := 51) rfl) l1 ?_
        refine r_aa5N (q125 (i := 52) rfl) (k_1200 S) (by omega) (by decide) (rAt S (by omega)) ?_
        refine r_iload_n (q125 (i := 53) rfl) l2 ?_
        refine r_iaload (x := nI (s.2.2.1.2.1 (O + 2 * i + 1))) (q125 (i := 54) rfl) (kAt S (x := i) (by omega)) (vp_in_nI (n := 2) (by decide) (by decide)) ((a3 1 (by decide)).2.1) ?_
        refine r_cV (d := _) (q125 (i := 55) rfl) rfl rfl rfl (k_47 S) (Nat.le_of_ble_eq_true rfl) (Nat.zero_le _) (Nat.zero_le _) Rf ?_
        show Wp _ _ _ 90 ls [.int 0] h1 _ _
        exact r_zret (q125 (i := 56) rfl) rfl (by decide) hQ
    · rw [if_neg y] at R1 ⊢
      obtain ⟨h1, Rf, f1, F1, _⟩ := sp_fails (d := d) S (t := none) L.2.1.1 (f := 5) (p := s.2.2.1.2.1 (O + 2 * i + 0)) (by decide) (a3 0 (by decide)).2.2.2
      refine ⟨h1, ⟨f1, F1.S S⟩, F1.L, fun Q bc bs hQ ls l1 l0 => ?_⟩
      refine r_iload_n (q125 (i := 27) rfl) l1 ?_
      refine r_aload_n (q125 (i := 28) rfl) l0 ?_
      refine r_getR (b := 1075) (q125 (i := 29) rfl) rfl (by decide) (k_47 S) (fun _ _ _ => rfl) (r_47_30 S) ?_
      refine r_iconst (v := 4) (q125 (i := 30) rfl) (by decide) ?_
      refine r_iaload (x := nI N) (q125 (i := 31) rfl) (k_1075 S) (vp_in_nI (n := 4) (by decide) (by decide)) hN4 ?_
      refine r_icmp 103 (q125 (i := 32) rfl) (by decide) (fun zz => absurd zz (show ¬ (nI N ≤ nI i) from nI_ge (by omega) (by omega))) (fun _ => ?_)
      refine r_iconst (v := 1) (q125 (i := 33) rfl) (by decide) ?_
      refine r_istore_n (ls' := lset1 ls 2 (.int 1)) (q125 (i := 34) rfl) (Nat.le_of_ble_eq_true rfl) rfl ?_
      have l1 := lk1 (k := 2) (v := .int 1) l1 (by decide) (Or.inl rfl)
      have l0 := lk1 (k := 2) (v := .int 1) l0 (by decide) (Or.inr (by decide))
      have l2 := lk0 ls 2 (.int 1)
      generalize lset1 ls 2 (.int 1) = ls at l2 l1 l0 ⊢
      refine r_iload_n (q125 (i := 35) rfl) l2 ?_
      refine r_iconst (v := 3) (q125 (i := 36) rfl) (by decide) ?_
      refine r_icmp 97 (q125 (i := 37) rfl) (by decide) (fun zz => absurd zz (show ¬ (3 ≤ (1 : Int32)) from by decide)) (fun _ => ?_)
      refine r_aload_n (q125 (i := 38) rfl) l0 ?_
      refine r_aload_n (q125 (i := 39) rfl) l0 ?_
      refine r_getR (b := 1079) (q125 (i := 40) rfl) rfl (by decide) (k_47 S) (fun _ _ _ => rfl) (r_47_34 S) ?_
      refine r_iload_n (q125 (i := 41) rfl) l1 ?_
      refine r_aa5N (q125 (i := 42) rfl) (k_1079 S) (by omega) (by decide) (rAnd S (by omega)) ?_
      refine r_iload_n (q125 (i := 43) rfl) l2 ?_
      refine r_iaload (x := nI (s.2.2.1.1 (O + 2 * i + 0))) (q125 (i := 44) rfl) (kAnd S (x := i) (by omega)) (vp_in_nI (n := 1) (by decide) (by decide)) ((a3 0 (by decide)).1) ?_
      refine r_cV (d := _) (q125 (i := 45) rfl) rfl rfl rfl (k_47 S) (Nat.le_of_ble_eq_true rfl) (Nat.zero_le _) (Nat.zero_le _) R1 ?_
      show Wp _ _ _ 74 ls [.int 0] h _ _
      refine r_if 91 (q125 (i := 46) rfl) (by decide) (fun zz => absurd zz (show ¬ (¬ (0 : Int32) = 0) from by decide)) (fun _ => ?_)
      refine r_aload_n (q125 (i := 47) rfl) l0 ?_
      refine r_iconst (v := 5) (q125 (i := 48) rfl) (by decide) ?_
      refine r_aload_n (q125 (i := 49) rfl) l0 ?_
      refine r_getR (b := 1200) (q125 (i := 50) rfl) rfl (by decide) (k_47 S) (fun _ _ _ => rfl) (r_47_35 S) ?_
      refine r_iload_n (q125 (i := 51) rfl) l1 ?_
      refine r_aa5N (q125 (i := 52) rfl) (k_1200 S) (by omega) (by decide) (rAt S (by omega)) ?_
      refine r_iload_n (q125 (i := 53) rfl) l2 ?_
      refine r_iaload (x := nI (s.2.2.1.2.1 (O + 2 * i + 0))) (q125 (i := 54) rfl) (kAt S (x := i) (by omega)) (vp_in_nI (n := 1) (by decide) (by decide)) ((a3 0 (by decide)).2.1) ?_
      refine r_cV (d := _) (q125 (i := 55) rfl) rfl rfl rfl (k_47 S) (Nat.le_of_ble_eq_true rfl) (Nat.zero_le _) (Nat.zero_le _) Rf ?_
      show Wp _ _ _ 90 ls [.int 0] h1 _ _
      exact r_zret (q125 (i := 56) rfl) rfl (by decide) hQ
set_option maxHeartbeats 2000000 in
set_option maxRecDepth 10000 in
theorem lp_ad1 {d : Nat} {B : Nat → Int32} {z n M O N : Nat} (hO : O ≤ 10) (hN : N ≤ 119) {h : hp} {s : pst} (hO3 : hI h 1075 3 = nI O) (hN4 : hI h 1075 4 = nI N) (L : LSt h B z n M O O N s) : ∀ (m i : Nat), i + m = O → LRes (Fnd (m + 2 * N) i s) h (fun h1 s1 => h1 = h ∧ s1 = s) (fun Q bc bs => ∀ ls : List (Nat × Value), ls.lookup 1 = some (.int (nI i)) → ls.lookup 0 = some (.ref 47) → Wp (Ex (d + 1)) 125 Q 2 ls [] h bc bs) (fun h Q bc bs => Q (some (.int 1)) h) := by
  have S := L.1.1
  intro m
  induction m with
  | zero =>
    intro i hm
    have e : i = O := by omega
    subst e
    have R := lp_ad2 (d := d) hN hN4 L N 0 (Nat.zero_add _)
    rw [show 0 + 2 * N = 2 * N by omega]
    refine LRes.en R (fun Q bc bs y ls l1 l0 => ?_)
    refine r_iload_n (q125 (i := 2) rfl) l1 ?_
    refine r_aload_n (q125 (i := 3) rfl) l0 ?_
    refine r_getR (b := 1075) (q125 (i := 4) rfl) rfl (by decide) (k_47 S) (fun _ _ _ => rfl) (r_47_30 S) ?_
    refine r_iconst (v := 3) (q125 (i := 5) rfl) (by decide) ?_
    refine r_iaload (x := nI i) (q125 (i := 6) rfl) (k_1075 S) (vp_in_nI (n := 3) (by decide) (by decide)) hO3 ?_
    refine r_icmp 43 (q125 (i := 7) rfl) (by decide) (fun _ => ?_) (fun zz => absurd (show nI i ≤ nI i from Int32.le_refl _) zz)
    refine r_iconst (v := nI 0) (q125 (i := 25) rfl) (by decide) ?_
    refine r_istore_n (ls' := lset1 ls 1 (.int (nI 0))) (q125 (i := 26) rfl) (Nat.le_of_ble_eq_true rfl) rfl ?_
    have l0 := lk1 (k := 1) (v := .int (nI 0)) l0 (by decide) (Or.inl rfl)
    have l1 := lk0 ls 1 (.int (nI 0))
    generalize lset1 ls 1 (.int (nI 0)) = ls at l1 l0 ⊢
    exact y _ l1 l0
  | succ m ih =>
    intro i hm
    obtain ⟨a1, a2, a3, a4⟩ := L.2.2.2.1 i (by omega)
    have R1 := sp_isDef (d := d) S L.2.2.1 a3
    rw [show m + 1 + 2 * N = m + 2 * N + 1 by omega, Fnd_s]
    by_cases y : s.2.2.1.1 i < 2 ∨ s.2.1 (s.2.2.1.1 i / 2) ≠ 0
    · rw [if_pos y] at R1 ⊢
      refine LRes.en (ih (i + 1) (by omega)) (fun Q bc bs k ls l1 l0 => ?_)
      refine r_iload_n (q125 (i := 2) rfl) l1 ?_
      refine r_aload_n (q125 (i := 3) rfl) l0 ?_
      refine r_getR (b := 1075) (q125 (i := 4) rfl) rfl (by decide) (k_47 S) (fun _ _ _ => rfl) (r_47_30 S) ?_
      refine r_iconst (v := 3) (q125 (i := 5) rfl) (by decide) ?_
      refine r_iaload (x := nI O) (q125 (i := 6) rfl) (k_1075 S) (vp_in_nI (n := 3) (by decide) (by decide)) hO3 ?_
      refine r_icmp 43 (q125 (i := 7) rfl) (by decide) (fun zz => absurd zz (show ¬ (nI O ≤ nI i) from nI_ge (by omega) (by omega))) (fun _ => ?_)
      refine r_aload_n (q125 (i := 8) rfl) l0 ?_
      refine r_aload_n (q125 (i := 9) rfl) l0 ?_
      refine r_getR (b := 1321) (q125 (i := 10) rfl) rfl (by decide) (k_47 S) (fun _ _ _ => rfl) (r_47_36 S) ?_
      refine r_iload_n (q125 (i := 11) rfl) l1 ?_
      refine r_iaN (x := nI (s.2.2.1.1 i)) (q125 (i := 12) rfl) (k_1321 S) (by omega) (by decide) a1 ?_
      refine r_cV (d := _) (q125 (i := 13) rfl) rfl rfl rfl (k_47 S) (Nat.le_of_ble_eq_true rfl) (Nat.zero_le _) (Nat.zero_le _) R1 ?_
      show Wp _ _ _ 22 ls [.int 1] h _ _
      refine r_if 37 (q125 (i := 14) rfl) (by decide) (fun _ => ?_) (fun zz => absurd (show ¬ (1 : Int32) = 0 from by decide) zz)
      refine r_iinc (y := nI (i + 1)) (q125 (i := 23) rfl) (Nat.le_of_ble_eq_true rfl) l1 (nI_1 i) rfl ?_
      have l0 := lk1 (k := 1) (v := .int (nI (i + 1))) l0 (by decide) (Or.inl rfl)
      have l1 := lk0 ls 1 (.int (nI (i + 1)))
      generalize lset1 ls 1 (.int (nI (i + 1))) = ls at l1 l0 ⊢
      refine r_goto 2 (q125 (i := 24) rfl) (by decide) ?_
      exact k ls l1 l0
    · rw [if_neg y] at R1 ⊢
      obtain ⟨h1, Rf, f1, F1, _⟩ := sp_fails (d := d) S (t := none) L.2.1.1 (f := 5) (p := s.2.2.1.2.1 i) (by decide) a4
      refine ⟨h1, ⟨f1, F1.S S⟩, F1.L, fun Q bc bs hQ ls l1 l0 => ?_⟩
      refine r_iload_n (q125 (i := 2) rfl) l1 ?_
      refine r_aload_n (q125 (i := 3) rfl) l0 ?_
      refine r_getR (b := 1075) (q125 (i := 4) rfl) rfl (by decide) (k_47 S) (fun _ _ _ => rfl) (r_47_30 S) ?_
      refine r_iconst (v := 3) (q125 (i := 5) rfl) (by decide) ?_
      refine r_iaload (x := nI O) (q125 (i := 6) rfl) (k_1075 S) (vp_in_nI (n := 3) (by decide) (by decide)) hO3 ?_
      refine r_icmp 43 (q125 (i := 7) rfl) (by decide) (fun zz => absurd zz (show ¬ (nI O ≤ nI i) from nI_ge (by omega) (by omega))) (fun _ => ?_)
      refine r_aload_n (q125 (i := 8) rfl) l0 ?_
      refine r_aload_n (q125 (i := 9) rfl) l0 ?_
      refine r_getR (b := 1321) (q125 (i := 10) rfl) rfl (by decide) (k_47 S) (fun _ _ _ => rfl) (r_47_36 S) ?_
      refine r_iload_n (q125 (i := 11) rfl) l1 ?_
      refine r_iaN (x := nI (s.2.2.1.1 i)) (q125 (i := 12) rfl) (k_1321 S) (by omega) (by decide) a1 ?_
      refine r_cV (d := _) (q125 (i := 13) rfl) rfl rfl rfl (k_47 S) (Nat.le_of_ble_eq_true rfl) (Nat.zero_le _) (Nat.zero_le _) R1 ?_
      show Wp _ _ _ 22 ls [.int 0] h _ _
      refine r_if 37 (q125 (i := 14) rfl) (by decide) (fun zz => absurd zz (show ¬ (¬ (0 : Int32) = 0) from by decide)) (fun _ => ?_)
      refine r_aload_n (q125 (i := 15) rfl) l0 ?_
      refine r_iconst (v := 5) (q125 (i := 16) rfl) (by decide) ?_
      refine r_aload_n (q125 (i := 17) rfl) l0 ?_
      refine r_getR (b := 1322) (q125 (i := 18) rfl) rfl (by decide) (k_47 S) (fun _ _ _ => rfl) (r_47_37 S) ?_
      refine r_iload_n (q125 (i := 19) rfl) l1 ?_
      refine r_iaN (x := nI (s.2.2.1.2.1 i)) (q125 (i := 20) rfl) (k_1322 S) (by omega) (by decide) a2 ?_
      refine r_cV (d := _) (q125 (i := 21) rfl) rfl rfl rfl (k_47 S) (Nat.le_of_ble_eq_true rfl) (Nat.zero_le _) (Nat.zero_le _) Rf ?_
      show Wp _ _ _ 36 ls [.int 0] h1 _ _
      exact r_zret (q125 (i := 22) rfl) rfl (by decide) hQ
