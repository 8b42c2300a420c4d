theorem X_to {h h' : hp} {t : txt} (e2 : h'.2 = h.2) (i : ∀ k, 1075 ≤ k → k < 1323 → hI h' k = hI h k) (X : XTm h t) (al : AL h t) (ol : OL h t) : XTm h' t ∧ AL h' t ∧ OL h' t := by
  obtain ⟨⟨a1, a2, a3⟩, a4, a5, a6⟩ := X
  have hN := a6.2.2.2
  refine ⟨⟨⟨a1.to (by rw [e2]), by rw [i 1075 (by decide) (by decide)]; exact a2, by rw [i 1075 (by decide) (by decide)]; exact a3⟩, fun v hv => by rw [i 1077 (by decide) (by decide), i 1078 (by decide) (by decide)]; exact a4 v hv, fun q hq j hj => by rw [i (1080 + q) (by omega) (by omega)]; exact a5 q hq j hj, a6⟩, fun q hq => ?_, fun q hq => by rw [i 1321 (by decide) (by decide)]; exact ol q hq⟩
  obtain ⟨v, b1, b2, b3, b4⟩ := al q hq
  exact ⟨v, b1, b2, by rw [i (1080 + q) (by omega) (by omega)]; exact b3, b4⟩
theorem FrK0.M {h h' : hp} (F : FrK0 h h') : FM h h' := ⟨by rw [F.1], fun k hk => ⟨F.2.1 k (by omega) (by omega) (by omega) (by omega) (by omega) (by omega) (by omega) (by omega) (by omega) (by omega), by unfold hJ; rw [F.1]⟩⟩
/-- the reference behind a good text -/
theorem MI.rd0 {h hm h' : hp} {σ : st8} (M : MI h σ) {c : ck} (F : FrRd h hm) (FK : FrK0 (sI hm 47 25 0) h') (m : MA h' c) (z10 : hI h' 47 10 = 0) (z18 : hI h' 47 18 = 0) (hp : hI hm 47 26 = -1) : MI h' (rdE (upA σ c) (-1)) := by
  have i : ∀ k, k < 1075 → k ≠ 47 → k ≠ 48 → k ≠ 49 → k ≠ 51 → k ≠ 54 → k ≠ 57 → k ≠ 60 → k ≠ 63 → hI h' k = hI h k := fun k a b x1 x2 x3 x4 x5 x6 x7 => by
    rw [FK.2.1 k b x1 x2 x3 x4 x5 x6 x7 (by omega) (by omega)]
    show u2 hm.1 47 _ _ k = _
    rw [u2_n b]; exact F.2.1 k (Or.inl a) b
  have i47 : ∀ j, j ≠ 10 → j ≠ 18 → j < 25 → hI h' 47 j = hI h 47 j := fun j a b x => by
    rw [FK.2.2.1 j a b]
    show u1 (hm.1 47) 25 _ j = _
    rw [u1_n (by omega)]; exact F.2.2 j (by omega)
  have e2 : h'.2 = h.2 := FK.1.trans F.1
  refine ⟨⟨M.1.1.to (by rw [e2]), (i47 1 (by decide) (by decide) (by decide)).trans M.1.2⟩, m, ⟨?_, ?_, ?_, ?_⟩, ⟨?_, ?_, ?_⟩, ⟨?_, ?_, ?_⟩, ?_, Or.inl z10, z18⟩
  · show cirB h' = (zb σ).1
    unfold cirB
    rw [i 52 (by decide) (by decide) (by decide) (by decide) (by decide) (by decide) (by decide) (by decide) (by decide), i 55 (by decide) (by decide) (by decide) (by decide) (by decide) (by decide) (by decide) (by decide) (by decide), i 58 (by decide) (by decide) (by decide) (by decide) (by decide) (by decide) (by decide) (by decide) (by decide), i 61 (by decide) (by decide) (by decide) (by decide) (by decide) (by decide) (by decide) (by decide) (by decide)]
    exact M.2.2.1.1
  · show hI h' 48 1 = _
    rw [FK.2.2.2.1 1 (by decide)]
    show hI hm 48 1 = _
    rw [F.2.1 48 (by decide) (by decide)]; exact M.2.2.1.2.1
  · rw [i 64 (by decide) (by decide) (by decide) (by decide) (by decide) (by decide) (by decide) (by decide) (by decide)]; exact M.2.2.1.2.2.1
  · show hI h' 49 1 = _
    rw [FK.2.2.2.2 1 (by decide)]
    show hI hm 49 1 = _
    rw [F.2.1 49 (by decide) (by decide)]; exact M.2.2.1.2.2.2
  · show h'.2.1 1071 = _
    rw [e2]; exact M.2.2.2.1.1
  · rw [i 1072 (by decide) (by decide) (by decide) (by decide) (by decide) (by decide) (by decide) (by decide) (by decide)]; exact M.2.2.2.1.2.1
  · exact (i47 17 (by decide) (by decide) (by decide)).trans M.2.2.2.1.2.2
  · rw [i 1074 (by decide) (by decide) (by decide) (by decide) (by decide) (by decide) (by decide) (by decide) (by decide)]; exact M.2.2.2.2.1.1
  · rw [FK.2.2.1 25 (by decide) (by decide)]; rfl
  · rw [FK.2.2.1 26 (by decide) (by decide)]; exact hp
  · rw [i 1073 (by decide) (by decide) (by decide) (by decide) (by decide) (by decide) (by decide) (by decide) (by decide)]; exact M.2.2.2.2.2.1
theorem FrK1.M {h h' : hp} (F : FrK1 h h') : FM h h' := ⟨by rw [F.1], fun k hk => ⟨F.2.1 k (by omega) (by omega) (by omega) (by omega) (by omega) (by omega) (by omega) (by omega) (by omega) (by omega), by unfold hJ; rw [F.1]⟩⟩
/-- the reference behind a good text -/
theorem MI.rd1 {h hm h' : hp} {σ : st8} (M : MI h σ) {c : ck} (F : FrRd h hm) (FK : FrK1 (sI hm 47 25 0) h') (m : MB h' c) (z10 : hI h' 47 10 = 0) (z18 : hI h' 47 18 = 0) (hp : hI hm 47 26 = -1) : MI h' (rdE (upB σ c) (-1)) := by
  have i : ∀ k, k < 1075 → k ≠ 47 → k ≠ 48 → k ≠ 49 → k ≠ 52 → k ≠ 55 → k ≠ 58 → k ≠ 61 → k ≠ 64 → hI h' k = hI h k := fun k a b x1 x2 x3 x4 x5 x6 x7 => by
    rw [FK.2.1 k b x1 x2 x3 x4 x5 x6 x7 (by omega) (by omega)]
    show u2 hm.1 47 _ _ k = _
    rw [u2_n b]; exact F.2.1 k (Or.inl a) b
  have i47 : ∀ j, j ≠ 10 → j ≠ 18 → j < 25 → hI h' 47 j = hI h 47 j := fun j a b x => by
    rw [FK.2.2.1 j a b]
    show u1 (hm.1 47) 25 _ j = _
    rw [u1_n (by omega)]; exact F.2.2 j (by omega)
  have e2 : h'.2 = h.2 := FK.1.trans F.1
  refine ⟨⟨M.1.1.to (by rw [e2]), (i47 1 (by decide) (by decide) (by decide)).trans M.1.2⟩, ⟨?_, ?_, ?_, ?_⟩, m, ⟨?_, ?_, ?_⟩, ⟨?_, ?_, ?_⟩, ?_, Or.inl z10, z18⟩
  · show cirA h' = (za σ).1
    unfold cirA
    rw [i 51 (by decide) (by decide) (by decide) (by decide) (by decide) (by decide) (by decide) (by decide) (by decide), i 54 (by decide) (by decide) (by decide) (by decide) (by decide) (by decide) (by decide) (by decide) (by decide), i 57 (by decide) (by decide) (by decide) (by decide) (by decide) (by decide) (by decide) (by decide) (by decide), i 60 (by decide) (by decide) (by decide) (by decide) (by decide) (by decide) (by decide) (by decide) (by decide)]
    exact M.2.1.1
  · show hI h' 48 0 = _
    rw [FK.2.2.2.1 0 (by decide)]
    show hI hm 48 0 = _
    rw [F.2.1 48 (by decide) (by decide)]; exact M.2.1.2.1
  · rw [i 63 (by decide) (by decide) (by decide) (by decide) (by decide) (by decide) (by decide) (by decide) (by decide)]; exact M.2.1.2.2.1
  · show hI h' 49 0 = _
    rw [FK.2.2.2.2 0 (by decide)]
    show hI hm 49 0 = _
    rw [F.2.1 49 (by decide) (by decide)]; exact M.2.1.2.2.2
  · show h'.2.1 1071 = _
    rw [e2]; exact M.2.2.2.1.1
  · rw [i 1072 (by decide) (by decide) (by decide) (by decide) (by decide) (by decide) (by decide) (by decide) (by decide)]; exact M.2.2.2.1.2.1
  · exact (i47 17 (by decide) (by decide) (by decide)).trans M.2.2.2.1.2.2
  · rw [i 1074 (by decide) (by decide) (by decide) (by decide) (by decide) (by decide) (by decide) (by decide) (by decide)]; exact M.2.2.2.2.1.1
  · rw [FK.2.2.1 25 (by decide) (by decide)]; rfl
  · rw [FK.2.2.1 26 (by decide) (by decide)]; exact hp
  · rw [i 1073 (by decide) (by decide) (by decide) (by decide) (by decide) (by decide) (by decide) (by decide) (by decide)]; exact M.2.2.2.2.2.1
set_option maxHeartbeats 2000000 in
set_option maxRecDepth 10000 in
theorem rd_96g {h h' : hp} (S : Sh h) (S' : Sh h') {x : Int32} (R : Run 7 129 [.ref 47, .int x] (sI h 47 25 0) 0 0 none h') (f : hI h' 47 28 = 0) {Q : resP} {bc bs : Nat} (hQ : Q (some (.int 0)) h') (ls : List (Nat × Value)) (l2 : ls.lookup 2 = some (.int 1)) (l1 : ls.lookup 1 = some (.int x)) (l0 : ls.lookup 0 = some (.ref 47)) : Wp (Ex 7) 130 Q 96 ls [] h bc bs := by
  refine r_aload_n (q130 (i := 53) rfl) l0 ?_
  refine r_iconst (v := 0) (q130 (i := 54) rfl) (by decide) ?_
  refine r_putI (q130 (i := 55) rfl) rfl (by decide) (k_47 S) rfl rfl ?_
  refine r_iload_n (q130 (i := 56) rfl) l2 ?_
  refine r_if 110 (q130 (i := 57) rfl) (by decide) (fun zz => absurd zz (show ¬ ((1 : Int32) = 0) from by decide)) (fun _ => ?_)
  refine r_aload_n (q130 (i := 58) rfl) l0 ?_
  refine r_iload_n (q130 (i := 59) rfl) l1 ?_
  refine r_cV (d := _) (q130 (i := 60) rfl) rfl rfl rfl (k_47 S) (Nat.le_of_ble_eq_true rfl) (Nat.zero_le _) (Nat.zero_le _) R ?_
  show Wp _ _ _ 110 ls [] h' _ _
  refine r_aload_n (q130 (i := 61) rfl) l0 ?_
  refine r_getI (x := 0) (q130 (i := 62) rfl) rfl (by decide) (k_47 S') (fun _ _ _ => rfl) f ?_
  exact r_iret (q130 (i := 63) rfl) rfl hQ
set_option maxHeartbeats 2000000 in
set_option maxRecDepth 10000 in
theorem ms_read {h : hp} {σ : st8} (M : MI h σ) (Z : zok σ) (x : Int32) : MStep 130 [.ref 47, .int x] h (aRead σ x) (nRead σ x) := by
  have S := M.1.1
  by_cases hx : x = 0 ∨ x = 1
  · obtain ⟨hs, es⟩ : ∃ y, y = sI (sI (sI h 47 27 0) 47 28 0) 47 26 (-1) := ⟨_, rfl⟩
    have Fs : FrRd h hs := by rw [es]; exact (((FrT2.w (by decide) _).tr (FrT2.w (by decide) _)).tr (FrT2.w (by decide) _)).Rd
    have Ss : Sh hs := S.to (by rw [es]; rfl)
    have Ts : TM hs (zt σ).1 (zt σ).2 := ⟨by rw [es]; exact M.2.2.2.2.1.1, by rw [es]; exact M.2.2.2.2.1.2.1, Z.2.2.2.2⟩
    have R0 : Run 7 105 [.int x] h 0 0 (some (.int 1)) h := by
      rcases hx with e | e
      · rw [e]; exact sp_isC0 (d := 6)
      · rw [e]; exact sp_isC1 (d := 6)
    obtain ⟨h1, g, X1, F1, KK⟩ := rd_24 (d := 4) Z.1.2 Ss Ts (by rw [es]; exact M.1.2) (by rw [es]; rfl) (by rw [es]; exact ⟨rfl, rfl⟩) x
    have F1 := Fs.tr F1
    have en : ∀ (Q : resP), (∀ ls : List (Nat × Value), ls.lookup 2 = some (.int g) → ls.lookup 1 = some (.int x) → ls.lookup 0 = some (.ref 47) → Wp (Ex 7) 130 Q 51 ls [] h1 0 0) → Wp (Ex 7) 130 Q 0 [(0, .ref 47), (1, .int x)] [] h 0 0 := fun Q kk => by
      refine r_iload_n (q130 (i := 0) rfl) rfl ?_
      refine r_cS (d := _) (q130 (i := 1) rfl) rfl (Nat.le_of_ble_eq_true rfl) rfl rfl (Nat.le_of_ble_eq_true rfl) (Nat.zero_le _) (Nat.zero_le _) R0 ?_
      show Wp _ _ _ 4 [(0, .ref 47), (1, .int x)] [.int 1] h _ _
      refine r_if 9 (q130 (i := 2) rfl) (by decide) (fun _ => ?_) (fun zz => absurd (show ¬ (1 : Int32) = 0 from by decide) zz)
      refine r_aload_n (q130 (i := 5) rfl) rfl ?_
      refine r_iconst (v := 0) (q130 (i := 6) rfl) (by decide) ?_
      refine r_putI (q130 (i := 7) rfl) rfl (by decide) (k_47 S) rfl rfl ?_
      refine r_aload_n (q130 (i := 8) rfl) rfl ?_
      refine r_iconst (v := 0) (q130 (i := 9) rfl) (by decide) ?_
      refine r_putI (q130 (i := 10) rfl) rfl (by decide) (k_47 S) rfl rfl ?_
      refine r_aload_n (q130 (i := 11) rfl) rfl ?_
      refine r_iconst (v := (-1)) (q130 (i := 12) rfl) (by decide) ?_
      refine r_putI (q130 (i := 13) rfl) rfl (by decide) (k_47 S) rfl rfl ?_
      rw [← es]
      exact KK Q 0 0 kk
    have er : ∀ (e : Nat × Nat) (h2 : hp), Fall (zt σ).1 (zt σ).2 (zn σ) = .error e → FrRd h h2 → FTM h2 (some e) → (∀ Q : resP, Q (some (.int (nI e.1))) (sI h2 47 25 0) → Wp (Ex 7) 130 Q 0 [(0, .ref 47), (1, .int x)] [] h 0 0) → MStep 130 [.ref 47, .int x] h (aRead σ x) (nRead σ x) := fun e h2 q F f w => by
      have ea : aRead σ x = nI e.1 := by unfold aRead; rw [if_pos hx, q]
      have en : nRead σ x = rdE σ (nI e.2) := by
        unfold nRead
        rcases hx with y | y
        · rw [if_pos y, q]
        · rw [if_neg (by rw [y]; decide), if_pos y, q]
      rw [ea, en]
      exact ⟨sI h2 47 25 0, Run.of (d := 7) (Nat.le_of_ble_eq_true rfl) (fun Q hQ => w Q hQ), M.rdf Z F f.2.1, F.M.tr (FM.w (by decide) _ _)⟩
    unfold RX at X1
    cases q : Fhead (zt σ).1 (zt σ).2 (zn σ) with
    | error e =>
      rw [q] at X1
      obtain ⟨eg, f, S1⟩ := X1
      subst eg
      exact er e h1 (Fall_1 q) F1 f (fun Q hQ => en Q (fun ls l2 l1 l0 => rd_51 S1 f hQ ls l2 l1 l0))
    | ok p =>
      rw [q] at X1
      have X1 : (match Fbody (zt σ).1 (zt σ).2 (zn σ) p.2 (p.1, s00.2) with
        | .error e => g = 0 ∧ FTM h1 (some e) ∧ Sh h1
        | .ok s => g = 1 ∧ LSt h1 (zt σ).1 (zt σ).2 (zn σ) (p.2 0) (p.2 3) (p.2 3) (p.2 4) s ∧ hI h1 1075 3 = nI (p.2 3) ∧ hI h1 1075 4 = nI (p.2 4)) := X1
      cases q2 : Fbody (zt σ).1 (zt σ).2 (zn σ) p.2 (p.1, s00.2) with
      | error e =>
        rw [q2] at X1
        obtain ⟨eg, f, S1⟩ := X1
        subst eg
        exact er e h1 (Fall_2 q q2) F1 f (fun Q hQ => en Q (fun ls l2 l1 l0 => rd_51 S1 f hQ ls l2 l1 l0))
      | ok s =>
        rw [q2] at X1
        obtain ⟨eg, L, x3, x4⟩ := X1
        subst eg
        obtain ⟨_, _, y0, y1, y3, y4, _⟩ := Fhead_ok (a := p.1) (hv := p.2) q
        obtain ⟨P, c1, c2, H⟩ := body_ok q2
        obtain ⟨pz1, pz2⟩ := body_pz q2
        obtain ⟨X, al, ol⟩ := LSt_X L Z.1.2 y3 y4 x3 x4 P.1 pz1
        have S1 := X.1.1
        have inj := body_pj q2
        have tk3 : s.2.2.2.1 = true → ∃ i, i < p.2 3 + 2 * p.2 4 ∧ s.2.2.1.1 i < 2 := fun y => by rw [← c2]; exact pz2 y
        have hAP : ∀ i, i < p.2 4 → hI h1 (1201 + i) 0 = nI (s.2.2.2.2.1 i) ∧ s.2.2.2.2.1 i ≤ 3000 := fun i hi => (L.2.2.2.2 i hi).2.1
        have e3 := Fall_3 q q2
        obtain ⟨t, et⟩ : ∃ t : txt, t = (s.2.1, s.2.2.1.1, zn σ, p.2 3, p.2 4) := ⟨_, rfl⟩
        have t1 : tD t = s.2.1 := by rw [et]
        have t2 : tU t = s.2.2.1.1 := by rw [et]
        have t3 : tn t = zn σ := by rw [et]
        have t4 : tO t = p.2 3 := by rw [et]
        have t5 : tN t = p.2 4 := by rw [et]
        rw [← et, ← t5] at e3
        rw [← et] at X al ol
        rw [← t1] at inj
        rw [← t4, ← t5, ← t2] at tk3
        rw [← t5] at hAP
        obtain ⟨h2, g2, o, F2, K2⟩ := lp_rn (d := 4) (t := t) (AP := s.2.2.2.2.1) (x := x) (tN t) 0 h1 (Nat.zero_add _) (fun i hi => absurd hi (Nat.not_lt_zero i)) X hAP L.2.1.1
        have F12 := F1.tr F2
        have en2 : ∀ (Q : resP), (∀ ls : List (Nat × Value), ls.lookup 2 = some (.int g2) → ls.lookup 1 = some (.int x) → ls.lookup 0 = some (.ref 47) → Wp (Ex 7) 130 Q 96 ls [] h2 0 0) → Wp (Ex 7) 130 Q 0 [(0, .ref 47), (1, .int x)] [] h 0 0 := fun Q kk => en Q (fun ls l2 l1 l0 => by
          refine r_iconst (v := nI 0) (q130 (i := 27) rfl) (by decide) ?_
          refine r_istore_n (ls' := lset1 ls 3 (.int (nI 0))) (q130 (i := 28) rfl) (Nat.le_of_ble_eq_true rfl) rfl ?_
          have l2 := lk1 (k := 3) (v := .int (nI 0)) l2 (by decide) (Or.inl rfl)
          have l1 := lk1 (k := 3) (v := .int (nI 0)) l1 (by decide) (Or.inr (by decide))
          have l0 := lk1 (k := 3) (v := .int (nI 0)) l0 (by decide) (Or.inr (by decide))
          have l3 := lk0 ls 3 (.int (nI 0))
          generalize lset1 ls 3 (.int (nI 0)) = ls at l3 l2 l1 l0 ⊢
          exact K2 Q 0 0 kk ls l3 l2 l1 l0)
        by_cases w : lst (slf t) (tN t) < tN t
        · rw [if_pos w] at o e3
          obtain ⟨eg, f, S2⟩ := o
          subst eg
          exact er _ h2 e3 F12 f (fun Q hQ => en2 Q (fun ls l2 l1 l0 => rd_96 S2 f hQ ls l2 l1 l0))
        rw [if_neg w] at o e3
        obtain ⟨eg, FR⟩ := o
        subst eg
        have T := (Fall_tok Z.1.2 e3).1
        have S2 : Sh h2 := S1.to (by rw [FR.1])
        have ar : (arr t (tN t) 0 o00).1 = true := by
          rcases arr_res (t := t) (dep_lt2 T.2.1) (tN t) 0 o00 (Nat.zero_add _) (ainv_0 _) with ⟨a1, _⟩ | ⟨_, a2⟩
          · exact a1
          · exact absurd a2 w
        have i3 : ∀ k, k ≠ 47 → hI (sI h2 47 25 0) k = hI h2 k := fun k hk => by
          show u2 h2.1 47 _ _ k = _
          rw [u2_n hk]
        have j3 : ∀ k, k < 1075 → k ≠ 47 → hI (sI h2 47 25 0) k = hI h k := fun k a b => (i3 k b).trans (F12.2.1 k (Or.inl a) b)
        obtain ⟨X3, al3, ol3⟩ := X_to (h' := sI h2 47 25 0) (t := t) FR.1 (fun k a b => (i3 k (by omega)).trans (FR.2 k (by omega))) X al ol
        have e1 : hI (sI h2 47 25 0) 47 1 = nI (tn t) := by
          show hI h2 47 1 = _
          rw [F12.2.2 1 (by decide), t3]; exact M.1.2
        have f28 : FTM h2 none := by
          show hI h2 47 28 = 0 ∧ hI h2 47 26 = -1
          rw [FR.2 47 (by decide)]; exact L.2.1.1
        have ea : aRead σ x = 0 := by unfold aRead; rw [if_pos hx, e3]
        rw [ea]
        rcases hx with y | y
        · subst y
          have mA : MA (sI h2 47 25 0) (za σ) := ⟨by unfold cirA; rw [j3 51 (by decide) (by decide), j3 54 (by decide) (by decide), j3 57 (by decide) (by decide), j3 60 (by decide) (by decide)]; exact M.2.1.1, by rw [j3 48 (by decide) (by decide)]; exact M.2.1.2.1, by rw [j3 63 (by decide) (by decide)]; exact M.2.1.2.2.1, by rw [j3 49 (by decide) (by decide)]; exact M.2.1.2.2.2⟩
          obtain ⟨h4, R4, m4, ⟨z10, z18⟩, FK⟩ := sp_bec0 (d := 4) (K := s.2.2.2.1) (cc := za σ) X3 al3 ol3 e1 mA T.2.2.1 T.2.2.2.1 tk3 inj ar T.2.2.2.2
          have S4 : Sh h4 := S2.to (by rw [FK.1]; rfl)
          have f4 : hI h4 47 28 = 0 := by rw [FK.2.2.1 28 (by decide) (by decide)]; exact f28.1
          have en : nRead σ 0 = rdE (upA σ (flC s.2.2.2.1 t (za σ))) (-1) := by unfold nRead; rw [if_pos rfl, e3]
          rw [en]
          exact ⟨h4, Run.of (d := 7) (Nat.le_of_ble_eq_true rfl) (fun Q hQ => en2 Q (fun ls l2 l1 l0 => rd_96g S2 S4 R4 f4 hQ ls l2 l1 l0)), M.rd0 F12 FK m4 z10 z18 f28.2, (F12.M.tr (FM.w (by decide) _ _)).tr FK.M⟩
        · subst y
          have mA : MB (sI h2 47 25 0) (zb σ) := ⟨by unfold cirB; rw [j3 52 (by decide) (by decide), j3 55 (by decide) (by decide), j3 58 (by decide) (by decide), j3 61 (by decide) (by decide)]; exact M.2.2.1.1, by rw [j3 48 (by decide) (by decide)]; exact M.2.2.1.2.1, by rw [j3 64 (by decide) (by decide)]; exact M.2.2.1.2.2.1, by rw [j3 49 (by decide) (by decide)]; exact M.2.2.1.2.2.2⟩
          obtain ⟨h4, R4, m4, ⟨z10, z18⟩, FK⟩ := sp_bec1 (d := 4) (K := s.2.2.2.1) (cc := zb σ) X3 al3 ol3 e1 mA T.2.2.1 T.2.2.2.1 tk3 inj ar T.2.2.2.2
          have S4 : Sh h4 := S2.to (by rw [FK.1]; rfl)
          have f4 : hI h4 47 28 = 0 := by rw [FK.2.2.1 28 (by decide) (by decide)]; exact f28.1
          have en : nRead σ 1 = rdE (upB σ (flC s.2.2.2.1 t (zb σ))) (-1) := by unfold nRead; rw [if_neg (by decide), if_pos rfl, e3]
          rw [en]
          exact ⟨h4, Run.of (d := 7) (Nat.le_of_ble_eq_true rfl) (fun Q hQ => en2 Q (fun ls l2 l1 l0 => rd_96g S2 S4 R4 f4 hQ ls l2 l1 l0)), M.rd1 F12 FK m4 z10 z18 f28.2, (F12.M.tr (FM.w (by decide) _ _)).tr FK.M⟩
  · have ea : aRead σ x = -1 := if_neg hx
    have en : nRead σ x = σ := by
      unfold nRead
      rw [if_neg (fun y => hx (Or.inl y)), if_neg (fun y => hx (Or.inr y))]
    rw [ea, en]
    have R0 := sp_isCN (d := 6) (h := h) (fun y => hx (Or.inl y)) (fun y => hx (Or.inr y))
    refine ⟨h, Run.of (d := 7) (Nat.le_of_ble_eq_true rfl) (fun Q hQ => ?_), M, FM.rf h⟩
    show Wp (Ex 7) 130 Q 0 [(0, .ref 47), (1, .int x)] [] h 0 0
    refine r_iload_n (q130 (i := 0) rfl) rfl ?_
    refine r_cS (d := _) (q130 (i := 1) rfl) rfl (Nat.le_of_ble_eq_true rfl) rfl rfl (Nat.le_of_ble_eq_true rfl) (Nat.zero_le _) (Nat.zero_le _) R0 ?_
    show Wp _ _ _ 4 [(0, .ref 47), (1, .int x)] [.int 0] h _ _
    refine r_if 9 (q130 (i := 2) rfl) (by decide) (fun zz => absurd zz (show ¬ (¬ (0 : Int32) = 0) from by decide)) (fun _ => ?_)
    refine r_iconst (v := (-1)) (q130 (i := 3) rfl) (by decide) ?_
    exact r_iret (q130 (i := 4) rfl) rfl hQ
