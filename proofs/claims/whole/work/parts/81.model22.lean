theorem FrK0.X {h h' : hp} (F : FrK0 h h') {t : txt} (X : XTm h t) (al : AL h t) (ol : OL h t) : XTm h' t ∧ AL h' t ∧ OL h' t := by
  obtain ⟨⟨a1, a2, a3⟩, a4, a5, a6⟩ := X
  have hN := a6.2.2.2
  have i : ∀ k, 1075 ≤ k → k < 1324 → hI h' k = hI h k := fun k x y => F.2.1 k (by omega) (by omega) (by omega) (by omega) (by omega) (by omega) (by omega) (by omega) (by omega) (by omega)
  refine ⟨⟨⟨a1.to (by rw [F.1]), by rw [i 1075 (by decide) (by decide)]; exact a2, by rw [i 1075 (by decide) (by decide)]; exact a3⟩, fun v hv => by rw [i 1077 (by decide) (by decide), i 1078 (by decide) (by decide)]; exact a4 v hv, fun q hq j hj => by rw [i (1080 + q) (by omega) (by omega)]; exact a5 q hq j hj, a6⟩, fun q hq => ?_, fun q hq => by rw [i 1321 (by decide) (by decide)]; exact ol q hq⟩
  obtain ⟨v, b1, b2, b3, b4⟩ := al q hq
  exact ⟨v, b1, b2, by rw [i (1080 + q) (by omega) (by omega)]; exact b3, b4⟩
theorem FrTh.K0 {h h' : hp} (F : FrTh h h') : FrK0 h h' := ⟨F.1, fun k _ _ _ _ _ _ _ _ x y => F.2 k x y, fun j _ _ => by rw [F.2 47 (by decide) (by decide)], fun j _ => by rw [F.2 48 (by decide) (by decide)], fun j _ => by rw [F.2 49 (by decide) (by decide)]⟩
set_option maxHeartbeats 2000000 in
set_option maxRecDepth 10000 in
theorem sp_bec0 {d : Nat} {t : txt} {K : Bool} {h : hp} {cc : ck} (X : XTm h t) (al : AL h t) (ol : OL h t) (e1 : hI h 47 1 = nI (tn t)) (m : MA h cc) (tk1 : ∀ q, q < tO t + 2 * tN t → tU t q / 2 = 0 ∨ tD t (tU t q / 2) ≠ 0) (tk2 : K = false → ∀ q, q < tO t + 2 * tN t → 2 ≤ tU t q) (tk3 : K = true → ∃ i, i < tO t + 2 * tN t ∧ tU t i < 2) (inj : ∀ v w, tD t v ≠ 0 → tD t v = tD t w → v = w) (ar : (arr t (tN t) 0 o00).1 = true) (iv : ainv t (tN t) (tor t)) : ∃ h', Run (d + 2 + 1) 129 [.ref 47, .int 0] h 0 0 none h' ∧ MA h' (flC K t cc) ∧ (hI h' 47 10 = 0 ∧ hI h' 47 18 = 0) ∧ FrK0 h h' := by
  have S := X.1.1
  have hN := X.2.2.2.2.2.2
  have fl := flg_is tk2 tk3
  have R1 := sp_emp0 (d := d) S
  obtain ⟨h1, eh1⟩ : ∃ x, x = chg (sI (sI h 48 0 0) 49 0 0) := ⟨_, rfl⟩
  rw [← eh1] at R1
  have F1 : FrK0 h h1 := by
    rw [eh1]
    refine ⟨rfl, fun q x1 x2 x3 x4 x5 x6 x7 x8 x9 x10 => ?_, fun j a b => ?_, fun j a => ?_, fun j a => ?_⟩
    · show u2 (u2 (u2 (u2 h.1 48 _ _) 49 _ _) 47 _ _) 47 _ _ q = _
      rw [u2_n x1, u2_n x1, u2_n x3, u2_n x2]
    · show u1 (u1 (h.1 47) 10 _) 18 _ j = _
      rw [u1_n b, u1_n a]
    · show u1 (h.1 48) 0 _ j = _
      rw [u1_n a]
    · show u1 (h.1 49) 0 _ j = _
      rw [u1_n a]
  obtain ⟨X1, al1, ol1⟩ := F1.X X al ol
  have S1 := X1.1.1
  have m1 : MA h1 (cc.1, 0, cc.2.2.1, 0) := by rw [eh1]; exact ⟨m.1, rfl, m.2.2.1, rfl⟩
  have z1 : hI h1 47 10 = 0 ∧ hI h1 47 18 = 0 := by rw [eh1]; exact ⟨rfl, rfl⟩
  obtain ⟨h2, T2, G2, K3⟩ := lp_b3 (d := d + 2) (f := bI (anyB (flg t) (tO t) || anyB (flg2 t) (tN t))) (x := 0) 1002 0 h1 rfl X1 (fun q hq => absurd hq (Nat.not_lt_zero q))
  have F2 := F1.tr G2.K0
  obtain ⟨X2, al2, ol2⟩ := F2.X X al ol
  have S2 := X2.1.1
  have e12 : hI h2 47 1 = nI (tn t) := (F2.2.2.1 1 (by decide) (by decide)).trans e1
  have m2 : MA h2 (cc.1, 0, cc.2.2.1, 0) := by
    have := m1
    unfold MA cirA at this ⊢
    rw [G2.2 51 (by decide) (by decide), G2.2 54 (by decide) (by decide), G2.2 57 (by decide) (by decide), G2.2 60 (by decide) (by decide), G2.2 48 (by decide) (by decide), G2.2 63 (by decide) (by decide), G2.2 49 (by decide) (by decide)]
    exact this
  have z2 : hI h2 47 10 = 0 ∧ hI h2 47 18 = 0 := by rw [G2.2 47 (by decide) (by decide)]; exact z1
  have T0 := TH0_no X2 T2
  cases K with
  | false =>
    have b2 : BS0 h2 t false o00.2 (cc.1, k0 false + 0, cc.2.2.1, 0) := ⟨X2, ⟨al2, ol2⟩, e12, T0, m2, z2⟩
    obtain ⟨h4, b4, F4, K4⟩ := lp_bp_0 (d := d) tk1 tk2 inj (tN t) 0 o00 _ h2 (Nat.zero_add _) (ainv_0 t) b2 ar
    obtain ⟨h5, b5, F5, K5⟩ := lp_bo_0 (d := d) (o := tor t) tk1 tk2 (fun b hb => ainv_all iv hb) (tO t) 0 _ h4 (Nat.zero_add _) b4
    refine ⟨h5, ?_, b5.2.2.2.2.1, b5.2.2.2.2.2, (F2.tr F4).tr F5⟩
    refine Run.of (d := d + 2) (Nat.le_of_ble_eq_true rfl) (fun Q hQ => ?_)
    · show Wp (Ex (d + 2)) 129 Q 0 [(0, .ref 47), (1, .int 0)] [] h 0 0
      have T317 : ∀ ls : List (Nat × Value), ls.lookup 1 = some (.int 0) → ls.lookup 0 = some (.ref 47) → Wp (Ex (d + 2)) 129 Q 317 ls [] h4 0 0 := fun ls l1 l0 => by
        refine r_iconst (v := nI 0) (q129 (i := 194) rfl) (by decide) ?_
        refine r_istore (ls' := lset1 ls 4 (.int (nI 0))) (q129 (i := 195) rfl) (Nat.le_of_ble_eq_true rfl) rfl ?_
        have l1 := lk1 (k := 4) (v := .int (nI 0)) l1 (by decide) (Or.inr (by decide))
        have l0 := lk1 (k := 4) (v := .int (nI 0)) l0 (by decide) (Or.inr (by decide))
        have l4 := lk0 ls 4 (.int (nI 0))
        generalize lset1 ls 4 (.int (nI 0)) = ls at l4 l1 l0 ⊢
        exact K5 Q 0 0 hQ ls l4 l1 l0
      have T145 : ∀ ls : List (Nat × Value), ls.lookup 2 = some (.int (bI (anyB (flg t) (tO t) || anyB (flg2 t) (tN t)))) → ls.lookup 1 = some (.int 0) → ls.lookup 0 = some (.ref 47) → Wp (Ex (d + 2)) 129 Q 145 ls [] h2 0 0 := fun ls l2 l1 l0 => by
        rw [fl] at l2
        have l2 : ls.lookup 2 = some (.int 0) := l2
        refine r_iload_n (q129 (i := 87) rfl) l2 ?_
        refine r_if 172 (q129 (i := 88) rfl) (by decide) (fun _ => ?_) (fun zz => absurd (show (0 : Int32) = 0 from by decide) zz)
        refine r_iconst (v := nI 0) (q129 (i := 105) rfl) (by decide) ?_
        refine r_istore_n (ls' := lset1 ls 3 (.int (nI 0))) (q129 (i := 106) rfl) (Nat.le_of_ble_eq_true rfl) rfl ?_
        have l2 := lk1 (k := 3) (v := .int (nI 0)) l2 (by decide) (Or.inl rfl)
        have l1 := lk1 (k := 3) (v := .int (nI 0)) l1 (by decide) (Or.inr (by decide))
        have l0 := lk1 (k := 3) (v := .int (nI 0)) l0 (by decide) (Or.inr (by decide))
        have l3 := lk0 ls 3 (.int (nI 0))
        generalize lset1 ls 3 (.int (nI 0)) = ls at l3 l2 l1 l0 ⊢
        exact K4 Q 0 0 T317 ls l3 l1 l0
      have T97 : ∀ ls : List (Nat × Value), ls.lookup 2 = some (.int (bI (anyB (flg t) (tO t) || anyB (flg2 t) (tN t)))) → ls.lookup 1 = some (.int 0) → ls.lookup 0 = some (.ref 47) → Wp (Ex (d + 2)) 129 Q 97 ls [] h1 0 0 := fun ls l2 l1 l0 => by
        refine r_iconst (v := nI 0) (q129 (i := 59) rfl) (by decide) ?_
        refine r_istore_n (ls' := lset1 ls 3 (.int (nI 0))) (q129 (i := 60) rfl) (Nat.le_of_ble_eq_true rfl) rfl ?_
        have l2 := lk1 (k := 3) (v := .int (nI 0)) l2 (by decide) (Or.inl rfl)
        have l1 := lk1 (k := 3) (v := .int (nI 0)) l1 (by decide) (Or.inr (by decide))
        have l0 := lk1 (k := 3) (v := .int (nI 0)) l0 (by decide) (Or.inr (by decide))
        have l3 := lk0 ls 3 (.int (nI 0))
        generalize lset1 ls 3 (.int (nI 0)) = ls at l3 l2 l1 l0 ⊢
        exact K3 Q 0 0 T145 ls l3 l2 l1 l0
      have T45 : ∀ ls : List (Nat × Value), ls.lookup 2 = some (.int (bI (anyB (flg t) (tO t)))) → ls.lookup 1 = some (.int 0) → ls.lookup 0 = some (.ref 47) → Wp (Ex (d + 2)) 129 Q 45 ls [] h1 0 0 := fun ls l2 l1 l0 => by
        refine r_iconst (v := nI 0) (q129 (i := 27) rfl) (by decide) ?_
        refine r_istore_n (ls' := lset1 ls 3 (.int (nI 0))) (q129 (i := 28) rfl) (Nat.le_of_ble_eq_true rfl) rfl ?_
        have l2 := lk1 (k := 3) (v := .int (nI 0)) l2 (by decide) (Or.inl rfl)
        have l1 := lk1 (k := 3) (v := .int (nI 0)) l1 (by decide) (Or.inr (by decide))
        have l0 := lk1 (k := 3) (v := .int (nI 0)) l0 (by decide) (Or.inr (by decide))
        have l3 := lk0 ls 3 (.int (nI 0))
        generalize lset1 ls 3 (.int (nI 0)) = ls at l3 l2 l1 l0 ⊢
        exact lp_b2_0 (d := d + 2) X1 (anyB (flg t) (tO t)) T97 (tN t) 0 (Nat.zero_add _) ls l3 (l2.trans (by rw [show anyB (flg2 t) 0 = false from rfl, Bool.or_false])) l1 l0
      refine r_aload_n (q129 (i := 0) rfl) rfl ?_
      refine r_iload_n (q129 (i := 1) rfl) rfl ?_
      refine r_cV (d := _) (q129 (i := 2) rfl) rfl rfl rfl (k_47 S) (Nat.le_of_ble_eq_true rfl) (Nat.zero_le _) (Nat.zero_le _) R1 ?_
      show Wp _ _ _ 5 [(0, .ref 47), (1, .int 0)] [] h1 _ _
      refine r_iconst (v := 0) (q129 (i := 3) rfl) (by decide) ?_
      refine r_istore_n (ls' := [(2, .int 0), (0, .ref 47), (1, .int 0)]) (q129 (i := 4) rfl) (Nat.le_of_ble_eq_true rfl) rfl ?_
      refine r_iconst (v := nI 0) (q129 (i := 5) rfl) (by decide) ?_
      refine r_istore_n (ls' := [(3, .int (nI 0)), (2, .int 0), (0, .ref 47), (1, .int 0)]) (q129 (i := 6) rfl) (Nat.le_of_ble_eq_true rfl) rfl ?_
      exact lp_b1_0 (d := d + 2) X1 ol1 T45 (tO t) 0 (Nat.zero_add _) _ rfl rfl rfl rfl
  | true =>
    have Rg := sp_mg0_8 (d := d) (h := sI h2 1325 0 1) (g := 0) (S2.to rfl) e12 m2.2.1 (by decide)
    have b3 : BS0 (sI (chg (sI (sI (sI (sI (sI (sI h2 1325 0 1) 51 0 8) 54 0 0) 57 0 0) 60 0 0) 48 0 (nI (0 + 1)))) 1324 0 (nI (tn t + 0))) t true o00.2 (addg cc.1 0 8 0 0 0, k0 true + 0, cc.2.2.1, 0) := by
      have F3 : FrK0 h2 (sI (chg (sI (sI (sI (sI (sI (sI h2 1325 0 1) 51 0 8) 54 0 0) 57 0 0) 60 0 0) 48 0 (nI (0 + 1)))) 1324 0 (nI (tn t + 0))) := by
        refine ⟨rfl, fun q x1 x2 x3 x4 x5 x6 x7 x8 x9 x10 => ?_, fun j a b => ?_, fun j a => ?_, fun j a => rfl⟩
        · show u2 (u2 (u2 (u2 (u2 (u2 (u2 (u2 (u2 h2.1 1325 _ _) 51 _ _) 54 _ _) 57 _ _) 60 _ _) 48 _ _) 47 _ _) 47 _ _) 1324 _ _ q = _
          rw [u2_n x9, u2_n x1, u2_n x1, u2_n x2, u2_n x7, u2_n x6, u2_n x5, u2_n x4, u2_n x10]
        · show u1 (u1 (h2.1 47) 10 _) 18 _ j = _
          rw [u1_n b, u1_n a]
        · show u1 (h2.1 48) 0 _ j = _
          rw [u1_n a]
      obtain ⟨X3, al3, ol3⟩ := F3.X X2 al2 ol2
      exact ⟨X3, ⟨al3, ol3⟩, e12, THS_yes T0 (nI (tn t + 0)) rfl, ⟨by have ec : cirA h2 = cc.1 := m2.1; rw [← ec]; rfl, rfl, m2.2.2.1, m2.2.2.2⟩, rfl, rfl⟩
    have F3 : FrK0 h2 (sI (chg (sI (sI (sI (sI (sI (sI h2 1325 0 1) 51 0 8) 54 0 0) 57 0 0) 60 0 0) 48 0 (nI (0 + 1)))) 1324 0 (nI (tn t + 0))) := by
      refine ⟨rfl, fun q x1 x2 x3 x4 x5 x6 x7 x8 x9 x10 => ?_, fun j a b => ?_, fun j a => ?_, fun j a => rfl⟩
      · show u2 (u2 (u2 (u2 (u2 (u2 (u2 (u2 (u2 h2.1 1325 _ _) 51 _ _) 54 _ _) 57 _ _) 60 _ _) 48 _ _) 47 _ _) 47 _ _) 1324 _ _ q = _
        rw [u2_n x9, u2_n x1, u2_n x1, u2_n x2, u2_n x7, u2_n x6, u2_n x5, u2_n x4, u2_n x10]
      · show u1 (u1 (h2.1 47) 10 _) 18 _ j = _
        rw [u1_n b, u1_n a]
      · show u1 (h2.1 48) 0 _ j = _
        rw [u1_n a]
    obtain ⟨h4, b4, F4, K4⟩ := lp_bp_0 (d := d) tk1 tk2 inj (tN t) 0 o00 _ (sI (chg (sI (sI (sI (sI (sI (sI h2 1325 0 1) 51 0 8) 54 0 0) 57 0 0) 60 0 0) 48 0 (nI (0 + 1)))) 1324 0 (nI (tn t + 0))) (Nat.zero_add _) (ainv_0 t) b3 ar
    obtain ⟨h5, b5, F5, K5⟩ := lp_bo_0 (d := d) (o := tor t) tk1 tk2 (fun b hb => ainv_all iv hb) (tO t) 0 _ h4 (Nat.zero_add _) b4
    refine ⟨h5, ?_, b5.2.2.2.2.1, b5.2.2.2.2.2, ((F2.tr F3).tr F4).tr F5⟩
    refine Run.of (d := d + 2) (Nat.le_of_ble_eq_true rfl) (fun Q hQ => ?_)
    · show Wp (Ex (d + 2)) 129 Q 0 [(0, .ref 47), (1, .int 0)] [] h 0 0
      have T317 : ∀ ls : List (Nat × Value), ls.lookup 1 = some (.int 0) → ls.lookup 0 = some (.ref 47) → Wp (Ex (d + 2)) 129 Q 317 ls [] h4 0 0 := fun ls l1 l0 => by
        refine r_iconst (v := nI 0) (q129 (i := 194) rfl) (by decide) ?_
        refine r_istore (ls' := lset1 ls 4 (.int (nI 0))) (q129 (i := 195) rfl) (Nat.le_of_ble_eq_true rfl) rfl ?_
        have l1 := lk1 (k := 4) (v := .int (nI 0)) l1 (by decide) (Or.inr (by decide))
        have l0 := lk1 (k := 4) (v := .int (nI 0)) l0 (by decide) (Or.inr (by decide))
        have l4 := lk0 ls 4 (.int (nI 0))
        generalize lset1 ls 4 (.int (nI 0)) = ls at l4 l1 l0 ⊢
        exact K5 Q 0 0 hQ ls l4 l1 l0
      have T145 : ∀ ls : List (Nat × Value), ls.lookup 2 = some (.int (bI (anyB (flg t) (tO t) || anyB (flg2 t) (tN t)))) → ls.lookup 1 = some (.int 0) → ls.lookup 0 = some (.ref 47) → Wp (Ex (d + 2)) 129 Q 145 ls [] h2 0 0 := fun ls l2 l1 l0 => by
        rw [fl] at l2
        have l2 : ls.lookup 2 = some (.int 1) := l2
        refine r_iload_n (q129 (i := 87) rfl) l2 ?_
        refine r_if 172 (q129 (i := 88) rfl) (by decide) (fun zz => absurd zz (show ¬ ((1 : Int32) = 0) from by decide)) (fun _ => ?_)
        refine r_aload_n (q129 (i := 89) rfl) l0 ?_
        refine r_getR (b := 1325) (q129 (i := 90) rfl) rfl (by decide) (k_47 S2) (fun _ _ _ => rfl) (r_47_40 S2) ?_
        refine r_iconst (v := 0) (q129 (i := 91) rfl) (by decide) ?_
        refine r_iconst (v := 1) (q129 (i := 92) rfl) (by decide) ?_
        refine r_zastore (q129 (i := 93) rfl) (k_1325 S2) (vp_in_nI (n := 0) (by decide) (by decide)) ?_
        show Wp _ _ _ _ _ _ (sI h2 1325 0 (vp_nar .boolean 1)) _ _
        refine r_aload_n (q129 (i := 94) rfl) l0 ?_
        refine r_getR (b := 1324) (q129 (i := 95) rfl) rfl (by decide) (k_47 S2) (fun _ _ _ => rfl) (r_47_39 S2) ?_
        refine r_iconst (v := 0) (q129 (i := 96) rfl) (by decide) ?_
        refine r_aload_n (q129 (i := 97) rfl) l0 ?_
        refine r_iload_n (q129 (i := 98) rfl) l1 ?_
        refine r_bipush (v := 8) (q129 (i := 99) rfl) (by decide) ?_
        refine r_iconst (v := 0) (q129 (i := 100) rfl) (by decide) ?_
        refine r_iconst (v := 0) (q129 (i := 101) rfl) (by decide) ?_
        refine r_iconst (v := 0) (q129 (i := 102) rfl) (by decide) ?_
        refine r_cV (d := _) (q129 (i := 103) rfl) rfl rfl rfl (k_47 S2) (Nat.le_of_ble_eq_true rfl) (Nat.zero_le _) (Nat.zero_le _) Rg ?_
        show Wp _ _ _ 171 ls [.int (nI (tn t + 0)), .int 0, .ref 1324] (chg (sI (sI (sI (sI (sI (sI h2 1325 0 1) 51 0 8) 54 0 0) 57 0 0) 60 0 0) 48 0 (nI (0 + 1)))) _ _
        refine r_iastore (q129 (i := 104) rfl) (k_1324 S2) (vp_in_nI (n := 0) (by decide) (by decide)) ?_
        show Wp _ _ _ _ _ _ (sI (chg (sI (sI (sI (sI (sI (sI h2 1325 0 1) 51 0 8) 54 0 0) 57 0 0) 60 0 0) 48 0 (nI (0 + 1)))) 1324 0 (nI (tn t + 0))) _ _
        refine r_iconst (v := nI 0) (q129 (i := 105) rfl) (by decide) ?_
        refine r_istore_n (ls' := lset1 ls 3 (.int (nI 0))) (q129 (i := 106) rfl) (Nat.le_of_ble_eq_true rfl) rfl ?_
        have l2 := lk1 (k := 3) (v := .int (nI 0)) l2 (by decide) (Or.inl rfl)
        have l1 := lk1 (k := 3) (v := .int (nI 0)) l1 (by decide) (Or.inr (by decide))
        have l0 := lk1 (k := 3) (v := .int (nI 0)) l0 (by decide) (Or.inr (by decide))
        have l3 := lk0 ls 3 (.int (nI 0))
        generalize lset1 ls 3 (.int (nI 0)) = ls at l3 l2 l1 l0 ⊢
        exact K4 Q 0 0 T317 ls l3 l1 l0
      have T97 : ∀ ls : List (Nat × Value), ls.lookup 2 = some (.int (bI (anyB (flg t) (tO t) || anyB (flg2 t) (tN t)))) → ls.lookup 1 = some (.int 0) → ls.lookup 0 = some (.ref 47) → Wp (Ex (d + 2)) 129 Q 97 ls [] h1 0 0 := fun ls l2 l1 l0 => by
        refine r_iconst (v := nI 0) (q129 (i := 59) rfl) (by decide) ?_
        refine r_istore_n (ls' := lset1 ls 3 (.int (nI 0))) (q129 (i := 60) rfl) (Nat.le_of_ble_eq_true rfl) rfl ?_
        have l2 := lk1 (k := 3) (v := .int (nI 0)) l2 (by decide) (Or.inl rfl)
        have l1 := lk1 (k := 3) (v := .int (nI 0)) l1 (by decide) (Or.inr (by decide))
        have l0 := lk1 (k := 3) (v := .int (nI 0)) l0 (by decide) (Or.inr (by decide))
        have l3 := lk0 ls 3 (.int (nI 0))
        generalize lset1 ls 3 (.int (nI 0)) = ls at l3 l2 l1 l0 ⊢
        exact K3 Q 0 0 T145 ls l3 l2 l1 l0
      have T45 : ∀ ls : List (Nat × Value), ls.lookup 2 = some (.int (bI (anyB (flg t) (tO t)))) → ls.lookup 1 = some (.int 0) → ls.lookup 0 = some (.ref 47) → Wp (Ex (d + 2)) 129 Q 45 ls [] h1 0 0 := fun ls l2 l1 l0 => by
        refine r_iconst (v := nI 0) (q129 (i := 27) rfl) (by decide) ?_
        refine r_istore_n (ls' := lset1 ls 3 (.int (nI 0))) (q129 (i := 28) rfl) (Nat.le_of_ble_eq_true rfl) rfl ?_
        have l2 := lk1 (k := 3) (v := .int (nI 0)) l2 (by decide) (Or.inl rfl)
        have l1 := lk1 (k := 3) (v := .int (nI 0)) l1 (by decide) (Or.inr (by decide))
        have l0 := lk1 (k := 3) (v := .int (nI 0)) l0 (by decide) (Or.inr (by decide))
        have l3 := lk0 ls 3 (.int (nI 0))
        generalize lset1 ls 3 (.int (nI 0)) = ls at l3 l2 l1 l0 ⊢
        exact lp_b2_0 (d := d + 2) X1 (anyB (flg t) (tO t)) T97 (tN t) 0 (Nat.zero_add _) ls l3 (l2.trans (by rw [show anyB (flg2 t) 0 = false from rfl, Bool.or_false])) l1 l0
      refine r_aload_n (q129 (i := 0) rfl) rfl ?_
      refine r_iload_n (q129 (i := 1) rfl) rfl ?_
      refine r_cV (d := _) (q129 (i := 2) rfl) rfl rfl rfl (k_47 S) (Nat.le_of_ble_eq_true rfl) (Nat.zero_le _) (Nat.zero_le _) R1 ?_
      show Wp _ _ _ 5 [(0, .ref 47), (1, .int 0)] [] h1 _ _
      refine r_iconst (v := 0) (q129 (i := 3) rfl) (by decide) ?_
      refine r_istore_n (ls' := [(2, .int 0), (0, .ref 47), (1, .int 0)]) (q129 (i := 4) rfl) (Nat.le_of_ble_eq_true rfl) rfl ?_
      refine r_iconst (v := nI 0) (q129 (i := 5) rfl) (by decide) ?_
      refine r_istore_n (ls' := [(3, .int (nI 0)), (2, .int 0), (0, .ref 47), (1, .int 0)]) (q129 (i := 6) rfl) (Nat.le_of_ble_eq_true rfl) rfl ?_
      exact lp_b1_0 (d := d + 2) X1 ol1 T45 (tO t) 0 (Nat.zero_add _) _ rfl rfl rfl rfl
theorem FrK1.X {h h' : hp} (F : FrK1 h h') {t : txt} (X : XTm h t) (al : AL h t) (ol : OL h t) : XTm h' t ∧ AL h' t ∧ OL h' t := by
  obtain ⟨⟨a1, a2, a3⟩, a4, a5, a6⟩ := X
  have hN := a6.2.2.2
  have i : ∀ k, 1075 ≤ k → k < 1324 → hI h' k = hI h k := fun k x y => F.2.1 k (by omega) (by omega) (by omega) (by omega) (by omega) (by omega) (by omega) (by omega) (by omega) (by omega)
  refine ⟨⟨⟨a1.to (by rw [F.1]), by rw [i 1075 (by decide) (by decide)]; exact a2, by rw [i 1075 (by decide) (by decide)]; exact a3⟩, fun v hv => by rw [i 1077 (by decide) (by decide), i 1078 (by decide) (by decide)]; exact a4 v hv, fun q hq j hj => by rw [i (1080 + q) (by omega) (by omega)]; exact a5 q hq j hj, a6⟩, fun q hq => ?_, fun q hq => by rw [i 1321 (by decide) (by decide)]; exact ol q hq⟩
  obtain ⟨v, b1, b2, b3, b4⟩ := al q hq
  exact ⟨v, b1, b2, by rw [i (1080 + q) (by omega) (by omega)]; exact b3, b4⟩
theorem FrTh.K1 {h h' : hp} (F : FrTh h h') : FrK1 h h' := ⟨F.1, fun k _ _ _ _ _ _ _ _ x y => F.2 k x y, fun j _ _ => by rw [F.2 47 (by decide) (by decide)], fun j _ => by rw [F.2 48 (by decide) (by decide)], fun j _ => by rw [F.2 49 (by decide) (by decide)]⟩
set_option maxHeartbeats 2000000 in
set_option maxRecDepth 10000 in
theorem sp_bec1 {d : Nat} {t : txt} {K : Bool} {h : hp} {cc : ck} (X : XTm h t) (al : AL h t) (ol : OL h t) (e1 : hI h 47 1 = nI (tn t)) (m : MB h cc) (tk1 : ∀ q, q < tO t + 2 * tN t → tU t q / 2 = 0 ∨ tD t (tU t q / 2) ≠ 0) (tk2 : K = false → ∀ q, q < tO t + 2 * tN t → 2 ≤ tU t q) (tk3 : K = true → ∃ i, i < tO t + 2 * tN t ∧ tU t i < 2) (inj : ∀ v w, tD t v ≠ 0 → tD t v = tD t w → v = w) (ar : (arr t (tN t) 0 o00).1 = true) (iv : ainv t (tN t) (tor t)) : ∃ h', Run (d + 2 + 1) 129 [.ref 47, .int 1] h 0 0 none h' ∧ MB h' (flC K t cc) ∧ (hI h' 47 10 = 0 ∧ hI h' 47 18 = 0) ∧ FrK1 h h' := by
  have S := X.1.1
  have hN := X.2.2.2.2.2.2
  have fl := flg_is tk2 tk3
  have R1 := sp_emp1 (d := d) S
  obtain ⟨h1, eh1⟩ : ∃ x, x = chg (sI (sI h 48 1 0) 49 1 0) := ⟨_, rfl⟩
  rw [← eh1] at R1
  have F1 : FrK1 h h1 := by
    rw [eh1]
    refine ⟨rfl, fun q x1 x2 x3 x4 x5 x6 x7 x8 x9 x10 => ?_, fun j a b => ?_, fun j a => ?_, fun j a => ?_⟩
    · show u2 (u2 (u2 (u2 h.1 48 _ _) 49 _ _) 47 _ _) 47 _ _ q = _
      rw [u2_n x1, u2_n x1, u2_n x3, u2_n x2]
    · show u1 (u1 (h.1 47) 10 _) 18 _ j = _
      rw [u1_n b, u1_n a]
    · show u1 (h.1 48) 1 _ j = _
      rw [u1_n a]
    · show u1 (h.1 49) 1 _ j = _
      rw [u1_n a]
  obtain ⟨X1, al1, ol1⟩ := F1.X X al ol
  have S1 := X1.1.1
  have m1 : MB h1 (cc.1, 0, cc.2.2.1, 0) := by rw [eh1]; exact ⟨m.1, rfl, m.2.2.1, rfl⟩
  have z1 : hI h1 47 10 = 0 ∧ hI h1 47 18 = 0 := by rw [eh1]; exact ⟨rfl, rfl⟩
  obtain ⟨h2, T2, G2, K3⟩ := lp_b3 (d := d + 2) (f := bI (anyB (flg t) (tO t) || anyB (flg2 t) (tN t))) (x := 1) 1002 0 h1 rfl X1 (fun q hq => absurd hq (Nat.not_lt_zero q))
  have F2 := F1.tr G2.K1
  obtain ⟨X2, al2, ol2⟩ := F2.X X al ol
  have S2 := X2.1.1
  have e12 : hI h2 47 1 = nI (tn t) := (F2.2.2.1 1 (by decide) (by decide)).trans e1
  have m2 : MB h2 (cc.1, 0, cc.2.2.1, 0) := by
    have := m1
    unfold MB cirB at this ⊢
    rw [G2.2 52 (by decide) (by decide), G2.2 55 (by decide) (by decide), G2.2 58 (by decide) (by decide), G2.2 61 (by decide) (by decide), G2.2 48 (by decide) (by decide), G2.2 64 (by decide) (by decide), G2.2 49 (by decide) (by decide)]
    exact this
  have z2 : hI h2 47 10 = 0 ∧ hI h2 47 18 = 0 := by rw [G2.2 47 (by decide) (by decide)]; exact z1
  have T0 := TH0_no X2 T2
  cases K with
  | false =>
    have b2 : BS1 h2 t false o00.2 (cc.1, k0 false + 0, cc.2.2.1, 0) := ⟨X2, ⟨al2, ol2⟩, e12, T0, m2, z2⟩
    obtain ⟨h4, b4, F4, K4⟩ := lp_bp_1 (d := d) tk1 tk2 inj (tN t) 0 o00 _ h2 (Nat.zero_add _) (ainv_0 t) b2 ar
    obtain ⟨h5, b5, F5, K5⟩ := lp_bo_1 (d := d) (o := tor t) tk1 tk2 (fun b hb => ainv_all iv hb) (tO t) 0 _ h4 (Nat.zero_add _) b4
    refine ⟨h5, ?_, b5.2.2.2.2.1, b5.2.2.2.2.2, (F2.tr F4).tr F5⟩
    refine Run.of (d := d + 2) (Nat.le_of_ble_eq_true rfl) (fun Q hQ => ?_)
    · show Wp (Ex (d + 2)) 129 Q 0 [(0, .ref 47), (1, .int 1)] [] h 0 0
      have T317 : ∀ ls : List (Nat × Value), ls.lookup 1 = some (.int 1) → ls.lookup 0 = some (.ref 47) → Wp (Ex (d + 2)) 129 Q 317 ls [] h4 0 0 := fun ls l1 l0 => by
        refine r_iconst (v := nI 0) (q129 (i := 194) rfl) (by decide) ?_
        refine r_istore (ls' := lset1 ls 4 (.int (nI 0))) (q129 (i := 195) rfl) (Nat.le_of_ble_eq_true rfl) rfl ?_
        have l1 := lk1 (k := 4) (v := .int (nI 0)) l1 (by decide) (Or.inr (by decide))
        have l0 := lk1 (k := 4) (v := .int (nI 0)) l0 (by decide) (Or.inr (by decide))
        have l4 := lk0 ls 4 (.int (nI 0))
        generalize lset1 ls 4 (.int (nI 0)) = ls at l4 l1 l0 ⊢
        exact K5 Q 0 0 hQ ls l4 l1 l0
      have T145 : ∀ ls : List (Nat × Value), ls.lookup 2 = some (.int (bI (anyB (flg t) (tO t) || anyB (flg2 t) (tN t)))) → ls.lookup 1 = some (.int 1) → ls.lookup 0 = some (.ref 47) → Wp (Ex (d + 2)) 129 Q 145 ls [] h2 0 0 := fun ls l2 l1 l0 => by
        rw [fl] at l2
        have l2 : ls.lookup 2 = some (.int 0) := l2
        refine r_iload_n (q129 (i := 87) rfl) l2 ?_
        refine r_if 172 (q129 (i := 88) rfl) (by decide) (fun _ => ?_) (fun zz => absurd (show (0 : Int32) = 0 from by decide) zz)
        refine r_iconst (v := nI 0) (q129 (i := 105) rfl) (by decide) ?_
        refine r_istore_n (ls' := lset1 ls 3 (.int (nI 0))) (q129 (i := 106) rfl) (Nat.le_of_ble_eq_true rfl) rfl ?_
        have l2 := lk1 (k := 3) (v := .int (nI 0)) l2 (by decide) (Or.inl rfl)
        have l1 := lk1 (k := 3) (v := .int (nI 0)) l1 (by decide) (Or.inr (by decide))
        have l0 := lk1 (k := 3) (v := .int (nI 0)) l0 (by decide) (Or.inr (by decide))
        have l3 := lk0 ls 3 (.int (nI 0))
        generalize lset1 ls 3 (.int (nI 0)) = ls at l3 l2 l1 l0 ⊢
        exact K4 Q 0 0 T317 ls l3 l1 l0
      have T97 : ∀ ls : List (Nat × Value), ls.lookup 2 = some (.int (bI (anyB (flg t) (tO t) || anyB (flg2 t) (tN t)))) → ls.lookup 1 = some (.int 1) → ls.lookup 0 = some (.ref 47) → Wp (Ex (d + 2)) 129 Q 97 ls [] h1 0 0 := fun ls l2 l1 l0 => by
        refine r_iconst (v := nI 0) (q129 (i := 59) rfl) (by decide) ?_
        refine r_istore_n (ls' := lset1 ls 3 (.int (nI 0))) (q129 (i := 60) rfl) (Nat.le_of_ble_eq_true rfl) rfl ?_
        have l2 := lk1 (k := 3) (v := .int (nI 0)) l2 (by decide) (Or.inl rfl)
        have l1 := lk1 (k := 3) (v := .int (nI 0)) l1 (by decide) (Or.inr (by decide))
        have l0 := lk1 (k := 3) (v := .int (nI 0)) l0 (by decide) (Or.inr (by decide))
        have l3 := lk0 ls 3 (.int (nI 0))
        generalize lset1 ls 3 (.int (nI 0)) = ls at l3 l2 l1 l0 ⊢
        exact K3 Q 0 0 T145 ls l3 l2 l1 l0
      have T45 : ∀ ls : List (Nat × Value), ls.lookup 2 = some (.int (bI (anyB (flg t) (tO t)))) → ls.lookup 1 = some (.int 1) → ls.lookup 0 = some (.ref 47) → Wp (Ex (d + 2)) 129 Q 45 ls [] h1 0 0 := fun ls l2 l1 l0 => by
        refine r_iconst (v := nI 0) (q129 (i := 27) rfl) (by decide) ?_
        refine r_istore_n (ls' := lset1 ls 3 (.int (nI 0))) (q129 (i := 28) rfl) (Nat.le_of_ble_eq_true rfl) rfl ?_
        have l2 := lk1 (k := 3) (v := .int (nI 0)) l2 (by decide) (Or.inl rfl)
        have l1 := lk1 (k := 3) (v := .int (nI 0)) l1 (by decide) (Or.inr (by decide))
        have l0 := lk1 (k := 3) (v := .int (nI 0)) l0 (by decide) (Or.inr (by decide))
        have l3 := lk0 ls 3 (.int (nI 0))
        generalize lset1 ls 3 (.int (nI 0)) = ls at l3 l2 l1 l0 ⊢
        exact lp_b2_1 (d := d + 2) X1 (anyB (flg t) (tO t)) T97 (tN t) 0 (Nat.zero_add _) ls l3 (l2.trans (by rw [show anyB (flg2 t) 0 = false from rfl, Bool.or_false])) l1 l0
      refine r_aload_n (q129 (i := 0) rfl) rfl ?_
      refine r_iload_n (q129 (i := 1) rfl) rfl ?_
      refine r_cV (d := _) (q129 (i := 2) rfl) rfl rfl rfl (k_47 S) (Nat.le_of_ble_eq_true rfl) (Nat.zero_le _) (Nat.zero_le _) R1 ?_
      show Wp _ _ _ 5 [(0, .ref 47), (1, .int 1)] [] h1 _ _
      refine r_iconst (v := 0) (q129 (i := 3) rfl) (by decide) ?_
      refine r_istore_n (ls' := [(2, .int 0), (0, .ref 47), (1, .int 1)]) (q129 (i := 4) rfl) (Nat.le_of_ble_eq_true rfl) rfl ?_
      refine r_iconst (v := nI 0) (q129 (i := 5) rfl) (by decide) ?_
      refine r_istore_n (ls' := [(3, .int (nI 0)), (2, .int 0), (0, .ref 47), (1, .int 1)]) (q129 (i := 6) rfl) (Nat.le_of_ble_eq_true rfl) rfl ?_
      exact lp_b1_1 (d := d + 2) X1 ol1 T45 (tO t) 0 (Nat.zero_add _) _ rfl rfl rfl rfl
  | true =>
    have Rg := sp_mg1_8 (d := d) (h := sI h2 1325 0 1) (g := 0) (S2.to rfl) e12 m2.2.1 (by decide)
    have b3 : BS1 (sI (chg (sI (sI (sI (sI (sI (sI h2 1325 0 1) 52 0 8) 55 0 0) 58 0 0) 61 0 0) 48 1 (nI (0 + 1)))) 1324 0 (nI (tn t + 0))) t true o00.2 (addg cc.1 0 8 0 0 0, k0 true + 0, cc.2.2.1, 0) := by
      have F3 : FrK1 h2 (sI (chg (sI (sI (sI (sI (sI (sI h2 1325 0 1) 52 0 8) 55 0 0) 58 0 0) 61 0 0) 48 1 (nI (0 + 1)))) 1324 0 (nI (tn t + 0))) := by
        refine ⟨rfl, fun q x1 x2 x3 x4 x5 x6 x7 x8 x9 x10 => ?_, fun j a b => ?_, fun j a => ?_, fun j a => rfl⟩
        · show u2 (u2 (u2 (u2 (u2 (u2 (u2 (u2 (u2 h2.1 1325 _ _) 52 _ _) 55 _ _) 58 _ _) 61 _ _) 48 _ _) 47 _ _) 47 _ _) 1324 _ _ q = _
          rw [u2_n x9, u2_n x1, u2_n x1, u2_n x2, u2_n x7, u2_n x6, u2_n x5, u2_n x4, u2_n x10]
        · show u1 (u1 (h2.1 47) 10 _) 18 _ j = _
          rw [u1_n b, u1_n a]
        · show u1 (h2.1 48) 1 _ j = _
          rw [u1_n a]
      obtain ⟨X3, al3, ol3⟩ := F3.X X2 al2 ol2
      exact ⟨X3, ⟨al3, ol3⟩, e12, THS_yes T0 (nI (tn t + 0)) rfl, ⟨by have ec : cirB h2 = cc.1 := m2.1; rw [← ec]; rfl, rfl, m2.2.2.1, m2.2.2.2⟩, rfl, rfl⟩
    have F3 : FrK1 h2 (sI (chg (sI (sI (sI (sI (sI (sI h2 1325 0 1) 52 0 8) 55 0 0) 58 0 0) 61 0 0) 48 1 (nI (0 + 1)))) 1324 0 (nI (tn t + 0))) := by
      refine ⟨rfl, fun q x1 x2 x3 x4 x5 x6 x7 x8 x9 x10 => ?_, fun j a b => ?_, fun j a => ?_, fun j a => rfl⟩
      · show u2 (u2 (u2 (u2 (u2 (u2 (u2 (u2 (u2 h2.1 1325 _ _) 52 _ _) 55 _ _) 58 _ _) 61 _ _) 48 _ _) 47 _ _) 47 _ _) 1324 _ _ q = _
        rw [u2_n x9, u2_n x1, u2_n x1, u2_n x2, u2_n x7, u2_n x6, u2_n x5, u2_n x4, u2_n x10]
      · show u1 (u1 (h2.1 47) 10 _) 18 _ j = _
        rw [u1_n b, u1_n a]
      · show u1 (h2.1 48) 1 _ j = _
        rw [u1_n a]
    obtain ⟨h4, b4, F4, K4⟩ := lp_bp_1 (d := d) tk1 tk2 inj (tN t) 0 o00 _ (sI (chg (sI (sI (sI (sI (sI (sI h2 1325 0 1) 52 0 8) 55 0 0) 58 0 0) 61 0 0) 48 1 (nI (0 + 1)))) 1324 0 (nI (tn t + 0))) (Nat.zero_add _) (ainv_0 t) b3 ar
    obtain ⟨h5, b5, F5, K5⟩ := lp_bo_1 (d := d) (o := tor t) tk1 tk2 (fun b hb => ainv_all iv hb) (tO t) 0 _ h4 (Nat.zero_add _) b4
    refine ⟨h5, ?_, b5.2.2.2.2.1, b5.2.2.2.2.2, ((F2.tr F3).tr F4).tr F5⟩
    refine Run.of (d := d + 2) (Nat.le_of_ble_eq_true rfl) (fun Q hQ => ?_)
    · show Wp (Ex (d + 2)) 129 Q 0 [(0, .ref 47), (1, .int 1)] [] h 0 0
      have T317 : ∀ ls : List (Nat × Value), ls.lookup 1 = some (.int 1) → ls.lookup 0 = some (.ref 47) → Wp (Ex (d + 2)) 129 Q 317 ls [] h4 0 0 := fun ls l1 l0 => by
        refine r_iconst (v := nI 0) (q129 (i := 194) rfl) (by decide) ?_
        refine r_istore (ls' := lset1 ls 4 (.int (nI 0))) (q129 (i := 195) rfl) (Nat.le_of_ble_eq_true rfl) rfl ?_
        have l1 := lk1 (k := 4) (v := .int (nI 0)) l1 (by decide) (Or.inr (by decide))
        have l0 := lk1 (k := 4) (v := .int (nI 0)) l0 (by decide) (Or.inr (by decide))
        have l4 := lk0 ls 4 (.int (nI 0))
        generalize lset1 ls 4 (.int (nI 0)) = ls at l4 l1 l0 ⊢
        exact K5 Q 0 0 hQ ls l4 l1 l0
      have T145 : ∀ ls : List (Nat × Value), ls.lookup 2 = some (.int (bI (anyB (flg t) (tO t) || anyB (flg2 t) (tN t)))) → ls.lookup 1 = some (.int 1) → ls.lookup 0 = some (.ref 47) → Wp (Ex (d + 2)) 129 Q 145 ls [] h2 0 0 := fun ls l2 l1 l0 => by
        rw [fl] at l2
        have l2 : ls.lookup 2 = some (.int 1) := l2
        refine r_iload_n (q129 (i := 87) rfl) l2 ?_
        refine r_if 172 (q129 (i := 88) rfl) (by decide) (fun zz => absurd zz (show ¬ ((1 : Int32) = 0) from by decide)) (fun _ => ?_)
        refine r_aload_n (q129 (i := 89) rfl) l0 ?_
        refine r_getR (b := 1325) (q129 (i := 90) rfl) rfl (by decide) (k_47 S2) (fun _ _ _ => rfl) (r_47_40 S2) ?_
        refine r_iconst (v := 0) (q129 (i := 91) rfl) (by decide) ?_
        refine r_iconst (v := 1) (q129 (i := 92) rfl) (by decide) ?_
        refine r_zastore (q129 (i := 93) rfl) (k_1325 S2) (vp_in_nI (n := 0) (by decide) (by decide)) ?_
        show Wp _ _ _ _ _ _ (sI h2 1325 0 (vp_nar .boolean 1)) _ _
        refine r_aload_n (q129 (i := 94) rfl) l0 ?_
        refine r_getR (b := 1324) (q129 (i := 95) rfl) rfl (by decide) (k_47 S2) (fun _ _ _ => rfl) (r_47_39 S2) ?_
        refine r_iconst (v := 0) (q129 (i := 96) rfl) (by decide) ?_
        refine r_aload_n (q129 (i := 97) rfl) l0 ?_
        refine r_iload_n (q129 (i := 98) rfl) l1 ?_
        refine r_bipush (v := 8) (q129 (i := 99) rfl) (by decide) ?_
        refine r_iconst (v := 0) (q129 (i := 100) rfl) (by decide) ?_
        refine r_iconst (v := 0) (q129 (i := 101) rfl) (by decide) ?_
        refine r_iconst (v := 0) (q129 (i := 102) rfl) (by decide) ?_
        refine r_cV (d := _) (q129 (i := 103) rfl) rfl rfl rfl (k_47 S2) (Nat.le_of_ble_eq_true rfl) (Nat.zero_le _) (Nat.zero_le _) Rg ?_
        show Wp _ _ _ 171 ls [.int (nI (tn t + 0)), .int 0, .ref 1324] (chg (sI (sI (sI (sI (sI (sI h2 1325 0 1) 52 0 8) 55 0 0) 58 0 0) 61 0 0) 48 1 (nI (0 + 1)))) _ _
        refine r_iastore (q129 (i := 104) rfl) (k_1324 S2) (vp_in_nI (n := 0) (by decide) (by decide)) ?_
        show Wp _ _ _ _ _ _ (sI (chg (sI (sI (sI (sI (sI (sI h2 1325 0 1) 52 0 8) 55 0 0) 58 0 0) 61 0 0) 48 1 (nI (0 + 1)))) 1324 0 (nI (tn t + 0))) _ _
        refine r_iconst (v := nI 0) (q129 (i := 105) rfl) (by decide) ?_
        refine r_istore_n (ls' := lset1 ls 3 (.int (nI 0))) (q129 (i := 106) rfl) (Nat.le_of_ble_eq_true rfl) rfl ?_
        have l2 := lk1 (k := 3) (v := .int (nI 0)) l2 (by decide) (Or.inl rfl)
        have l1 := lk1 (k := 3) (v := .int (nI 0)) l1 (by decide) (Or.inr (by decide))
        have l0 := lk1 (k := 3) (v := .int (nI 0)) l0 (by decide) (Or.inr (by decide))
        have l3 := lk0 ls 3 (.int (nI 0))
        generalize lset1 ls 3 (.int (nI 0)) = ls at l3 l2 l1 l0 ⊢
        exact K4 Q 0 0 T317 ls l3 l1 l0
      have T97 : ∀ ls : List (Nat × Value), ls.lookup 2 = some (.int (bI (anyB (flg t) (tO t) || anyB (flg2 t) (tN t)))) → ls.lookup 1 = some (.int 1) → ls.lookup 0 = some (.ref 47) → Wp (Ex (d + 2)) 129 Q 97 ls [] h1 0 0 := fun ls l2 l1 l0 => by
        refine r_iconst (v := nI 0) (q129 (i := 59) rfl) (by decide) ?_
        refine r_istore_n (ls' := lset1 ls 3 (.int (nI 0))) (q129 (i := 60) rfl) (Nat.le_of_ble_eq_true rfl) rfl ?_
        have l2 := lk1 (k := 3) (v := .int (nI 0)) l2 (by decide) (Or.inl rfl)
        have l1 := lk1 (k := 3) (v := .int (nI 0)) l1 (by decide) (Or.inr (by decide))
        have l0 := lk1 (k := 3) (v := .int (nI 0)) l0 (by decide) (Or.inr (by decide))
        have l3 := lk0 ls 3 (.int (nI 0))
        generalize lset1 ls 3 (.int (nI 0)) = ls at l3 l2 l1 l0 ⊢
        exact K3 Q 0 0 T145 ls l3 l2 l1 l0
      have T45 : ∀ ls : List (Nat × Value), ls.lookup 2 = some (.int (bI (anyB (flg t) (tO t)))) → ls.lookup 1 = some (.int 1) → ls.lookup 0 = some (.ref 47) → Wp (Ex (d + 2)) 129 Q 45 ls [] h1 0 0 := fun ls l2 l1 l0 => by
        refine r_iconst (v := nI 0) (q129 (i := 27) rfl) (by decide) ?_
        refine r_istore_n (ls' := lset1 ls 3 (.int (nI 0))) (q129 (i := 28) rfl) (Nat.le_of_ble_eq_true rfl) rfl ?_
        have l2 := lk1 (k := 3) (v := .int (nI 0)) l2 (by decide) (Or.inl rfl)
        have l1 := lk1 (k := 3) (v := .int (nI 0)) l1 (by decide) (Or.inr (by decide))
        have l0 := lk1 (k := 3) (v := .int (nI 0)) l0 (by decide) (Or.inr (by decide))
        have l3 := lk0 ls 3 (.int (nI 0))
        generalize lset1 ls 3 (.int (nI 0)) = ls at l3 l2 l1 l0 ⊢
        exact lp_b2_1 (d := d + 2) X1 (anyB (flg t) (tO t)) T97 (tN t) 0 (Nat.zero_add _) ls l3 (l2.trans (by rw [show anyB (flg2 t) 0 = false from rfl, Bool.or_false])) l1 l0
      refine r_aload_n (q129 (i := 0) rfl) rfl ?_
      refine r_iload_n (q129 (i := 1) rfl) rfl ?_
      refine r_cV (d := _) (q129 (i := 2) rfl) rfl rfl rfl (k_47 S) (Nat.le_of_ble_eq_true rfl) (Nat.zero_le _) (Nat.zero_le _) R1 ?_
      show Wp _ _ _ 5 [(0, .ref 47), (1, .int 1)] [] h1 _ _
      refine r_iconst (v := 0) (q129 (i := 3) rfl) (by decide) ?_
      refine r_istore_n (ls' := [(2, .int 0), (0, .ref 47), (1, .int 1)]) (q129 (i := 4) rfl) (Nat.le_of_ble_eq_true rfl) rfl ?_
      refine r_iconst (v := nI 0) (q129 (i := 5) rfl) (by decide) ?_
      refine r_istore_n (ls' := [(3, .int (nI 0)), (2, .int 0), (0, .ref 47), (1, .int 1)]) (q129 (i := 6) rfl) (Nat.le_of_ble_eq_true rfl) rfl ?_
      exact lp_b1_1 (d := d + 2) X1 ol1 T45 (tO t) 0 (Nat.zero_add _) _ rfl rfl rfl rfl
