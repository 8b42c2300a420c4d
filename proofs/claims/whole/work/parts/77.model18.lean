def AL (h : hp) (t : txt) : Prop := ∀ i, i < tN t → ∃ v, 0 < v ∧ v < 1001 ∧ hI h (1080 + i) 0 = nI (2 * v) ∧ tD t v = tn t + 1 + i
theorem thv_lhs {t : txt} {K : Bool} {rk : Nat → Option Nat} {v k : Nat} (h0 : 0 < v) (h : tD t v = tn t + 1 + k) : thv t K rk v = (rk k).isSome := by
  unfold thv
  rw [if_neg (by omega), if_neg (by omega), if_neg (by omega), h, show tn t + 1 + k - tn t - 1 = k by omega]
theorem half2 {v : Nat} (h : v < 1001) : nI (2 * v) / 2 = nI v := by rw [div2 (by omega), show 2 * v / 2 = v by omega]
set_option maxHeartbeats 2000000 in
set_option maxRecDepth 10000 in
theorem lp_bs {d : Nat} {t : txt} {K : Bool} {rk : Nat → Option Nat} {h : hp} (X : XTm h t) (al : AL h t) (T : THS h t K rk) (hK : K = false → ∀ i, i < tO t + 2 * tN t → 2 ≤ tU t i) (hU : ∀ i, i < tO t + 2 * tN t → tU t i / 2 = 0 ∨ tD t (tU t i / 2) ≠ 0) {r : Nat} (hf : frdy t rk = some r) {p x : Int32} {Q : resP} {bc bs : Nat} (kk : ∀ ls : List (Nat × Value), ls.lookup 4 = some (.int (nI r)) → ls.lookup 3 = some (.int p) → ls.lookup 1 = some (.int x) → ls.lookup 0 = some (.ref 47) → Wp (Ex d) 129 Q 250 ls [] h bc bs) : ∀ (m k : Nat), k + m = r → ∀ ls : List (Nat × Value), ls.lookup 4 = some (.int (nI k)) → ls.lookup 3 = some (.int p) → ls.lookup 1 = some (.int x) → ls.lookup 0 = some (.ref 47) → Wp (Ex d) 129 Q 187 ls [] h bc bs := by
  have S := X.1.1
  have hN := X.2.2.2.2.2.2
  have hfr : r = lst (rdy t rk) (tN t) ∧ r < tN t := by
    unfold frdy at hf
    split at hf
    · rename_i w
      injection hf with hf
      exact ⟨hf.symm, by omega⟩
    · cases hf
  obtain ⟨l1f, l2f, l3f⟩ := lst_facts (rdy t rk) (tN t)
  rw [← hfr.1] at l1f l2f l3f
  have hr := l3f hfr.2
  intro m
  induction m with
  | zero =>
    intro k hm ls l4 l3 l1 l0
    have e : k = r := by omega
    subst e
    have hkN : k < tN t := by omega
    obtain ⟨v, v0, v1, v2, v3⟩ := al k hkN
    have x2 := X.2.2.1 k hkN
    have y0 := (x2 0 (by decide)).2
    have y1 := (x2 1 (by decide)).2
    have t0 := (T v (by omega)).1
    rw [thv_lhs v0 v3] at t0
    have t1 := (T (sid t k 0 / 2) (by omega)).1
    have t2 := (T (sid t k 1 / 2) (by omega)).1
    rw [thv_thr (lit := sid t k 0) (fun w => hK w (tO t + 2 * k + 0) (by omega)) X.2.2.2.1.1 (hU (tO t + 2 * k + 0) (by omega))] at t1
    rw [thv_thr (lit := sid t k 1) (fun w => hK w (tO t + 2 * k + 1) (by omega)) X.2.2.2.1.1 (hU (tO t + 2 * k + 1) (by omega))] at t2
    unfold rdy at hr
    rw [Bool.and_eq_true, Bool.and_eq_true] at hr
    have q0 : (rk k).isSome = false := by
      cases w : (rk k).isSome with
      | true => rw [w] at hr; exact absurd hr.1.1 (by decide)
      | false => rfl
    rw [q0] at t0
    rw [hr.1.2] at t1
    rw [hr.2] at t2
    have t0 : hI h 1325 v = 0 := t0
    have t1 : hI h 1325 (sid t k 0 / 2) = 1 := t1
    have t2 : hI h 1325 (sid t k 1 / 2) = 1 := t2
    refine r_aload_n (q129 (i := 115) rfl) l0 ?_
    refine r_getR (b := 1325) (q129 (i := 116) rfl) rfl (by decide) (k_47 S) (fun _ _ _ => rfl) (r_47_40 S) ?_
    refine r_aload_n (q129 (i := 117) rfl) l0 ?_
    refine r_getR (b := 1079) (q129 (i := 118) rfl) rfl (by decide) (k_47 S) (fun _ _ _ => rfl) (r_47_34 S) ?_
    refine r_iload (q129 (i := 119) rfl) l4 ?_
    refine r_aa5N (q129 (i := 120) rfl) (k_1079 S) (by omega) (by decide) (rAnd S (by omega)) ?_
    refine r_iconst (v := 0) (q129 (i := 121) rfl) (by decide) ?_
    refine r_iaload (x := nI (2 * v)) (q129 (i := 122) rfl) (kAnd S (x := k) (by omega)) (vp_in_nI (n := 0) (by decide) (by decide)) v2 ?_
    refine r_iconst (v := 2) (q129 (i := 123) rfl) (by decide) ?_
    refine r_idiv (q129 (i := 124) rfl) (by decide) ?_
    rw [show ((nI (2 * v)) / 2 : Int32) = nI v from half2 v1]
    refine r_zaN (x := 0) (q129 (i := 125) rfl) (k_1325 S) (by omega) (by decide) t0 ?_
    refine r_if 244 (q129 (i := 126) rfl) (by decide) (fun zz => absurd zz (show ¬ (¬ (0 : Int32) = 0) from by decide)) (fun _ => ?_)
    refine r_aload_n (q129 (i := 127) rfl) l0 ?_
    refine r_getR (b := 1325) (q129 (i := 128) rfl) rfl (by decide) (k_47 S) (fun _ _ _ => rfl) (r_47_40 S) ?_
    refine r_aload_n (q129 (i := 129) rfl) l0 ?_
    refine r_getR (b := 1079) (q129 (i := 130) rfl) rfl (by decide) (k_47 S) (fun _ _ _ => rfl) (r_47_34 S) ?_
    refine r_iload (q129 (i := 131) rfl) l4 ?_
    refine r_aa5N (q129 (i := 132) rfl) (k_1079 S) (by omega) (by decide) (rAnd S (by omega)) ?_
    refine r_iconst (v := 1) (q129 (i := 133) rfl) (by decide) ?_
    refine r_iaload (x := nI (sid t k 0)) (q129 (i := 134) rfl) (kAnd S (x := k) (by omega)) (vp_in_nI (n := 1) (by decide) (by decide)) ((x2 0 (by decide)).1) ?_
    refine r_iconst (v := 2) (q129 (i := 135) rfl) (by decide) ?_
    refine r_idiv (q129 (i := 136) rfl) (by decide) ?_
    rw [show ((nI (sid t k 0)) / 2 : Int32) = nI (sid t k 0 / 2) from div2 (by omega)]
    refine r_zaN (x := 1) (q129 (i := 137) rfl) (k_1325 S) (by omega) (by decide) t1 ?_
    refine r_if 244 (q129 (i := 138) rfl) (by decide) (fun zz => absurd zz (show ¬ ((1 : Int32) = 0) from by decide)) (fun _ => ?_)
    refine r_aload_n (q129 (i := 139) rfl) l0 ?_
    refine r_getR (b := 1325) (q129 (i := 140) rfl) rfl (by decide) (k_47 S) (fun _ _ _ => rfl) (r_47_40 S) ?_
    refine r_aload_n (q129 (i := 141) rfl) l0 ?_
    refine r_getR (b := 1079) (q129 (i := 142) rfl) rfl (by decide) (k_47 S) (fun _ _ _ => rfl) (r_47_34 S) ?_
    refine r_iload (q129 (i := 143) rfl) l4 ?_
    refine r_aa5N (q129 (i := 144) rfl) (k_1079 S) (by omega) (by decide) (rAnd S (by omega)) ?_
    refine r_iconst (v := 2) (q129 (i := 145) rfl) (by decide) ?_
    refine r_iaload (x := nI (sid t k 1)) (q129 (i := 146) rfl) (kAnd S (x := k) (by omega)) (vp_in_nI (n := 2) (by decide) (by decide)) ((x2 1 (by decide)).1) ?_
    refine r_iconst (v := 2) (q129 (i := 147) rfl) (by decide) ?_
    refine r_idiv (q129 (i := 148) rfl) (by decide) ?_
    rw [show ((nI (sid t k 1)) / 2 : Int32) = nI (sid t k 1 / 2) from div2 (by omega)]
    refine r_zaN (x := 1) (q129 (i := 149) rfl) (k_1325 S) (by omega) (by decide) t2 ?_
    refine r_if 250 (q129 (i := 150) rfl) (by decide) (fun _ => ?_) (fun zz => absurd (show ¬ (1 : Int32) = 0 from by decide) zz)
    exact kk ls l4 l3 l1 l0
  | succ m ih =>
    intro k hm ls l4 l3 l1 l0
    have hkN : k < tN t := by omega
    obtain ⟨v, v0, v1, v2, v3⟩ := al k hkN
    have x2 := X.2.2.1 k hkN
    have y0 := (x2 0 (by decide)).2
    have y1 := (x2 1 (by decide)).2
    have t0 := (T v (by omega)).1
    rw [thv_lhs v0 v3] at t0
    have t1 := (T (sid t k 0 / 2) (by omega)).1
    have t2 := (T (sid t k 1 / 2) (by omega)).1
    rw [thv_thr (lit := sid t k 0) (fun w => hK w (tO t + 2 * k + 0) (by omega)) X.2.2.2.1.1 (hU (tO t + 2 * k + 0) (by omega))] at t1
    rw [thv_thr (lit := sid t k 1) (fun w => hK w (tO t + 2 * k + 1) (by omega)) X.2.2.2.1.1 (hU (tO t + 2 * k + 1) (by omega))] at t2
    have nr := l2f k (by omega)
    cases q0 : (rk k).isSome with
    | true =>
      rw [q0] at t0
      have t0 : hI h 1325 v = 1 := t0
      refine r_aload_n (q129 (i := 115) rfl) l0 ?_
      refine r_getR (b := 1325) (q129 (i := 116) rfl) rfl (by decide) (k_47 S) (fun _ _ _ => rfl) (r_47_40 S) ?_
      refine r_aload_n (q129 (i := 117) rfl) l0 ?_
      refine r_getR (b := 1079) (q129 (i := 118) rfl) rfl (by decide) (k_47 S) (fun _ _ _ => rfl) (r_47_34 S) ?_
      refine r_iload (q129 (i := 119) rfl) l4 ?_
      refine r_aa5N (q129 (i := 120) rfl) (k_1079 S) (by omega) (by decide) (rAnd S (by omega)) ?_
      refine r_iconst (v := 0) (q129 (i := 121) rfl) (by decide) ?_
      refine r_iaload (x := nI (2 * v)) (q129 (i := 122) rfl) (kAnd S (x := k) (by omega)) (vp_in_nI (n := 0) (by decide) (by decide)) v2 ?_
      refine r_iconst (v := 2) (q129 (i := 123) rfl) (by decide) ?_
      refine r_idiv (q129 (i := 124) rfl) (by decide) ?_
      rw [show ((nI (2 * v)) / 2 : Int32) = nI v from half2 v1]
      refine r_zaN (x := 1) (q129 (i := 125) rfl) (k_1325 S) (by omega) (by decide) t0 ?_
      refine r_if 244 (q129 (i := 126) rfl) (by decide) (fun _ => ?_) (fun zz => absurd (show ¬ (1 : Int32) = 0 from by decide) zz)
      refine r_iinc (y := nI (k + 1)) (q129 (i := 151) rfl) (Nat.le_of_ble_eq_true rfl) l4 (nI_1 k) rfl ?_
      have l3 := lk1 (k := 4) (v := .int (nI (k + 1))) l3 (by decide) (Or.inl rfl)
      have l1 := lk1 (k := 4) (v := .int (nI (k + 1))) l1 (by decide) (Or.inr (by decide))
      have l0 := lk1 (k := 4) (v := .int (nI (k + 1))) l0 (by decide) (Or.inr (by decide))
      have l4 := lk0 ls 4 (.int (nI (k + 1)))
      generalize lset1 ls 4 (.int (nI (k + 1))) = ls at l4 l3 l1 l0 ⊢
      refine r_goto 187 (q129 (i := 152) rfl) (by decide) ?_
      exact ih (k + 1) (by omega) ls l4 l3 l1 l0
    | false =>
      rw [q0] at t0
      have t0 : hI h 1325 v = 0 := t0
      cases q1 : thr t rk (sid t k 0) with
      | false =>
        rw [q1] at t1
        have t1 : hI h 1325 (sid t k 0 / 2) = 0 := t1
        refine r_aload_n (q129 (i := 115) rfl) l0 ?_
        refine r_getR (b := 1325) (q129 (i := 116) rfl) rfl (by decide) (k_47 S) (fun _ _ _ => rfl) (r_47_40 S) ?_
        refine r_aload_n (q129 (i := 117) rfl) l0 ?_
        refine r_getR (b := 1079) (q129 (i := 118) rfl) rfl (by decide) (k_47 S) (fun _ _ _ => rfl) (r_47_34 S) ?_
        refine r_iload (q129 (i := 119) rfl) l4 ?_
        refine r_aa5N (q129 (i := 120) rfl) (k_1079 S) (by omega) (by decide) (rAnd S (by omega)) ?_
        refine r_iconst (v := 0) (q129 (i := 121) rfl) (by decide) ?_
        refine r_iaload (x := nI (2 * v)) (q129 (i := 122) rfl) (kAnd S (x := k) (by omega)) (vp_in_nI (n := 0) (by decide) (by decide)) v2 ?_
        refine r_iconst (v := 2) (q129 (i := 123) rfl) (by decide) ?_
        refine r_idiv (q129 (i := 124) rfl) (by decide) ?_
        rw [show ((nI (2 * v)) / 2 : Int32) = nI v from half2 v1]
        refine r_zaN (x := 0) (q129 (i := 125) rfl) (k_1325 S) (by omega) (by decide) t0 ?_
        refine r_if 244 (q129 (i := 126) rfl) (by decide) (fun zz => absurd zz (show ¬ (¬ (0 : Int32) = 0) from by decide)) (fun _ => ?_)
        refine r_aload_n (q129 (i := 127) rfl) l0 ?_
        refine r_getR (b := 1325) (q129 (i := 128) rfl) rfl (by decide) (k_47 S) (fun _ _ _ => rfl) (r_47_40 S) ?_
        refine r_aload_n (q129 (i := 129) rfl) l0 ?_
        refine r_getR (b := 1079) (q129 (i := 130) rfl) rfl (by decide) (k_47 S) (fun _ _ _ => rfl) (r_47_34 S) ?_
        refine r_iload (q129 (i := 131) rfl) l4 ?_
        refine r_aa5N (q129 (i := 132) rfl) (k_1079 S) (by omega) (by decide) (rAnd S (by omega)) ?_
        refine r_iconst (v := 1) (q129 (i := 133) rfl) (by decide) ?_
        refine r_iaload (x := nI (sid t k 0)) (q129 (i := 134) rfl) (kAnd S (x := k) (by omega)) (vp_in_nI (n := 1) (by decide) (by decide)) ((x2 0 (by decide)).1) ?_
        refine r_iconst (v := 2) (q129 (i := 135) rfl) (by decide) ?_
        refine r_idiv (q129 (i := 136) rfl) (by decide) ?_
        rw [show ((nI (sid t k 0)) / 2 : Int32) = nI (sid t k 0 / 2) from div2 (by omega)]
        refine r_zaN (x := 0) (q129 (i := 137) rfl) (k_1325 S) (by omega) (by decide) t1 ?_
        refine r_if 244 (q129 (i := 138) rfl) (by decide) (fun _ => ?_) (fun zz => absurd (show (0 : Int32) = 0 from by decide) zz)
        refine r_iinc (y := nI (k + 1)) (q129 (i := 151) rfl) (Nat.le_of_ble_eq_true rfl) l4 (nI_1 k) rfl ?_
        have l3 := lk1 (k := 4) (v := .int (nI (k + 1))) l3 (by decide) (Or.inl rfl)
        have l1 := lk1 (k := 4) (v := .int (nI (k + 1))) l1 (by decide) (Or.inr (by decide))
        have l0 := lk1 (k := 4) (v := .int (nI (k + 1))) l0 (by decide) (Or.inr (by decide))
        have l4 := lk0 ls 4 (.int (nI (k + 1)))
        generalize lset1 ls 4 (.int (nI (k + 1))) = ls at l4 l3 l1 l0 ⊢
        refine r_goto 187 (q129 (i := 152) rfl) (by decide) ?_
        exact ih (k + 1) (by omega) ls l4 l3 l1 l0
      | true =>
        rw [q1] at t1
        have t1 : hI h 1325 (sid t k 0 / 2) = 1 := t1
        cases q2 : thr t rk (sid t k 1) with
        | false =>
          rw [q2] at t2
          have t2 : hI h 1325 (sid t k 1 / 2) = 0 := t2
          refine r_aload_n (q129 (i := 115) rfl) l0 ?_
          refine r_getR (b := 1325) (q129 (i := 116) rfl) rfl (by decide) (k_47 S) (fun _ _ _ => rfl) (r_47_40 S) ?_
          refine r_aload_n (q129 (i := 117) rfl) l0 ?_
          refine r_getR (b := 1079) (q129 (i := 118) rfl) rfl (by decide) (k_47 S) (fun _ _ _ => rfl) (r_47_34 S) ?_
          refine r_iload (q129 (i := 119) rfl) l4 ?_
          refine r_aa5N (q129 (i := 120) rfl) (k_1079 S) (by omega) (by decide) (rAnd S (by omega)) ?_
          refine r_iconst (v := 0) (q129 (i := 121) rfl) (by decide) ?_
          refine r_iaload (x := nI (2 * v)) (q129 (i := 122) rfl) (kAnd S (x := k) (by omega)) (vp_in_nI (n := 0) (by decide) (by decide)) v2 ?_
          refine r_iconst (v := 2) (q129 (i := 123) rfl) (by decide) ?_
          refine r_idiv (q129 (i := 124) rfl) (by decide) ?_
          rw [show ((nI (2 * v)) / 2 : Int32) = nI v from half2 v1]
          refine r_zaN (x := 0) (q129 (i := 125) rfl) (k_1325 S) (by omega) (by decide) t0 ?_
          refine r_if 244 (q129 (i := 126) rfl) (by decide) (fun zz => absurd zz (show ¬ (¬ (0 : Int32) = 0) from by decide)) (fun _ => ?_)
          refine r_aload_n (q129 (i := 127) rfl) l0 ?_
          refine r_getR (b := 1325) (q129 (i := 128) rfl) rfl (by decide) (k_47 S) (fun _ _ _ => rfl) (r_47_40 S) ?_
          refine r_aload_n (q129 (i := 129) rfl) l0 ?_
          refine r_getR (b := 1079) (q129 (i := 130) rfl) rfl (by decide) (k_47 S) (fun _ _ _ => rfl) (r_47_34 S) ?_
          refine r_iload (q129 (i := 131) rfl) l4 ?_
          refine r_aa5N (q129 (i := 132) rfl) (k_1079 S) (by omega) (by decide) (rAnd S (by omega)) ?_
          refine r_iconst (v := 1) (q129 (i := 133) rfl) (by decide) ?_
          refine r_iaload (x := nI (sid t k 0)) (q129 (i := 134) rfl) (kAnd S (x := k) (by omega)) (vp_in_nI (n := 1) (by decide) (by decide)) ((x2 0 (by decide)).1) ?_
          refine r_iconst (v := 2) (q129 (i := 135) rfl) (by decide) ?_
          refine r_idiv (q129 (i := 136) rfl) (by decide) ?_
          rw [show ((nI (sid t k 0)) / 2 : Int32) = nI (sid t k 0 / 2) from div2 (by omega)]
          refine r_zaN (x := 1) (q129 (i := 137) rfl) (k_1325 S) (by omega) (by decide) t1 ?_
          refine r_if 244 (q129 (i := 138) rfl) (by decide) (fun zz => absurd zz (show ¬ ((1 : Int32) = 0) from by decide)) (fun _ => ?_)
          refine r_aload_n (q129 (i := 139) rfl) l0 ?_
          refine r_getR (b := 1325) (q129 (i := 140) rfl) rfl (by decide) (k_47 S) (fun _ _ _ => rfl) (r_47_40 S) ?_
          refine r_aload_n (q129 (i := 141) rfl) l0 ?_
          refine r_getR (b := 1079) (q129 (i := 142) rfl) rfl (by decide) (k_47 S) (fun _ _ _ => rfl) (r_47_34 S) ?_
          refine r_iload (q129 (i := 143) rfl) l4 ?_
          refine r_aa5N (q129 (i := 144) rfl) (k_1079 S) (by omega) (by decide) (rAnd S (by omega)) ?_
          refine r_iconst (v := 2) (q129 (i := 145) rfl) (by decide) ?_
          refine r_iaload (x := nI (sid t k 1)) (q129 (i := 146) rfl) (kAnd S (x := k) (by omega)) (vp_in_nI (n := 2) (by decide) (by decide)) ((x2 1 (by decide)).1) ?_
          refine r_iconst (v := 2) (q129 (i := 147) rfl) (by decide) ?_
          refine r_idiv (q129 (i := 148) rfl) (by decide) ?_
          rw [show ((nI (sid t k 1)) / 2 : Int32) = nI (sid t k 1 / 2) from div2 (by omega)]
          refine r_zaN (x := 0) (q129 (i := 149) rfl) (k_1325 S) (by omega) (by decide) t2 ?_
          refine r_if 250 (q129 (i := 150) rfl) (by decide) (fun zz => absurd zz (show ¬ (¬ (0 : Int32) = 0) from by decide)) (fun _ => ?_)
          refine r_iinc (y := nI (k + 1)) (q129 (i := 151) rfl) (Nat.le_of_ble_eq_true rfl) l4 (nI_1 k) rfl ?_
          have l3 := lk1 (k := 4) (v := .int (nI (k + 1))) l3 (by decide) (Or.inl rfl)
          have l1 := lk1 (k := 4) (v := .int (nI (k + 1))) l1 (by decide) (Or.inr (by decide))
          have l0 := lk1 (k := 4) (v := .int (nI (k + 1))) l0 (by decide) (Or.inr (by decide))
          have l4 := lk0 ls 4 (.int (nI (k + 1)))
          generalize lset1 ls 4 (.int (nI (k + 1))) = ls at l4 l3 l1 l0 ⊢
          refine r_goto 187 (q129 (i := 152) rfl) (by decide) ?_
          exact ih (k + 1) (by omega) ls l4 l3 l1 l0
        | true =>
          unfold rdy at nr
          rw [q0, q1, q2] at nr
          exact absurd nr (by decide)
