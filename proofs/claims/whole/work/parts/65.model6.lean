set_option maxHeartbeats 2000000 in
set_option maxRecDepth 10000 in
theorem sp_bit {d : Nat} {h : hp} (S : Sh h) {C : Nat} {T : Nat → Nat → Int64} (hT : MT h C T) (hC : C ≤ 1000) {p w : Nat} (hp : p < 2 * C) (hw : w < 4096) : Run (d + 1 + 1) 138 [.ref 47, .int (nI p), .int (nI w)] h 0 0 (some (.int (if lbit T p w then 1 else 0))) h := by
  have R1 := sp_bits (d := d) S hT hC hp (w := w / 64) (by omega)
  refine Run.of (Nat.le_of_ble_eq_true rfl) (fun Q hQ => ?_)
  show Wp (Ex (d + 1)) 138 Q 0 [(0, .ref 47), (1, .int (nI p)), (2, .int (nI w))] [] h 0 0
  refine r_aload_n (q138 (i := 0) rfl) rfl ?_
  refine r_iload_n (q138 (i := 1) rfl) rfl ?_
  refine r_iload_n (q138 (i := 2) rfl) rfl ?_
  refine r_bipush (v := 64) (q138 (i := 3) rfl) (by decide) ?_
  refine r_idiv (q138 (i := 4) rfl) (by decide) ?_
  rw [show ((nI w) / 64 : Int32) = nI (w / 64) from div64 (by omega)]
  refine r_cV (d := _) (q138 (i := 5) rfl) rfl rfl rfl (k_47 S) (Nat.le_of_ble_eq_true rfl) (Nat.zero_le _) (Nat.zero_le _) R1 ?_
  show Wp _ _ _ 9 [(0, .ref 47), (1, .int (nI p)), (2, .int (nI w))] [.long (lw T p (w / 64))] h _ _
  refine r_iload_n (q138 (i := 6) rfl) rfl ?_
  refine r_bipush (v := 64) (q138 (i := 7) rfl) (by decide) ?_
  refine r_irem (q138 (i := 8) rfl) (by decide) ?_
  rw [show ((nI w) - (nI w) / 64 * 64 : Int32) = nI (w % 64) from rem64 (by omega)]
  refine r_lshr (q138 (i := 9) rfl) ?_
  refine r_lconst (v := 1) (q138 (i := 10) rfl) (by decide) ?_
  refine r_land (q138 (i := 11) rfl) ?_
  rw [show (((lw T p (w / 64)) >>> ((nI (w % 64)).toInt64 &&& 63)) &&& 1 : Int64) = if lbit T p w then 1 else 0 from b64_sbit _ (by omega)]
  refine r_lconst (v := 1) (q138 (i := 12) rfl) (by decide) ?_
  refine r_lcmp (q138 (i := 13) rfl) ?_
  refine r_if 25 (q138 (i := 14) rfl) (by decide) (fun c18 => ?_) (fun c18 => ?_)
  · have c18 : ¬ lg_cmp (if lbit T p w then 1 else 0) 1 = 0 := c18
    rw [cmpB] at c18
    refine r_iconst (v := 0) (q138 (i := 17) rfl) (by decide) ?_
    exact r_zret (q138 (i := 18) rfl) rfl (by decide) (by first | (rw [if_pos c18] at hQ; exact hQ) | (rw [if_neg c18] at hQ; exact hQ))
  · have c18 : ¬ (¬ lg_cmp (if lbit T p w then 1 else 0) 1 = 0) := c18
    rw [cmpB] at c18
    have c18 := Classical.not_not.mp c18
    refine r_iconst (v := 1) (q138 (i := 15) rfl) (by decide) ?_
    refine r_goto 26 (q138 (i := 16) rfl) (by decide) ?_
    exact r_zret (q138 (i := 18) rfl) rfl (by decide) (by first | (rw [if_pos c18] at hQ; exact hQ) | (rw [if_neg c18] at hQ; exact hQ))
theorem ifB {a b : Bool} : ((if a then (1 : Int32) else 0) = (if b then 1 else 0)) ↔ a = b := by
  cases a <;> cases b <;> decide
theorem pow12 {n : Nat} (h : n ≤ 12) : 2 ^ n ≤ 4096 := pow_le (a := n) (b := 12) h
set_option maxHeartbeats 2000000 in
set_option maxRecDepth 10000 in
theorem lp_unl {d : Nat} {h : hp} (S : Sh h) {n : Nat} (hn : n ≤ 12) (e1 : hI h 47 1 = nI n) {C : Nat} {T : Nat → Nat → Int64} (hT : MT h C T) (hC : C ≤ 1000) {p q : Nat} (hp : p < 2 * C) (hq : q < 2 * C) {Q : resP} {bc bs : Nat} (hQ : Q (some (.int (apt T p q (2 ^ n)))) h) : ∀ (m w : Nat), w + m = 2 ^ n → (∀ i, i < w → dif T p q i = false) → ∀ ls : List (Nat × Value), ls.lookup 3 = some (.int (nI w)) → ls.lookup 1 = some (.int (nI p)) → ls.lookup 2 = some (.int (nI q)) → ls.lookup 0 = some (.ref 47) → Wp (Ex (d + 2)) 139 Q 2 ls [] h bc bs := by
  have hp12 := pow12 hn
  have Rw := sp_words (d := d + 1) S hn e1
  intro m
  induction m with
  | zero =>
    intro w hm H ls l3 l1 l2 l0
    have e : w = 2 ^ n := by omega
    subst e
    have ea : apt T p q (2 ^ n) = -1 := apt_no (lst_no H)
    rw [ea] at hQ
    refine r_iload_n (q139 (i := 2) rfl) l3 ?_
    refine r_aload_n (q139 (i := 3) rfl) l0 ?_
    refine r_cV (d := _) (q139 (i := 4) rfl) rfl rfl rfl (k_47 S) (Nat.le_of_ble_eq_true rfl) (Nat.zero_le _) (Nat.zero_le _) Rw ?_
    show Wp _ _ _ 7 ls [.int (nI (2 ^ n)), .int (nI (2 ^ n))] h _ _
    refine r_icmp 33 (q139 (i := 5) rfl) (by decide) (fun _ => ?_) (fun zz => absurd (show nI (2 ^ n) ≤ nI (2 ^ n) from Int32.le_refl _) zz)
    refine r_iconst (v := (-1)) (q139 (i := 19) rfl) (by decide) ?_
    exact r_iret (q139 (i := 20) rfl) rfl hQ
  | succ m ih =>
    intro w hm H ls l3 l1 l2 l0
    have Rp := sp_bit (d := d) S hT hC hp (w := w) (by omega)
    have Rq := sp_bit (d := d) S hT hC hq (w := w) (by omega)
    refine r_iload_n (q139 (i := 2) rfl) l3 ?_
    refine r_aload_n (q139 (i := 3) rfl) l0 ?_
    refine r_cV (d := _) (q139 (i := 4) rfl) rfl rfl rfl (k_47 S) (Nat.le_of_ble_eq_true rfl) (Nat.zero_le _) (Nat.zero_le _) Rw ?_
    show Wp _ _ _ 7 ls [.int (nI (2 ^ n)), .int (nI w)] h _ _
    refine r_icmp 33 (q139 (i := 5) rfl) (by decide) (fun zz => absurd zz (show ¬ (nI (2 ^ n) ≤ nI w) from nI_ge (by omega) (by omega))) (fun _ => ?_)
    refine r_aload_n (q139 (i := 6) rfl) l0 ?_
    refine r_iload_n (q139 (i := 7) rfl) l1 ?_
    refine r_iload_n (q139 (i := 8) rfl) l3 ?_
    refine r_cV (d := _) (q139 (i := 9) rfl) rfl rfl rfl (k_47 S) (Nat.le_of_ble_eq_true rfl) (Nat.zero_le _) (Nat.zero_le _) Rp ?_
    show Wp _ _ _ 16 ls [.int (if lbit T p w then 1 else 0)] h _ _
    refine r_aload_n (q139 (i := 10) rfl) l0 ?_
    refine r_iload_n (q139 (i := 11) rfl) l2 ?_
    refine r_iload_n (q139 (i := 12) rfl) l3 ?_
    refine r_cV (d := _) (q139 (i := 13) rfl) rfl rfl rfl (k_47 S) (Nat.le_of_ble_eq_true rfl) (Nat.zero_le _) (Nat.zero_le _) Rq ?_
    show Wp _ _ _ 22 ls [.int (if lbit T q w then 1 else 0), .int (if lbit T p w then 1 else 0)] h _ _
    refine r_icmp 27 (q139 (i := 14) rfl) (by decide) (fun c22 => ?_) (fun c22 => ?_)
    · have c22 : (if lbit T p w then 1 else 0 : Int32) = (if lbit T q w then 1 else 0 : Int32) := c22
      refine r_iinc (y := nI (w + 1)) (q139 (i := 17) rfl) (Nat.le_of_ble_eq_true rfl) l3 (nI_1 w) rfl ?_
      have l1 := lk1 (k := 3) (v := .int (nI (w + 1))) l1 (by decide) (Or.inr (by decide))
      have l2 := lk1 (k := 3) (v := .int (nI (w + 1))) l2 (by decide) (Or.inl rfl)
      have l0 := lk1 (k := 3) (v := .int (nI (w + 1))) l0 (by decide) (Or.inr (by decide))
      have l3 := lk0 ls 3 (.int (nI (w + 1)))
      generalize lset1 ls 3 (.int (nI (w + 1))) = ls at l3 l1 l2 l0 ⊢
      refine r_goto 2 (q139 (i := 18) rfl) (by decide) ?_
      exact ih (w + 1) (by omega) (fun i hi => by
        by_cases e : i = w
        · rw [e]; unfold dif; rw [ifB.mp c22]; cases lbit T q w <;> rfl
        · exact H i (by omega)) ls l3 l1 l2 l0
    · have c22 : ¬ ((if lbit T p w then 1 else 0 : Int32) = (if lbit T q w then 1 else 0 : Int32)) := c22
      refine r_iload_n (q139 (i := 15) rfl) l3 ?_
      exact r_iret (q139 (i := 16) rfl) rfl (by rw [show apt T p q (2 ^ n) = nI w from by have el := lst_is (f := dif T p q) (m := 2 ^ n) (x := w) (by omega) H (by unfold dif; rw [ifB] at c22; cases hh : lbit T p w <;> cases hg : lbit T q w <;> first | rfl | exact absurd (by rw [hh, hg]) c22); rw [apt_is (by rw [el]; omega), el]] at hQ; exact hQ)
set_option maxHeartbeats 2000000 in
set_option maxRecDepth 10000 in
theorem sp_unlike {d : Nat} {h : hp} (S : Sh h) {n : Nat} (hn : n ≤ 12) (e1 : hI h 47 1 = nI n) {C : Nat} {T : Nat → Nat → Int64} (hT : MT h C T) (hC : C ≤ 1000) {p q : Nat} (hp : p < 2 * C) (hq : q < 2 * C) : Run (d + 2 + 1) 139 [.ref 47, .int (nI p), .int (nI q)] h 0 0 (some (.int (apt T p q (2 ^ n)))) h := by
  refine Run.of (Nat.le_of_ble_eq_true rfl) (fun Q hQ => ?_)
  show Wp (Ex (d + 2)) 139 Q 0 [(0, .ref 47), (1, .int (nI p)), (2, .int (nI q))] [] h 0 0
  refine r_iconst (v := nI 0) (q139 (i := 0) rfl) (by decide) ?_
  refine r_istore_n (ls' := [(3, .int (nI 0)), (0, .ref 47), (1, .int (nI p)), (2, .int (nI q))]) (q139 (i := 1) rfl) (Nat.le_of_ble_eq_true rfl) rfl ?_
  exact lp_unl S hn e1 hT hC hp hq hQ (2 ^ n) 0 (Nat.zero_add _) (fun i hi => absurd hi (Nat.not_lt_zero i)) _ rfl rfl rfl rfl
set_option maxHeartbeats 2000000 in
set_option maxRecDepth 10000 in
theorem ms_value {h : hp} {σ : st8} (M : MI h σ) (Z : zok σ) (x s w : Int32) : MStep 140 [.ref 47, .int x, .int s, .int w] h (aVal σ x s w) σ := by
  have S := M.1.1
  have hn := Z.1.2
  have kA := Z.2.1.1
  have kB := Z.2.2.1.1
  have hC := zC Z
  unfold aVal
  by_cases x0 : x = 0
  · rw [if_pos x0]
    subst x0
    have R0 := sp_isC0 (d := 6) (h := h)
    have Ra := sp_mhas0 (d := 6) S M.1.2 M.2.1.2.1 s
    have Rw := sp_words (d := 6) S hn M.1.2
    by_cases q : pl s < nI (zn σ + (za σ).2.1) ∧ isw (zn σ) w = true
    · rw [if_pos q]
      obtain ⟨q1, q2⟩ := q
      have hx := of_decide_eq_true q2
      obtain ⟨k, k1, k2, k3, ek⟩ := isw_t hn q2
      subst ek
      rw [nI_clamp (by omega)]
      rw [hasS_1 q1] at Ra
      obtain ⟨h1, Rg, M1, g1, F1⟩ := sp_graph (d := 3) M Z
      have S1 := M1.1.1
      have Rs := sp_side0 (d := 6) S1 M1.1.2 g1.2.2.1 hn kA q1
      have Rb := sp_bit (d := 5) S1 g1.2.1.2.2.2 (by omega) (zlt0 Z q1) k2
      refine ⟨h1, ?_, M1, F1⟩
      refine Run.of (d := 7) (Nat.le_of_ble_eq_true rfl) (fun Q hQ => ?_)
      show Wp (Ex 7) 140 Q 0 [(0, .ref 47), (1, .int 0), (2, .int s), (3, .int (nI k))] [] h 0 0
      refine r_iload_n (q140 (i := 0) rfl) rfl ?_
      refine r_cS (d := _) (q140 (i := 1) rfl) rfl (Nat.le_of_ble_eq_true rfl) rfl rfl (Nat.le_of_ble_eq_true rfl) (Nat.zero_le _) (Nat.zero_le _) R0 ?_
      show Wp _ _ _ 4 [(0, .ref 47), (1, .int 0), (2, .int s), (3, .int (nI k))] [.int 1] h _ _
      refine r_if 28 (q140 (i := 2) rfl) (by decide) (fun zz => absurd zz (show ¬ ((1 : Int32) = 0) from by decide)) (fun _ => ?_)
      refine r_aload_n (q140 (i := 3) rfl) rfl ?_
      refine r_iload_n (q140 (i := 4) rfl) rfl ?_
      refine r_iload_n (q140 (i := 5) rfl) rfl ?_
      refine r_cV (d := _) (q140 (i := 6) rfl) rfl rfl rfl (k_47 S) (Nat.le_of_ble_eq_true rfl) (Nat.zero_le _) (Nat.zero_le _) Ra ?_
      show Wp _ _ _ 13 [(0, .ref 47), (1, .int 0), (2, .int s), (3, .int (nI k))] [.int 1] h _ _
      refine r_if 28 (q140 (i := 7) rfl) (by decide) (fun zz => absurd zz (show ¬ ((1 : Int32) = 0) from by decide)) (fun _ => ?_)
      refine r_iload_n (q140 (i := 8) rfl) rfl ?_
      refine r_if 28 (q140 (i := 9) rfl) (by decide) (fun zz => absurd zz (show ¬ (nI k < 0) from hx.1)) (fun _ => ?_)
      refine r_iload_n (q140 (i := 10) rfl) rfl ?_
      refine r_aload_n (q140 (i := 11) rfl) rfl ?_
      refine r_cV (d := _) (q140 (i := 12) rfl) rfl rfl rfl (k_47 S) (Nat.le_of_ble_eq_true rfl) (Nat.zero_le _) (Nat.zero_le _) Rw ?_
      show Wp _ _ _ 25 [(0, .ref 47), (1, .int 0), (2, .int s), (3, .int (nI k))] [.int (nI (2 ^ zn σ)), .int (nI k)] h _ _
      refine r_icmp 30 (q140 (i := 13) rfl) (by decide) (fun _ => ?_) (fun zz => absurd (show nI k < nI (2 ^ zn σ) from hx.2) zz)
      refine r_aload_n (q140 (i := 16) rfl) rfl ?_
      refine r_cV (d := _) (q140 (i := 17) rfl) rfl rfl rfl (k_47 S) (Nat.le_of_ble_eq_true rfl) (Nat.zero_le _) (Nat.zero_le _) Rg ?_
      show Wp _ _ _ 34 [(0, .ref 47), (1, .int 0), (2, .int s), (3, .int (nI k))] [] h1 _ _
      refine r_aload_n (q140 (i := 18) rfl) rfl ?_
      refine r_aload_n (q140 (i := 19) rfl) rfl ?_
      refine r_iload_n (q140 (i := 20) rfl) rfl ?_
      refine r_iload_n (q140 (i := 21) rfl) rfl ?_
      refine r_cV (d := _) (q140 (i := 22) rfl) rfl rfl rfl (k_47 S1) (Nat.le_of_ble_eq_true rfl) (Nat.zero_le _) (Nat.zero_le _) Rs ?_
      show Wp _ _ _ 41 [(0, .ref 47), (1, .int 0), (2, .int s), (3, .int (nI k))] [.int (nI (sd (zn σ) (z0 σ) s)), .ref 47] h1 _ _
      refine r_iload_n (q140 (i := 23) rfl) rfl ?_
      refine r_cV (d := _) (q140 (i := 24) rfl) rfl rfl rfl (k_47 S1) (Nat.le_of_ble_eq_true rfl) (Nat.zero_le _) (Nat.zero_le _) Rb ?_
      show Wp _ _ _ 45 [(0, .ref 47), (1, .int 0), (2, .int s), (3, .int (nI k))] [.int (if lbit (gW (zG σ)) (sd (zn σ) (z0 σ) s) k then 1 else 0)] h1 _ _
      refine r_if 52 (q140 (i := 25) rfl) (by decide) (fun c45 => ?_) (fun c45 => ?_)
      · have c45 : (if lbit (gW (zG σ)) (sd (zn σ) (z0 σ) s) k then 1 else 0 : Int32) = 0 := c45
        have hb : ¬ lbit (gW (zG σ)) (sd (zn σ) (z0 σ) s) k = true := fun y => by rw [if_pos y] at c45; exact absurd c45 (by decide)
        rw [if_neg hb] at hQ
        refine r_iconst (v := 0) (q140 (i := 28) rfl) (by decide) ?_
        exact r_iret (q140 (i := 29) rfl) rfl hQ
      · have c45 : ¬ ((if lbit (gW (zG σ)) (sd (zn σ) (z0 σ) s) k then 1 else 0 : Int32) = 0) := c45
        have hb : lbit (gW (zG σ)) (sd (zn σ) (z0 σ) s) k = true := Classical.not_not.mp (fun y => c45 (if_neg y))
        rw [if_pos hb] at hQ
        refine r_iconst (v := 1) (q140 (i := 26) rfl) (by decide) ?_
        refine r_goto 53 (q140 (i := 27) rfl) (by decide) ?_
        exact r_iret (q140 (i := 29) rfl) rfl hQ
    · rw [if_neg q]
      refine ⟨h, ?_, M, FM.rf h⟩
      refine Run.of (d := 7) (Nat.le_of_ble_eq_true rfl) (fun Q hQ => ?_)
      show Wp (Ex 7) 140 Q 0 [(0, .ref 47), (1, .int 0), (2, .int s), (3, .int w)] [] h 0 0
      refine r_iload_n (q140 (i := 0) rfl) rfl ?_
      refine r_cS (d := _) (q140 (i := 1) rfl) rfl (Nat.le_of_ble_eq_true rfl) rfl rfl (Nat.le_of_ble_eq_true rfl) (Nat.zero_le _) (Nat.zero_le _) R0 ?_
      show Wp _ _ _ 4 [(0, .ref 47), (1, .int 0), (2, .int s), (3, .int w)] [.int 1] h _ _
      refine r_if 28 (q140 (i := 2) rfl) (by decide) (fun zz => absurd zz (show ¬ ((1 : Int32) = 0) from by decide)) (fun _ => ?_)
      refine r_aload_n (q140 (i := 3) rfl) rfl ?_
      refine r_iload_n (q140 (i := 4) rfl) rfl ?_
      refine r_iload_n (q140 (i := 5) rfl) rfl ?_
      refine r_cV (d := _) (q140 (i := 6) rfl) rfl rfl rfl (k_47 S) (Nat.le_of_ble_eq_true rfl) (Nat.zero_le _) (Nat.zero_le _) Ra ?_
      show Wp _ _ _ 13 [(0, .ref 47), (1, .int 0), (2, .int s), (3, .int w)] [.int (hasS (nI (zn σ + (za σ).2.1)) s)] h _ _
      refine r_if 28 (q140 (i := 7) rfl) (by decide) (fun c13 => ?_) (fun c13 => ?_)
      · have c13 : hasS (nI (zn σ + (za σ).2.1)) s = 0 := c13
        refine r_iconst (v := (-1)) (q140 (i := 14) rfl) (by decide) ?_
        exact r_iret (q140 (i := 15) rfl) rfl hQ
      · have c13 : ¬ (hasS (nI (zn σ + (za σ).2.1)) s = 0) := c13
        refine r_iload_n (q140 (i := 8) rfl) rfl ?_
        refine r_if 28 (q140 (i := 9) rfl) (by decide) (fun c17 => ?_) (fun c17 => ?_)
        · have c17 : w < 0 := c17
          refine r_iconst (v := (-1)) (q140 (i := 14) rfl) (by decide) ?_
          exact r_iret (q140 (i := 15) rfl) rfl hQ
        · have c17 : ¬ (w < 0) := c17
          refine r_iload_n (q140 (i := 10) rfl) rfl ?_
          refine r_aload_n (q140 (i := 11) rfl) rfl ?_
          refine r_cV (d := _) (q140 (i := 12) rfl) rfl rfl rfl (k_47 S) (Nat.le_of_ble_eq_true rfl) (Nat.zero_le _) (Nat.zero_le _) Rw ?_
          show Wp _ _ _ 25 [(0, .ref 47), (1, .int 0), (2, .int s), (3, .int w)] [.int (nI (2 ^ zn σ)), .int w] h _ _
          refine r_icmp 30 (q140 (i := 13) rfl) (by decide) (fun zz => absurd zz (show ¬ (w < nI (2 ^ zn σ)) from fun y => q ⟨hasS_ne c13, decide_eq_true ⟨c17, y⟩⟩)) (fun _ => ?_)
          refine r_iconst (v := (-1)) (q140 (i := 14) rfl) (by decide) ?_
          exact r_iret (q140 (i := 15) rfl) rfl hQ
  · rw [if_neg x0]
    by_cases x1 : x = 1
    · rw [if_pos x1]
      subst x1
      have R0 := sp_isC1 (d := 6) (h := h)
      have Ra := sp_mhas1 (d := 6) S M.1.2 M.2.2.1.2.1 s
      have Rw := sp_words (d := 6) S hn M.1.2
      by_cases q : pl s < nI (zn σ + (zb σ).2.1) ∧ isw (zn σ) w = true
      · rw [if_pos q]
        obtain ⟨q1, q2⟩ := q
        have hx := of_decide_eq_true q2
        obtain ⟨k, k1, k2, k3, ek⟩ := isw_t hn q2
        subst ek
        rw [nI_clamp (by omega)]
        rw [hasS_1 q1] at Ra
        obtain ⟨h1, Rg, M1, g1, F1⟩ := sp_graph (d := 3) M Z
        have S1 := M1.1.1
        have Rs := sp_side1 (d := 6) S1 M1.1.2 g1.2.2.2 hn kB q1
        have Rb := sp_bit (d := 5) S1 g1.2.1.2.2.2 (by omega) (zlt1 Z q1) k2
        refine ⟨h1, ?_, M1, F1⟩
        refine Run.of (d := 7) (Nat.le_of_ble_eq_true rfl) (fun Q hQ => ?_)
        show Wp (Ex 7) 140 Q 0 [(0, .ref 47), (1, .int 1), (2, .int s), (3, .int (nI k))] [] h 0 0
        refine r_iload_n (q140 (i := 0) rfl) rfl ?_
        refine r_cS (d := _) (q140 (i := 1) rfl) rfl (Nat.le_of_ble_eq_true rfl) rfl rfl (Nat.le_of_ble_eq_true rfl) (Nat.zero_le _) (Nat.zero_le _) R0 ?_
        show Wp _ _ _ 4 [(0, .ref 47), (1, .int 1), (2, .int s), (3, .int (nI k))] [.int 1] h _ _
        refine r_if 28 (q140 (i := 2) rfl) (by decide) (fun zz => absurd zz (show ¬ ((1 : Int32) = 0) from by decide)) (fun _ => ?_)
        refine r_aload_n (q140 (i := 3) rfl) rfl ?_
        refine r_iload_n (q140 (i := 4) rfl) rfl ?_
        refine r_iload_n (q140 (i := 5) rfl) rfl ?_
        refine r_cV (d := _) (q140 (i := 6) rfl) rfl rfl rfl (k_47 S) (Nat.le_of_ble_eq_true rfl) (Nat.zero_le _) (Nat.zero_le _) Ra ?_
        show Wp _ _ _ 13 [(0, .ref 47), (1, .int 1), (2, .int s), (3, .int (nI k))] [.int 1] h _ _
        refine r_if 28 (q140 (i := 7) rfl) (by decide) (fun zz => absurd zz (show ¬ ((1 : Int32) = 0) from by decide)) (fun _ => ?_)
        refine r_iload_n (q140 (i := 8) rfl) rfl ?_
        refine r_if 28 (q140 (i := 9) rfl) (by decide) (fun zz => absurd zz (show ¬ (nI k < 0) from hx.1)) (fun _ => ?_)
        refine r_iload_n (q140 (i := 10) rfl) rfl ?_
        refine r_aload_n (q140 (i := 11) rfl) rfl ?_
        refine r_cV (d := _) (q140 (i := 12) rfl) rfl rfl rfl (k_47 S) (Nat.le_of_ble_eq_true rfl) (Nat.zero_le _) (Nat.zero_le _) Rw ?_
        show Wp _ _ _ 25 [(0, .ref 47), (1, .int 1), (2, .int s), (3, .int (nI k))] [.int (nI (2 ^ zn σ)), .int (nI k)] h _ _
        refine r_icmp 30 (q140 (i := 13) rfl) (by decide) (fun _ => ?_) (fun zz => absurd (show nI k < nI (2 ^ zn σ) from hx.2) zz)
        refine r_aload_n (q140 (i := 16) rfl) rfl ?_
        refine r_cV (d := _) (q140 (i := 17) rfl) rfl rfl rfl (k_47 S) (Nat.le_of_ble_eq_true rfl) (Nat.zero_le _) (Nat.zero_le _) Rg ?_
        show Wp _ _ _ 34 [(0, .ref 47), (1, .int 1), (2, .int s), (3, .int (nI k))] [] h1 _ _
        refine r_aload_n (q140 (i := 18) rfl) rfl ?_
        refine r_aload_n (q140 (i := 19) rfl) rfl ?_
        refine r_iload_n (q140 (i := 20) rfl) rfl ?_
        refine r_iload_n (q140 (i := 21) rfl) rfl ?_
        refine r_cV (d := _) (q140 (i := 22) rfl) rfl rfl rfl (k_47 S1) (Nat.le_of_ble_eq_true rfl) (Nat.zero_le _) (Nat.zero_le _) Rs ?_
        show Wp _ _ _ 41 [(0, .ref 47), (1, .int 1), (2, .int s), (3, .int (nI k))] [.int (nI (sd (zn σ) (z1 σ) s)), .ref 47] h1 _ _
        refine r_iload_n (q140 (i := 23) rfl) rfl ?_
        refine r_cV (d := _) (q140 (i := 24) rfl) rfl rfl rfl (k_47 S1) (Nat.le_of_ble_eq_true rfl) (Nat.zero_le _) (Nat.zero_le _) Rb ?_
        show Wp _ _ _ 45 [(0, .ref 47), (1, .int 1), (2, .int s), (3, .int (nI k))] [.int (if lbit (gW (zG σ)) (sd (zn σ) (z1 σ) s) k then 1 else 0)] h1 _ _
        refine r_if 52 (q140 (i := 25) rfl) (by decide) (fun c45 => ?_) (fun c45 => ?_)
        · have c45 : (if lbit (gW (zG σ)) (sd (zn σ) (z1 σ) s) k then 1 else 0 : Int32) = 0 := c45
          have hb : ¬ lbit (gW (zG σ)) (sd (zn σ) (z1 σ) s) k = true := fun y => by rw [if_pos y] at c45; exact absurd c45 (by decide)
          rw [if_neg hb] at hQ
          refine r_iconst (v := 0) (q140 (i := 28) rfl) (by decide) ?_
          exact r_iret (q140 (i := 29) rfl) rfl hQ
        · have c45 : ¬ ((if lbit (gW (zG σ)) (sd (zn σ) (z1 σ) s) k then 1 else 0 : Int32) = 0) := c45
          have hb : lbit (gW (zG σ)) (sd (zn σ) (z1 σ) s) k = true := Classical.not_not.mp (fun y => c45 (if_neg y))
          rw [if_pos hb] at hQ
          refine r_iconst (v := 1) (q140 (i := 26) rfl) (by decide) ?_
          refine r_goto 53 (q140 (i := 27) rfl) (by decide) ?_
          exact r_iret (q140 (i := 29) rfl) rfl hQ
      · rw [if_neg q]
        refine ⟨h, ?_, M, FM.rf h⟩
        refine Run.of (d := 7) (Nat.le_of_ble_eq_true rfl) (fun Q hQ => ?_)
        show Wp (Ex 7) 140 Q 0 [(0, .ref 47), (1, .int 1), (2, .int s), (3, .int w)] [] h 0 0
        refine r_iload_n (q140 (i := 0) rfl) rfl ?_
        refine r_cS (d := _) (q140 (i := 1) rfl) rfl (Nat.le_of_ble_eq_true rfl) rfl rfl (Nat.le_of_ble_eq_true rfl) (Nat.zero_le _) (Nat.zero_le _) R0 ?_
        show Wp _ _ _ 4 [(0, .ref 47), (1, .int 1), (2, .int s), (3, .int w)] [.int 1] h _ _
        refine r_if 28 (q140 (i := 2) rfl) (by decide) (fun zz => absurd zz (show ¬ ((1 : Int32) = 0) from by decide)) (fun _ => ?_)
        refine r_aload_n (q140 (i := 3) rfl) rfl ?_
        refine r_iload_n (q140 (i := 4) rfl) rfl ?_
        refine r_iload_n (q140 (i := 5) rfl) rfl ?_
        refine r_cV (d := _) (q140 (i := 6) rfl) rfl rfl rfl (k_47 S) (Nat.le_of_ble_eq_true rfl) (Nat.zero_le _) (Nat.zero_le _) Ra ?_
        show Wp _ _ _ 13 [(0, .ref 47), (1, .int 1), (2, .int s), (3, .int w)] [.int (hasS (nI (zn σ + (zb σ).2.1)) s)] h _ _
        refine r_if 28 (q140 (i := 7) rfl) (by decide) (fun c13 => ?_) (fun c13 => ?_)
        · have c13 : hasS (nI (zn σ + (zb σ).2.1)) s = 0 := c13
          refine r_iconst (v := (-1)) (q140 (i := 14) rfl) (by decide) ?_
          exact r_iret (q140 (i := 15) rfl) rfl hQ
        · have c13 : ¬ (hasS (nI (zn σ + (zb σ).2.1)) s = 0) := c13
          refine r_iload_n (q140 (i := 8) rfl) rfl ?_
          refine r_if 28 (q140 (i := 9) rfl) (by decide) (fun c17 => ?_) (fun c17 => ?_)
          · have c17 : w < 0 := c17
            refine r_iconst (v := (-1)) (q140 (i := 14) rfl) (by decide) ?_
            exact r_iret (q140 (i := 15) rfl) rfl hQ
          · have c17 : ¬ (w < 0) := c17
            refine r_iload_n (q140 (i := 10) rfl) rfl ?_
            refine r_aload_n (q140 (i := 11) rfl) rfl ?_
            refine r_cV (d := _) (q140 (i := 12) rfl) rfl rfl rfl (k_47 S) (Nat.le_of_ble_eq_true rfl) (Nat.zero_le _) (Nat.zero_le _) Rw ?_
            show Wp _ _ _ 25 [(0, .ref 47), (1, .int 1), (2, .int s), (3, .int w)] [.int (nI (2 ^ zn σ)), .int w] h _ _
            refine r_icmp 30 (q140 (i := 13) rfl) (by decide) (fun zz => absurd zz (show ¬ (w < nI (2 ^ zn σ)) from fun y => q ⟨hasS_ne c13, decide_eq_true ⟨c17, y⟩⟩)) (fun _ => ?_)
            refine r_iconst (v := (-1)) (q140 (i := 14) rfl) (by decide) ?_
            exact r_iret (q140 (i := 15) rfl) rfl hQ
    · rw [if_neg x1]
      refine ⟨h, ?_, M, FM.rf h⟩
      have R0 := sp_isCN (d := 6) (h := h) x0 x1
      refine Run.of (d := 7) (Nat.le_of_ble_eq_true rfl) (fun Q hQ => ?_)
      show Wp (Ex 7) 140 Q 0 [(0, .ref 47), (1, .int x), (2, .int s), (3, .int w)] [] h 0 0
      refine r_iload_n (q140 (i := 0) rfl) rfl ?_
      refine r_cS (d := _) (q140 (i := 1) rfl) rfl (Nat.le_of_ble_eq_true rfl) rfl rfl (Nat.le_of_ble_eq_true rfl) (Nat.zero_le _) (Nat.zero_le _) R0 ?_
      show Wp _ _ _ 4 [(0, .ref 47), (1, .int x), (2, .int s), (3, .int w)] [.int 0] h _ _
      refine r_if 28 (q140 (i := 2) rfl) (by decide) (fun _ => ?_) (fun zz => absurd (show (0 : Int32) = 0 from by decide) zz)
      refine r_iconst (v := (-1)) (q140 (i := 14) rfl) (by decide) ?_
      exact r_iret (q140 (i := 15) rfl) rfl hQ
set_option maxHeartbeats 2000000 in
set_option maxRecDepth 10000 in
theorem ms_literal {h : hp} {σ : st8} (M : MI h σ) (Z : zok σ) (x s : Int32) : MStep 150 [.ref 47, .int x, .int s] h (aLit σ x s) σ := by
  have S := M.1.1
  have hn := Z.1.2
  have kA := Z.2.1.1
  have kB := Z.2.2.1.1
  have hC := zC Z
  unfold aLit
  by_cases x0 : x = 0
  · rw [if_pos x0]
    subst x0
    have R0 := sp_isC0 (d := 6) (h := h)
    have Ra := sp_mhas0 (d := 6) S M.1.2 M.2.1.2.1 s
    by_cases q : pl s < nI (zn σ + (za σ).2.1)
    · rw [if_pos q]
      rw [hasS_1 q] at Ra
      obtain ⟨h1, Rg, M1, g1, F1⟩ := sp_graph (d := 3) M Z
      have S1 := M1.1.1
      have Rs := sp_side0 (d := 6) S1 M1.1.2 g1.2.2.1 hn kA q
      refine ⟨h1, ?_, M1, F1⟩
      refine Run.of (d := 7) (Nat.le_of_ble_eq_true rfl) (fun Q hQ => ?_)
      show Wp (Ex 7) 150 Q 0 [(0, .ref 47), (1, .int 0), (2, .int s)] [] h 0 0
      refine r_iload_n (q150 (i := 0) rfl) rfl ?_
      refine r_cS (d := _) (q150 (i := 1) rfl) rfl (Nat.le_of_ble_eq_true rfl) rfl rfl (Nat.le_of_ble_eq_true rfl) (Nat.zero_le _) (Nat.zero_le _) R0 ?_
      show Wp _ _ _ 4 [(0, .ref 47), (1, .int 0), (2, .int s)] [.int 1] h _ _
      refine r_if 16 (q150 (i := 2) rfl) (by decide) (fun zz => absurd zz (show ¬ ((1 : Int32) = 0) from by decide)) (fun _ => ?_)
      refine r_aload_n (q150 (i := 3) rfl) rfl ?_
      refine r_iload_n (q150 (i := 4) rfl) rfl ?_
      refine r_iload_n (q150 (i := 5) rfl) rfl ?_
      refine r_cV (d := _) (q150 (i := 6) rfl) rfl rfl rfl (k_47 S) (Nat.le_of_ble_eq_true rfl) (Nat.zero_le _) (Nat.zero_le _) Ra ?_
      show Wp _ _ _ 13 [(0, .ref 47), (1, .int 0), (2, .int s)] [.int 1] h _ _
      refine r_if 18 (q150 (i := 7) rfl) (by decide) (fun _ => ?_) (fun zz => absurd (show ¬ (1 : Int32) = 0 from by decide) zz)
      refine r_aload_n (q150 (i := 10) rfl) rfl ?_
      refine r_cV (d := _) (q150 (i := 11) rfl) rfl rfl rfl (k_47 S) (Nat.le_of_ble_eq_true rfl) (Nat.zero_le _) (Nat.zero_le _) Rg ?_
      show Wp _ _ _ 22 [(0, .ref 47), (1, .int 0), (2, .int s)] [] h1 _ _
      refine r_aload_n (q150 (i := 12) rfl) rfl ?_
      refine r_iload_n (q150 (i := 13) rfl) rfl ?_
      refine r_iload_n (q150 (i := 14) rfl) rfl ?_
      refine r_cV (d := _) (q150 (i := 15) rfl) rfl rfl rfl (k_47 S1) (Nat.le_of_ble_eq_true rfl) (Nat.zero_le _) (Nat.zero_le _) Rs ?_
      show Wp _ _ _ 28 [(0, .ref 47), (1, .int 0), (2, .int s)] [.int (nI (sd (zn σ) (z0 σ) s))] h1 _ _
      exact r_iret (q150 (i := 16) rfl) rfl hQ
    · rw [if_neg q]
      rw [hasS_0 q] at Ra
      refine ⟨h, ?_, M, FM.rf h⟩
      refine Run.of (d := 7) (Nat.le_of_ble_eq_true rfl) (fun Q hQ => ?_)
      show Wp (Ex 7) 150 Q 0 [(0, .ref 47), (1, .int 0), (2, .int s)] [] h 0 0
      refine r_iload_n (q150 (i := 0) rfl) rfl ?_
      refine r_cS (d := _) (q150 (i := 1) rfl) rfl (Nat.le_of_ble_eq_true rfl) rfl rfl (Nat.le_of_ble_eq_true rfl) (Nat.zero_le _) (Nat.zero_le _) R0 ?_
      show Wp _ _ _ 4 [(0, .ref 47), (1, .int 0), (2, .int s)] [.int 1] h _ _
      refine r_if 16 (q150 (i := 2) rfl) (by decide) (fun zz => absurd zz (show ¬ ((1 : Int32) = 0) from by decide)) (fun _ => ?_)
      refine r_aload_n (q150 (i := 3) rfl) rfl ?_
      refine r_iload_n (q150 (i := 4) rfl) rfl ?_
      refine r_iload_n (q150 (i := 5) rfl) rfl ?_
      refine r_cV (d := _) (q150 (i := 6) rfl) rfl rfl rfl (k_47 S) (Nat.le_of_ble_eq_true rfl) (Nat.zero_le _) (Nat.zero_le _) Ra ?_
      show Wp _ _ _ 13 [(0, .ref 47), (1, .int 0), (2, .int s)] [.int 0] h _ _
      refine r_if 18 (q150 (i := 7) rfl) (by decide) (fun zz => absurd zz (show ¬ (¬ (0 : Int32) = 0) from by decide)) (fun _ => ?_)
      refine r_iconst (v := (-1)) (q150 (i := 8) rfl) (by decide) ?_
      exact r_iret (q150 (i := 9) rfl) rfl hQ
  · rw [if_neg x0]
    by_cases x1 : x = 1
    · rw [if_pos x1]
      subst x1
      have R0 := sp_isC1 (d := 6) (h := h)
      have Ra := sp_mhas1 (d := 6) S M.1.2 M.2.2.1.2.1 s
      by_cases q : pl s < nI (zn σ + (zb σ).2.1)
      · rw [if_pos q]
        rw [hasS_1 q] at Ra
        obtain ⟨h1, Rg, M1, g1, F1⟩ := sp_graph (d := 3) M Z
        have S1 := M1.1.1
        have Rs := sp_side1 (d := 6) S1 M1.1.2 g1.2.2.2 hn kB q
        refine ⟨h1, ?_, M1, F1⟩
        refine Run.of (d := 7) (Nat.le_of_ble_eq_true rfl) (fun Q hQ => ?_)
        show Wp (Ex 7) 150 Q 0 [(0, .ref 47), (1, .int 1), (2, .int s)] [] h 0 0
        refine r_iload_n (q150 (i := 0) rfl) rfl ?_
        refine r_cS (d := _) (q150 (i := 1) rfl) rfl (Nat.le_of_ble_eq_true rfl) rfl rfl (Nat.le_of_ble_eq_true rfl) (Nat.zero_le _) (Nat.zero_le _) R0 ?_
        show Wp _ _ _ 4 [(0, .ref 47), (1, .int 1), (2, .int s)] [.int 1] h _ _
        refine r_if 16 (q150 (i := 2) rfl) (by decide) (fun zz => absurd zz (show ¬ ((1 : Int32) = 0) from by decide)) (fun _ => ?_)
        refine r_aload_n (q150 (i := 3) rfl) rfl ?_
        refine r_iload_n (q150 (i := 4) rfl) rfl ?_
        refine r_iload_n (q150 (i := 5) rfl) rfl ?_
        refine r_cV (d := _) (q150 (i := 6) rfl) rfl rfl rfl (k_47 S) (Nat.le_of_ble_eq_true rfl) (Nat.zero_le _) (Nat.zero_le _) Ra ?_
        show Wp _ _ _ 13 [(0, .ref 47), (1, .int 1), (2, .int s)] [.int 1] h _ _
        refine r_if 18 (q150 (i := 7) rfl) (by decide) (fun _ => ?_) (fun zz => absurd (show ¬ (1 : Int32) = 0 from by decide) zz)
        refine r_aload_n (q150 (i := 10) rfl) rfl ?_
        refine r_cV (d := _) (q150 (i := 11) rfl) rfl rfl rfl (k_47 S) (Nat.le_of_ble_eq_true rfl) (Nat.zero_le _) (Nat.zero_le _) Rg ?_
        show Wp _ _ _ 22 [(0, .ref 47), (1, .int 1), (2, .int s)] [] h1 _ _
        refine r_aload_n (q150 (i := 12) rfl) rfl ?_
        refine r_iload_n (q150 (i := 13) rfl) rfl ?_
        refine r_iload_n (q150 (i := 14) rfl) rfl ?_
        refine r_cV (d := _) (q150 (i := 15) rfl) rfl rfl rfl (k_47 S1) (Nat.le_of_ble_eq_true rfl) (Nat.zero_le _) (Nat.zero_le _) Rs ?_
        show Wp _ _ _ 28 [(0, .ref 47), (1, .int 1), (2, .int s)] [.int (nI (sd (zn σ) (z1 σ) s))] h1 _ _
        exact r_iret (q150 (i := 16) rfl) rfl hQ
      · rw [if_neg q]
        rw [hasS_0 q] at Ra
        refine ⟨h, ?_, M, FM.rf h⟩
        refine Run.of (d := 7) (Nat.le_of_ble_eq_true rfl) (fun Q hQ => ?_)
        show Wp (Ex 7) 150 Q 0 [(0, .ref 47), (1, .int 1), (2, .int s)] [] h 0 0
        refine r_iload_n (q150 (i := 0) rfl) rfl ?_
        refine r_cS (d := _) (q150 (i := 1) rfl) rfl (Nat.le_of_ble_eq_true rfl) rfl rfl (Nat.le_of_ble_eq_true rfl) (Nat.zero_le _) (Nat.zero_le _) R0 ?_
        show Wp _ _ _ 4 [(0, .ref 47), (1, .int 1), (2, .int s)] [.int 1] h _ _
        refine r_if 16 (q150 (i := 2) rfl) (by decide) (fun zz => absurd zz (show ¬ ((1 : Int32) = 0) from by decide)) (fun _ => ?_)
        refine r_aload_n (q150 (i := 3) rfl) rfl ?_
        refine r_iload_n (q150 (i := 4) rfl) rfl ?_
        refine r_iload_n (q150 (i := 5) rfl) rfl ?_
        refine r_cV (d := _) (q150 (i := 6) rfl) rfl rfl rfl (k_47 S) (Nat.le_of_ble_eq_true rfl) (Nat.zero_le _) (Nat.zero_le _) Ra ?_
        show Wp _ _ _ 13 [(0, .ref 47), (1, .int 1), (2, .int s)] [.int 0] h _ _
        refine r_if 18 (q150 (i := 7) rfl) (by decide) (fun zz => absurd zz (show ¬ (¬ (0 : Int32) = 0) from by decide)) (fun _ => ?_)
        refine r_iconst (v := (-1)) (q150 (i := 8) rfl) (by decide) ?_
        exact r_iret (q150 (i := 9) rfl) rfl hQ
    · rw [if_neg x1]
      refine ⟨h, ?_, M, FM.rf h⟩
      have R0 := sp_isCN (d := 6) (h := h) x0 x1
      refine Run.of (d := 7) (Nat.le_of_ble_eq_true rfl) (fun Q hQ => ?_)
      show Wp (Ex 7) 150 Q 0 [(0, .ref 47), (1, .int x), (2, .int s)] [] h 0 0
      refine r_iload_n (q150 (i := 0) rfl) rfl ?_
      refine r_cS (d := _) (q150 (i := 1) rfl) rfl (Nat.le_of_ble_eq_true rfl) rfl rfl (Nat.le_of_ble_eq_true rfl) (Nat.zero_le _) (Nat.zero_le _) R0 ?_
      show Wp _ _ _ 4 [(0, .ref 47), (1, .int x), (2, .int s)] [.int 0] h _ _
      refine r_if 16 (q150 (i := 2) rfl) (by decide) (fun _ => ?_) (fun zz => absurd (show (0 : Int32) = 0 from by decide) zz)
      refine r_iconst (v := (-1)) (q150 (i := 8) rfl) (by decide) ?_
      exact r_iret (q150 (i := 9) rfl) rfl hQ
set_option maxHeartbeats 2000000 in
set_option maxRecDepth 10000 in
theorem sp_mboth {d : Nat} {h : hp} (S : Sh h) {k0 k1 : Nat} (a0 : hI h 49 0 = nI k0) (a1 : hI h 49 1 = nI k1) (x : Int32) : Run (d + 1) 156 [.ref 47, .int x] h 0 0 (some (.int (if both k0 k1 x then 1 else 0))) h := by
  refine Run.of (Nat.le_of_ble_eq_true rfl) (fun Q hQ => ?_)
  show Wp (Ex (d)) 156 Q 0 [(0, .ref 47), (1, .int x)] [] h 0 0
  refine r_iload_n (q156 (i := 0) rfl) rfl ?_
  refine r_if 28 (q156 (i := 1) rfl) (by decide) (fun c1 => ?_) (fun c1 => ?_)
  · have c1 : x < 0 := c1
    rw [if_neg (fun y => (of_decide_eq_true y).1 c1)] at hQ
    refine r_iconst (v := 0) (q156 (i := 16) rfl) (by decide) ?_
    exact r_zret (q156 (i := 17) rfl) rfl (by decide) hQ
  · have c1 : ¬ (x < 0) := c1
    refine r_iload_n (q156 (i := 2) rfl) rfl ?_
    refine r_aload_n (q156 (i := 3) rfl) rfl ?_
    refine r_getR (b := 49) (q156 (i := 4) rfl) rfl (by decide) (k_47 S) (fun _ _ _ => rfl) (r_47_3 S) ?_
    refine r_iconst (v := 0) (q156 (i := 5) rfl) (by decide) ?_
    refine r_iaload (x := nI k0) (q156 (i := 6) rfl) (k_49 S) (vp_in_nI (n := 0) (by decide) (by decide)) a0 ?_
    refine r_icmp 28 (q156 (i := 7) rfl) (by decide) (fun c11 => ?_) (fun c11 => ?_)
    · have c11 : nI k0 ≤ x := c11
      rw [if_neg (fun y => nlt0 c11 (of_decide_eq_true y).2.1)] at hQ
      refine r_iconst (v := 0) (q156 (i := 16) rfl) (by decide) ?_
      exact r_zret (q156 (i := 17) rfl) rfl (by decide) hQ
    · have c11 : ¬ (nI k0 ≤ x) := c11
      refine r_iload_n (q156 (i := 8) rfl) rfl ?_
      refine r_aload_n (q156 (i := 9) rfl) rfl ?_
      refine r_getR (b := 49) (q156 (i := 10) rfl) rfl (by decide) (k_47 S) (fun _ _ _ => rfl) (r_47_3 S) ?_
      refine r_iconst (v := 1) (q156 (i := 11) rfl) (by decide) ?_
      refine r_iaload (x := nI k1) (q156 (i := 12) rfl) (k_49 S) (vp_in_nI (n := 1) (by decide) (by decide)) a1 ?_
      refine r_icmp 28 (q156 (i := 13) rfl) (by decide) (fun c21 => ?_) (fun c21 => ?_)
      · have c21 : nI k1 ≤ x := c21
        rw [if_neg (fun y => nlt0 c21 (of_decide_eq_true y).2.2)] at hQ
        refine r_iconst (v := 0) (q156 (i := 16) rfl) (by decide) ?_
        exact r_zret (q156 (i := 17) rfl) rfl (by decide) hQ
      · have c21 : ¬ (nI k1 ≤ x) := c21
        rw [if_pos (show both k0 k1 x = true from decide_eq_true ⟨c1, lt0 c11, lt0 c21⟩)] at hQ
        refine r_iconst (v := 1) (q156 (i := 14) rfl) (by decide) ?_
        refine r_goto 29 (q156 (i := 15) rfl) (by decide) ?_
        exact r_zret (q156 (i := 17) rfl) rfl (by decide) hQ
set_option maxHeartbeats 2000000 in
set_option maxRecDepth 10000 in
theorem sp_mdif {d : Nat} {h : hp} {σ : st8} (M : MI h σ) (Z : zok σ) {i : Nat} (i0 : i < (za σ).2.2.2) (i1 : i < (zb σ).2.2.2) : ∃ h', Run (d + 4 + 1) 157 [.ref 47, .int (nI i)] h 0 0 (some (.int (wdo σ i))) h' ∧ MI h' σ ∧ FM h h' := by
  have S := M.1.1
  have hn := Z.1.2
  have kA := Z.2.1.1
  have kB := Z.2.2.1.1
  have oA := Z.2.1.2.1
  have oB := Z.2.2.1.2.1
  have hC := zC Z
  have p0 := Z.2.1.2.2.2 i i0
  have p1 := Z.2.2.1.2.2.2 i i1
  have R0 := sp_mboth (d := d + 3) S M.2.1.2.2.2 M.2.2.1.2.2.2 (nI i)
  rw [if_pos (show both (za σ).2.2.2 (zb σ).2.2.2 (nI i) = true from decide_eq_true ⟨nI_pos (by omega), nI_lt i0 (by omega), nI_lt i1 (by omega)⟩)] at R0
  obtain ⟨h1, Rg, M1, g1, F1⟩ := sp_graph (d := d) M Z
  have S1 := M1.1.1
  have Ra := sp_side0 (d := d + 3) S1 M1.1.2 g1.2.2.1 hn kA p0
  have Rb := sp_side1 (d := d + 3) S1 M1.1.2 g1.2.2.2 hn kB p1
  have Ru := sp_unlike (d := d + 1) S1 hn M1.1.2 g1.2.1.2.2.2 (by omega) (zlt0 Z p0) (zlt1 Z p1)
  refine ⟨h1, ?_, M1, F1⟩
  refine Run.of (d := d + 4) (Nat.le_of_ble_eq_true rfl) (fun Q hQ => ?_)
  show Wp (Ex (d + 4)) 157 Q 0 [(0, .ref 47), (1, .int (nI i))] [] h 0 0
  refine r_aload_n (q157 (i := 0) rfl) rfl ?_
  refine r_iload_n (q157 (i := 1) rfl) rfl ?_
  refine r_cV (d := _) (q157 (i := 2) rfl) rfl rfl rfl (k_47 S) (Nat.le_of_ble_eq_true rfl) (Nat.zero_le _) (Nat.zero_le _) R0 ?_
  show Wp _ _ _ 5 [(0, .ref 47), (1, .int (nI i))] [.int 1] h _ _
  refine r_if 10 (q157 (i := 3) rfl) (by decide) (fun _ => ?_) (fun zz => absurd (show ¬ (1 : Int32) = 0 from by decide) zz)
  refine r_aload_n (q157 (i := 6) rfl) rfl ?_
  refine r_cV (d := _) (q157 (i := 7) rfl) rfl rfl rfl (k_47 S) (Nat.le_of_ble_eq_true rfl) (Nat.zero_le _) (Nat.zero_le _) Rg ?_
  show Wp _ _ _ 14 [(0, .ref 47), (1, .int (nI i))] [] h1 _ _
  refine r_aload_n (q157 (i := 8) rfl) rfl ?_
  refine r_aload_n (q157 (i := 9) rfl) rfl ?_
  refine r_iconst (v := 0) (q157 (i := 10) rfl) (by decide) ?_
  refine r_aload_n (q157 (i := 11) rfl) rfl ?_
  refine r_getR (b := 62) (q157 (i := 12) rfl) rfl (by decide) (k_47 S1) (fun _ _ _ => rfl) (r_47_8 S1) ?_
  refine r_iconst (v := 0) (q157 (i := 13) rfl) (by decide) ?_
  refine r_aaload5 (q157 (i := 14) rfl) (k_62 S1) (vp_in_nI (n := 0) (by decide) (by decide)) (r_62_0 S1) ?_
  refine r_iload_n (q157 (i := 15) rfl) rfl ?_
  refine r_iaN (x := (za σ).2.2.1 i) (q157 (i := 16) rfl) (k_63 S1) (by omega) (by decide) (by rw [M1.2.1.2.2.1]) ?_
  refine r_cV (d := _) (q157 (i := 17) rfl) rfl rfl rfl (k_47 S1) (Nat.le_of_ble_eq_true rfl) (Nat.zero_le _) (Nat.zero_le _) Ra ?_
  show Wp _ _ _ 28 [(0, .ref 47), (1, .int (nI i))] [.int (nI (sd (zn σ) (z0 σ) ((za σ).2.2.1 i))), .ref 47] h1 _ _
  refine r_aload_n (q157 (i := 18) rfl) rfl ?_
  refine r_iconst (v := 1) (q157 (i := 19) rfl) (by decide) ?_
  refine r_aload_n (q157 (i := 20) rfl) rfl ?_
  refine r_getR (b := 62) (q157 (i := 21) rfl) rfl (by decide) (k_47 S1) (fun _ _ _ => rfl) (r_47_8 S1) ?_
  refine r_iconst (v := 1) (q157 (i := 22) rfl) (by decide) ?_
  refine r_aaload5 (q157 (i := 23) rfl) (k_62 S1) (vp_in_nI (n := 1) (by decide) (by decide)) (r_62_1 S1) ?_
  refine r_iload_n (q157 (i := 24) rfl) rfl ?_
  refine r_iaN (x := (zb σ).2.2.1 i) (q157 (i := 25) rfl) (k_64 S1) (by omega) (by decide) (by rw [M1.2.2.1.2.2.1]) ?_
  refine r_cV (d := _) (q157 (i := 26) rfl) rfl rfl rfl (k_47 S1) (Nat.le_of_ble_eq_true rfl) (Nat.zero_le _) (Nat.zero_le _) Rb ?_
  show Wp _ _ _ 41 [(0, .ref 47), (1, .int (nI i))] [.int (nI (sd (zn σ) (z1 σ) ((zb σ).2.2.1 i))), .int (nI (sd (zn σ) (z0 σ) ((za σ).2.2.1 i))), .ref 47] h1 _ _
  refine r_cV (d := _) (q157 (i := 27) rfl) rfl rfl rfl (k_47 S1) (Nat.le_of_ble_eq_true rfl) (Nat.zero_le _) (Nat.zero_le _) Ru ?_
  show Wp _ _ _ 44 [(0, .ref 47), (1, .int (nI i))] [.int (wdo σ i)] h1 _ _
  exact r_iret (q157 (i := 28) rfl) rfl hQ
set_option maxHeartbeats 2000000 in
set_option maxRecDepth 10000 in
theorem ms_differs {h : hp} {σ : st8} (M : MI h σ) (Z : zok σ) (x : Int32) : MStep 157 [.ref 47, .int x] h (aDif σ x) σ := by
  have S := M.1.1
  unfold aDif
  by_cases q : both (za σ).2.2.2 (zb σ).2.2.2 x = true
  · rw [if_pos q]
    obtain ⟨i, i0, i1, e⟩ := both_t Z.2.1.2.1 Z.2.2.1.2.1 q
    subst e
    rw [nI_clamp (by have := Z.2.1.2.1; omega)]
    exact sp_mdif (d := 3) M Z i0 i1
  · rw [if_neg q]
    have R0 := sp_mboth (d := 6) S M.2.1.2.2.2 M.2.2.1.2.2.2 x
    rw [if_neg q] at R0
    refine ⟨h, ?_, M, FM.rf h⟩
    refine Run.of (d := 7) (Nat.le_of_ble_eq_true rfl) (fun Q hQ => ?_)
    show Wp (Ex 7) 157 Q 0 [(0, .ref 47), (1, .int x)] [] h 0 0
    refine r_aload_n (q157 (i := 0) rfl) rfl ?_
    refine r_iload_n (q157 (i := 1) rfl) rfl ?_
    refine r_cV (d := _) (q157 (i := 2) rfl) rfl rfl rfl (k_47 S) (Nat.le_of_ble_eq_true rfl) (Nat.zero_le _) (Nat.zero_le _) R0 ?_
    show Wp _ _ _ 5 [(0, .ref 47), (1, .int x)] [.int 0] h _ _
    refine r_if 10 (q157 (i := 3) rfl) (by decide) (fun zz => absurd zz (show ¬ (¬ (0 : Int32) = 0) from by decide)) (fun _ => ?_)
    refine r_iconst (v := (-1)) (q157 (i := 4) rfl) (by decide) ?_
    exact r_iret (q157 (i := 5) rfl) rfl hQ
set_option maxHeartbeats 2000000 in
set_option maxRecDepth 10000 in
theorem sp_msam {d : Nat} {h : hp} {σ : st8} (M : MI h σ) (Z : zok σ) {i : Nat} (i0 : i < (za σ).2.2.2) (i1 : i < (zb σ).2.2.2) : ∃ h', Run (d + 5 + 1) 158 [.ref 47, .int (nI i)] h 0 0 (some (.int (if wdo σ i = -1 then 1 else 0))) h' ∧ MI h' σ ∧ FM h h' := by
  have S := M.1.1
  have oA := Z.2.1.2.1
  have oB := Z.2.2.1.2.1
  have R0 := sp_mboth (d := d + 4) S M.2.1.2.2.2 M.2.2.1.2.2.2 (nI i)
  rw [if_pos (show both (za σ).2.2.2 (zb σ).2.2.2 (nI i) = true from decide_eq_true ⟨nI_pos (by omega), nI_lt i0 (by omega), nI_lt i1 (by omega)⟩)] at R0
  obtain ⟨h1, R1, M1, F1⟩ := sp_mdif (d := d) M Z i0 i1
  refine ⟨h1, ?_, M1, F1⟩
  refine Run.of (d := d + 5) (Nat.le_of_ble_eq_true rfl) (fun Q hQ => ?_)
  show Wp (Ex (d + 5)) 158 Q 0 [(0, .ref 47), (1, .int (nI i))] [] h 0 0
  refine r_aload_n (q158 (i := 0) rfl) rfl ?_
  refine r_iload_n (q158 (i := 1) rfl) rfl ?_
  refine r_cV (d := _) (q158 (i := 2) rfl) rfl rfl rfl (k_47 S) (Nat.le_of_ble_eq_true rfl) (Nat.zero_le _) (Nat.zero_le _) R0 ?_
  show Wp _ _ _ 5 [(0, .ref 47), (1, .int (nI i))] [.int 1] h _ _
  refine r_if 12 (q158 (i := 3) rfl) (by decide) (fun _ => ?_) (fun zz => absurd (show ¬ (1 : Int32) = 0 from by decide) zz)
  refine r_aload_n (q158 (i := 6) rfl) rfl ?_
  refine r_iload_n (q158 (i := 7) rfl) rfl ?_
  refine r_cV (d := _) (q158 (i := 8) rfl) rfl rfl rfl (k_47 S) (Nat.le_of_ble_eq_true rfl) (Nat.zero_le _) (Nat.zero_le _) R1 ?_
  show Wp _ _ _ 17 [(0, .ref 47), (1, .int (nI i))] [.int (wdo σ i)] h1 _ _
  refine r_iconst (v := (-1)) (q158 (i := 9) rfl) (by decide) ?_
  refine r_icmp 25 (q158 (i := 10) rfl) (by decide) (fun c18 => ?_) (fun c18 => ?_)
  · have c18 : ¬ wdo σ i = (-1) := c18
    rw [if_neg c18] at hQ
    refine r_iconst (v := 0) (q158 (i := 13) rfl) (by decide) ?_
    exact r_iret (q158 (i := 14) rfl) rfl hQ
  · have c18 : ¬ (¬ wdo σ i = (-1)) := c18
    rw [if_pos (Classical.not_not.mp c18)] at hQ
    refine r_iconst (v := 1) (q158 (i := 11) rfl) (by decide) ?_
    refine r_goto 26 (q158 (i := 12) rfl) (by decide) ?_
    exact r_iret (q158 (i := 14) rfl) rfl hQ
set_option maxHeartbeats 2000000 in
set_option maxRecDepth 10000 in
theorem ms_same {h : hp} {σ : st8} (M : MI h σ) (Z : zok σ) (x : Int32) : MStep 158 [.ref 47, .int x] h (aSam σ x) σ := by
  have S := M.1.1
  unfold aSam
  by_cases q : both (za σ).2.2.2 (zb σ).2.2.2 x = true
  · rw [if_pos q]
    obtain ⟨i, i0, i1, e⟩ := both_t Z.2.1.2.1 Z.2.2.1.2.1 q
    subst e
    rw [nI_clamp (by have := Z.2.1.2.1; omega)]
    exact sp_msam (d := 2) M Z i0 i1
  · rw [if_neg q]
    have R0 := sp_mboth (d := 6) S M.2.1.2.2.2 M.2.2.1.2.2.2 x
    rw [if_neg q] at R0
    refine ⟨h, ?_, M, FM.rf h⟩
    refine Run.of (d := 7) (Nat.le_of_ble_eq_true rfl) (fun Q hQ => ?_)
    show Wp (Ex 7) 158 Q 0 [(0, .ref 47), (1, .int x)] [] h 0 0
    refine r_aload_n (q158 (i := 0) rfl) rfl ?_
    refine r_iload_n (q158 (i := 1) rfl) rfl ?_
    refine r_cV (d := _) (q158 (i := 2) rfl) rfl rfl rfl (k_47 S) (Nat.le_of_ble_eq_true rfl) (Nat.zero_le _) (Nat.zero_le _) R0 ?_
    show Wp _ _ _ 5 [(0, .ref 47), (1, .int x)] [.int 0] h _ _
    refine r_if 12 (q158 (i := 3) rfl) (by decide) (fun zz => absurd zz (show ¬ (¬ (0 : Int32) = 0) from by decide)) (fun _ => ?_)
    refine r_iconst (v := (-1)) (q158 (i := 4) rfl) (by decide) ?_
    refine r_goto 26 (q158 (i := 5) rfl) (by decide) ?_
    exact r_iret (q158 (i := 14) rfl) rfl hQ
set_option maxHeartbeats 2000000 in
set_option maxRecDepth 10000 in
theorem lp_mvrd {σ : st8} (Z : zok σ) (e : (za σ).2.2.2 = (zb σ).2.2.2) : ∀ (m i : Nat) (h : hp), i + m = (za σ).2.2.2 → MI h σ → ∃ h', MI h' σ ∧ FM h h' ∧ ∀ (Q : resP) (bc bs : Nat), Q (some (.int (if vrd σ m i then 1 else 0))) h' → ∀ ls : List (Nat × Value), ls.lookup 1 = some (.int (nI i)) → ls.lookup 0 = some (.ref 47) → Wp (Ex 7) 159 Q 19 ls [] h bc bs := by
  have oA := Z.2.1.2.1
  intro m
  induction m with
  | zero =>
    intro i h hm M
    have S := M.1.1
    have m4 := M.2.1.2.2.2
    have ei : i = (za σ).2.2.2 := by omega
    subst ei
    refine ⟨h, M, FM.rf h, fun Q bc bs hQ ls l1 l0 => ?_⟩
    refine r_iload_n (q159 (i := 13) rfl) l1 ?_
    refine r_aload_n (q159 (i := 14) rfl) l0 ?_
    refine r_getR (b := 49) (q159 (i := 15) rfl) rfl (by decide) (k_47 S) (fun _ _ _ => rfl) (r_47_3 S) ?_
    refine r_iconst (v := 0) (q159 (i := 16) rfl) (by decide) ?_
    refine r_iaload (x := nI (za σ).2.2.2) (q159 (i := 17) rfl) (k_49 S) (vp_in_nI (n := 0) (by decide) (by decide)) m4 ?_
    refine r_icmp 45 (q159 (i := 18) rfl) (by decide) (fun _ => ?_) (fun zz => absurd (show nI (za σ).2.2.2 ≤ nI (za σ).2.2.2 from Int32.le_refl _) zz)
    refine r_iconst (v := 1) (q159 (i := 27) rfl) (by decide) ?_
    exact r_iret (q159 (i := 28) rfl) rfl hQ
  | succ m ih =>
    intro i h hm M
    have S := M.1.1
    have m4 := M.2.1.2.2.2
    obtain ⟨h1, R1, M1, F1⟩ := sp_msam (d := 1) M Z (i := i) (by omega) (by omega)
    by_cases w : wdo σ i = -1
    · rw [if_pos w] at R1
      obtain ⟨h2, M2, F2, K⟩ := ih (i + 1) h1 (by omega) M1
      refine ⟨h2, M2, F1.tr F2, fun Q bc bs hQ ls l1 l0 => ?_⟩
      have hQ : Q (some (.int (if vrd σ m (i + 1) then 1 else 0))) h2 := by
        unfold vrd at hQ
        rw [if_pos w] at hQ
        exact hQ
      refine r_iload_n (q159 (i := 13) rfl) l1 ?_
      refine r_aload_n (q159 (i := 14) rfl) l0 ?_
      refine r_getR (b := 49) (q159 (i := 15) rfl) rfl (by decide) (k_47 S) (fun _ _ _ => rfl) (r_47_3 S) ?_
      refine r_iconst (v := 0) (q159 (i := 16) rfl) (by decide) ?_
      refine r_iaload (x := nI (za σ).2.2.2) (q159 (i := 17) rfl) (k_49 S) (vp_in_nI (n := 0) (by decide) (by decide)) m4 ?_
      refine r_icmp 45 (q159 (i := 18) rfl) (by decide) (fun zz => absurd zz (show ¬ (nI (za σ).2.2.2 ≤ nI i) from nI_ge (by omega) (by omega))) (fun _ => ?_)
      refine r_aload_n (q159 (i := 19) rfl) l0 ?_
      refine r_iload_n (q159 (i := 20) rfl) l1 ?_
      refine r_cV (d := _) (q159 (i := 21) rfl) rfl rfl rfl (k_47 S) (Nat.le_of_ble_eq_true rfl) (Nat.zero_le _) (Nat.zero_le _) R1 ?_
      show Wp _ _ _ 34 ls [.int 1] h1 _ _
      refine r_if 39 (q159 (i := 22) rfl) (by decide) (fun _ => ?_) (fun zz => absurd (show ¬ (1 : Int32) = 0 from by decide) zz)
      refine r_iinc (y := nI (i + 1)) (q159 (i := 25) rfl) (Nat.le_of_ble_eq_true rfl) l1 (nI_1 i) rfl ?_
      have l0 := lk1 (k := 1) (v := .int (nI (i + 1))) l0 (by decide) (Or.inl rfl)
      have l1 := lk0 ls 1 (.int (nI (i + 1)))
      generalize lset1 ls 1 (.int (nI (i + 1))) = ls at l1 l0 ⊢
      refine r_goto 19 (q159 (i := 26) rfl) (by decide) ?_
      exact K Q bc bs hQ ls l1 l0
    · rw [if_neg w] at R1
      refine ⟨h1, M1, F1, fun Q bc bs hQ ls l1 l0 => ?_⟩
      have hQ : Q (some (.int 0)) h1 := by
        unfold vrd at hQ
        rw [if_neg w] at hQ
        exact hQ
      refine r_iload_n (q159 (i := 13) rfl) l1 ?_
      refine r_aload_n (q159 (i := 14) rfl) l0 ?_
      refine r_getR (b := 49) (q159 (i := 15) rfl) rfl (by decide) (k_47 S) (fun _ _ _ => rfl) (r_47_3 S) ?_
      refine r_iconst (v := 0) (q159 (i := 16) rfl) (by decide) ?_
      refine r_iaload (x := nI (za σ).2.2.2) (q159 (i := 17) rfl) (k_49 S) (vp_in_nI (n := 0) (by decide) (by decide)) m4 ?_
      refine r_icmp 45 (q159 (i := 18) rfl) (by decide) (fun zz => absurd zz (show ¬ (nI (za σ).2.2.2 ≤ nI i) from nI_ge (by omega) (by omega))) (fun _ => ?_)
      refine r_aload_n (q159 (i := 19) rfl) l0 ?_
      refine r_iload_n (q159 (i := 20) rfl) l1 ?_
      refine r_cV (d := _) (q159 (i := 21) rfl) rfl rfl rfl (k_47 S) (Nat.le_of_ble_eq_true rfl) (Nat.zero_le _) (Nat.zero_le _) R1 ?_
      show Wp _ _ _ 34 ls [.int 0] h1 _ _
      refine r_if 39 (q159 (i := 22) rfl) (by decide) (fun zz => absurd zz (show ¬ (¬ (0 : Int32) = 0) from by decide)) (fun _ => ?_)
      refine r_iconst (v := 0) (q159 (i := 23) rfl) (by decide) ?_
      exact r_iret (q159 (i := 24) rfl) rfl hQ
set_option maxHeartbeats 2000000 in
set_option maxRecDepth 10000 in
theorem ms_verdict {h : hp} {σ : st8} (M : MI h σ) (Z : zok σ) : MStep 159 [.ref 47] h (aVrd σ) σ := by
  have S := M.1.1
  have oA := Z.2.1.2.1
  have oB := Z.2.2.1.2.1
  unfold aVrd
  by_cases q : (za σ).2.2.2 = (zb σ).2.2.2
  · rw [if_pos q]
    obtain ⟨h1, M1, F1, K⟩ := lp_mvrd Z q (za σ).2.2.2 0 h (Nat.zero_add _) M
    refine ⟨h1, ?_, M1, F1⟩
    refine Run.of (d := 7) (Nat.le_of_ble_eq_true rfl) (fun Q hQ => ?_)
    show Wp (Ex 7) 159 Q 0 [(0, .ref 47)] [] h 0 0
    refine r_aload_n (q159 (i := 0) rfl) rfl ?_
    refine r_getR (b := 49) (q159 (i := 1) rfl) rfl (by decide) (k_47 S) (fun _ _ _ => rfl) (r_47_3 S) ?_
    refine r_iconst (v := 0) (q159 (i := 2) rfl) (by decide) ?_
    refine r_iaload (x := nI (za σ).2.2.2) (q159 (i := 3) rfl) (k_49 S) (vp_in_nI (n := 0) (by decide) (by decide)) M.2.1.2.2.2 ?_
    refine r_aload_n (q159 (i := 4) rfl) rfl ?_
    refine r_getR (b := 49) (q159 (i := 5) rfl) rfl (by decide) (k_47 S) (fun _ _ _ => rfl) (r_47_3 S) ?_
    refine r_iconst (v := 1) (q159 (i := 6) rfl) (by decide) ?_
    refine r_iaload (x := nI (zb σ).2.2.2) (q159 (i := 7) rfl) (k_49 S) (vp_in_nI (n := 1) (by decide) (by decide)) M.2.2.1.2.2.2 ?_
    refine r_icmp 17 (q159 (i := 8) rfl) (by decide) (fun _ => ?_) (fun zz => absurd (show nI (za σ).2.2.2 = nI (zb σ).2.2.2 from by rw [q]) zz)
    refine r_iconst (v := nI 0) (q159 (i := 11) rfl) (by decide) ?_
    refine r_istore_n (ls' := [(1, .int (nI 0)), (0, .ref 47)]) (q159 (i := 12) rfl) (Nat.le_of_ble_eq_true rfl) rfl ?_
    exact K Q 0 0 hQ _ rfl rfl
  · rw [if_neg q]
    refine ⟨h, ?_, M, FM.rf h⟩
    refine Run.of (d := 7) (Nat.le_of_ble_eq_true rfl) (fun Q hQ => ?_)
    show Wp (Ex 7) 159 Q 0 [(0, .ref 47)] [] h 0 0
    refine r_aload_n (q159 (i := 0) rfl) rfl ?_
    refine r_getR (b := 49) (q159 (i := 1) rfl) rfl (by decide) (k_47 S) (fun _ _ _ => rfl) (r_47_3 S) ?_
    refine r_iconst (v := 0) (q159 (i := 2) rfl) (by decide) ?_
    refine r_iaload (x := nI (za σ).2.2.2) (q159 (i := 3) rfl) (k_49 S) (vp_in_nI (n := 0) (by decide) (by decide)) M.2.1.2.2.2 ?_
    refine r_aload_n (q159 (i := 4) rfl) rfl ?_
    refine r_getR (b := 49) (q159 (i := 5) rfl) rfl (by decide) (k_47 S) (fun _ _ _ => rfl) (r_47_3 S) ?_
    refine r_iconst (v := 1) (q159 (i := 6) rfl) (by decide) ?_
    refine r_iaload (x := nI (zb σ).2.2.2) (q159 (i := 7) rfl) (k_49 S) (vp_in_nI (n := 1) (by decide) (by decide)) M.2.2.1.2.2.2 ?_
    refine r_icmp 17 (q159 (i := 8) rfl) (by decide) (fun zz => absurd zz (show ¬ (nI (za σ).2.2.2 = nI (zb σ).2.2.2) from neN (by omega) (by omega) q)) (fun _ => ?_)
    refine r_iconst (v := (-1)) (q159 (i := 9) rfl) (by decide) ?_
    exact r_iret (q159 (i := 10) rfl) rfl hQ
def FP (P : Nat → Prop) (a : Int32) (k : Nat) : Prop := (a = 1 ∧ ∀ i, i < k → P i) ∨ (a = 0 ∧ ¬ ∀ i, i < k → P i)
theorem FP_1 {P : Nat → Prop} {a : Int32} {k : Nat} (f : FP P a k) (h : ¬ a = 0) (p : P k) : FP P 1 (k + 1) := by
  rcases f with ⟨_, f⟩ | ⟨e, _⟩
  · exact Or.inl ⟨rfl, fun i hi => by
      by_cases e : i = k
      · rw [e]; exact p
      · exact f i (by omega)⟩
  · exact absurd e h
theorem FP_0 {P : Nat → Prop} {a : Int32} {k : Nat} (f : FP P a k) (h : a = 0) : FP P 0 (k + 1) := by
  rcases f with ⟨e, _⟩ | ⟨_, f⟩
  · rw [h] at e; exact absurd e (by decide)
  · exact Or.inr ⟨rfl, fun y => f (fun i hi => y i (by omega))⟩
theorem FP_n {P : Nat → Prop} {k : Nat} (p : ¬ P k) : FP P 0 (k + 1) := Or.inr ⟨rfl, fun y => p (y k (Nat.lt_succ_self k))⟩
set_option maxHeartbeats 2000000 in
set_option maxRecDepth 10000 in
theorem lp_mlik {d : Nat} {h : hp} (S : Sh h) {C : Nat} {T : Nat → Nat → Int64} (hT : MT h C T) (hC : C ≤ 1000) {V : Nat → Int64} (hV : hJ h 1071 = V) {x y : Nat} (hx : x < C) (hy : y < C) {Q : resP} {bc bs : Nat} (hQ : Q (some (.int (lik T V x y))) h) : ∀ (m k : Nat), k + m = 64 → ∀ a b : Int32, FP (fun i => dV T V x y i = 0) a k → FP (fun i => dV T V x y i = V i) b k → ∀ ls : List (Nat × Value), ls.lookup 5 = some (.int (nI k)) → ls.lookup 4 = some (.int b) → ls.lookup 3 = some (.int a) → ls.lookup 1 = some (.int (nI x)) → ls.lookup 2 = some (.int (nI y)) → ls.lookup 0 = some (.ref 47) → Wp (Ex d) 146 Q 8 ls [] h bc bs := by
  intro m
  induction m with
  | zero =>
    intro k hm a b fa fb ls l5 l4 l3 l1 l2 l0
    have e : k = 64 := by omega
    subst e
    unfold lik at hQ
    refine r_iload (q146 (i := 6) rfl) l5 ?_
    refine r_bipush (v := 64) (q146 (i := 7) rfl) (by decide) ?_
    refine r_icmp 92 (q146 (i := 8) rfl) (by decide) (fun _ => ?_) (fun zz => absurd (show 64 ≤ nI 64 from Int32.le_refl _) zz)
    refine r_iload_n (q146 (i := 53) rfl) l3 ?_
    refine r_if 100 (q146 (i := 54) rfl) (by decide) (fun c93 => ?_) (fun c93 => ?_)
    · have c93 : a = 0 := c93
      have n1 : ¬ ∀ w, w < 64 → dV T V x y w = 0 := fa.elim (fun z => absurd z.1 (by rw [c93]; decide)) (fun z => z.2)
      rw [if_neg n1] at hQ
      refine r_iload (q146 (i := 57) rfl) l4 ?_
      refine r_if 109 (q146 (i := 58) rfl) (by decide) (fun c102 => ?_) (fun c102 => ?_)
      · have c102 : b = 0 := c102
        have n2 : ¬ ∀ w, w < 64 → dV T V x y w = V w := fb.elim (fun z => absurd z.1 (by rw [c102]; decide)) (fun z => z.2)
        rw [if_neg n2] at hQ
        refine r_iconst (v := 0) (q146 (i := 61) rfl) (by decide) ?_
        exact r_iret (q146 (i := 62) rfl) rfl hQ
      · have c102 : ¬ (b = 0) := c102
        have n2 : ∀ w, w < 64 → dV T V x y w = V w := fb.elim (fun z => z.2) (fun z => absurd z.1 c102)
        rw [if_pos n2] at hQ
        refine r_iconst (v := 2) (q146 (i := 59) rfl) (by decide) ?_
        refine r_goto 110 (q146 (i := 60) rfl) (by decide) ?_
        exact r_iret (q146 (i := 62) rfl) rfl hQ
    · have c93 : ¬ (a = 0) := c93
      have n1 : ∀ w, w < 64 → dV T V x y w = 0 := fa.elim (fun z => z.2) (fun z => absurd z.1 c93)
      rw [if_pos n1] at hQ
      refine r_iconst (v := 1) (q146 (i := 55) rfl) (by decide) ?_
      refine r_goto 110 (q146 (i := 56) rfl) (by decide) ?_
      exact r_iret (q146 (i := 62) rfl) rfl hQ
  | succ m ih =>
    intro k hm a b fa fb ls l5 l4 l3 l1 l2 l0
    have K86 : ∀ a b : Int32, FP (fun i => dV T V x y i = 0) a (k + 1) → FP (fun i => dV T V x y i = V i) b (k + 1) → ∀ ls : List (Nat × Value), ls.lookup 5 = some (.int (nI k)) → ls.lookup 4 = some (.int b) → ls.lookup 3 = some (.int a) → ls.lookup 1 = some (.int (nI x)) → ls.lookup 2 = some (.int (nI y)) → ls.lookup 0 = some (.ref 47) → Wp (Ex d) 146 Q 86 ls [] h bc bs := fun a b fa fb ls l5 l4 l3 l1 l2 l0 => by
      refine r_iinc (y := nI (k + 1)) (q146 (i := 51) rfl) (Nat.le_of_ble_eq_true rfl) l5 (nI_1 k) rfl ?_
      have l4 := lk1 (k := 5) (v := .int (nI (k + 1))) l4 (by decide) (Or.inl rfl)
      have l3 := lk1 (k := 5) (v := .int (nI (k + 1))) l3 (by decide) (Or.inr (by decide))
      have l1 := lk1 (k := 5) (v := .int (nI (k + 1))) l1 (by decide) (Or.inr (by decide))
      have l2 := lk1 (k := 5) (v := .int (nI (k + 1))) l2 (by decide) (Or.inr (by decide))
      have l0 := lk1 (k := 5) (v := .int (nI (k + 1))) l0 (by decide) (Or.inr (by decide))
      have l5 := lk0 ls 5 (.int (nI (k + 1)))
      generalize lset1 ls 5 (.int (nI (k + 1))) = ls at l5 l4 l3 l1 l2 l0 ⊢
      refine r_goto 8 (q146 (i := 52) rfl) (by decide) ?_
      exact ih (k + 1) (by omega) a b fa fb ls l5 l4 l3 l1 l2 l0
    have K61 : ∀ a : Int32, FP (fun i => dV T V x y i = 0) a (k + 1) → ∀ ls : List (Nat × Value), ls.lookup 6 = some (.long (dV T V x y k)) → ls.lookup 5 = some (.int (nI k)) → ls.lookup 4 = some (.int b) → ls.lookup 3 = some (.int a) → ls.lookup 1 = some (.int (nI x)) → ls.lookup 2 = some (.int (nI y)) → ls.lookup 0 = some (.ref 47) → Wp (Ex d) 146 Q 61 ls [] h bc bs := fun a fa ls l6 l5 l4 l3 l1 l2 l0 => by
      refine r_iload (q146 (i := 38) rfl) l4 ?_
      refine r_if 83 (q146 (i := 39) rfl) (by decide) (fun c63 => ?_) (fun c63 => ?_)
      · have c63 : b = 0 := c63
        have fb := FP_0 fb c63
        refine r_iconst (v := 0) (q146 (i := 49) rfl) (by decide) ?_
        refine r_istore (ls' := lset1 ls 4 (.int 0)) (q146 (i := 50) rfl) (Nat.le_of_ble_eq_true rfl) rfl ?_
        have l6 := lk1 (k := 4) (v := .int 0) l6 (by decide) (Or.inr (by decide))
        have l5 := lk1 (k := 4) (v := .int 0) l5 (by decide) (Or.inr (by decide))
        have l3 := lk1 (k := 4) (v := .int 0) l3 (by decide) (Or.inl rfl)
        have l1 := lk1 (k := 4) (v := .int 0) l1 (by decide) (Or.inr (by decide))
        have l2 := lk1 (k := 4) (v := .int 0) l2 (by decide) (Or.inr (by decide))
        have l0 := lk1 (k := 4) (v := .int 0) l0 (by decide) (Or.inr (by decide))
        have l4 := lk0 ls 4 (.int 0)
        generalize lset1 ls 4 (.int 0) = ls at l4 l6 l5 l3 l1 l2 l0 ⊢
        exact K86 a _ fa fb ls l5 l4 l3 l1 l2 l0
      · have c63 : ¬ (b = 0) := c63
        refine r_lload (q146 (i := 40) rfl) l6 ?_
        refine r_aload_n (q146 (i := 41) rfl) l0 ?_
        refine r_getR (b := 1071) (q146 (i := 42) rfl) rfl (by decide) (k_47 S) (fun _ _ _ => rfl) (r_47_15 S) ?_
        refine r_iload (q146 (i := 43) rfl) l5 ?_
        refine r_laN (x := V k) (q146 (i := 44) rfl) (k_1071 S) (by omega) (by decide) (by rw [hV]) ?_
        refine r_lcmp (q146 (i := 45) rfl) ?_
        refine r_if 83 (q146 (i := 46) rfl) (by decide) (fun c76 => ?_) (fun c76 => ?_)
        · have c76 : ¬ lg_cmp (dV T V x y k) (V k) = 0 := c76
          rw [cmp0] at c76
          have fb := FP_n (P := (fun i => dV T V x y i = V i)) c76
          refine r_iconst (v := 0) (q146 (i := 49) rfl) (by decide) ?_
          refine r_istore (ls' := lset1 ls 4 (.int 0)) (q146 (i := 50) rfl) (Nat.le_of_ble_eq_true rfl) rfl ?_
          have l6 := lk1 (k := 4) (v := .int 0) l6 (by decide) (Or.inr (by decide))
          have l5 := lk1 (k := 4) (v := .int 0) l5 (by decide) (Or.inr (by decide))
          have l3 := lk1 (k := 4) (v := .int 0) l3 (by decide) (Or.inl rfl)
          have l1 := lk1 (k := 4) (v := .int 0) l1 (by decide) (Or.inr (by decide))
          have l2 := lk1 (k := 4) (v := .int 0) l2 (by decide) (Or.inr (by decide))
          have l0 := lk1 (k := 4) (v := .int 0) l0 (by decide) (Or.inr (by decide))
          have l4 := lk0 ls 4 (.int 0)
          generalize lset1 ls 4 (.int 0) = ls at l4 l6 l5 l3 l1 l2 l0 ⊢
          exact K86 a _ fa fb ls l5 l4 l3 l1 l2 l0
        · have c76 : ¬ (¬ lg_cmp (dV T V x y k) (V k) = 0) := c76
          rw [cmp0] at c76
          have fb := FP_1 (P := (fun i => dV T V x y i = V i)) fb c63 (Classical.not_not.mp c76)
          refine r_iconst (v := 1) (q146 (i := 47) rfl) (by decide) ?_
          refine r_goto 84 (q146 (i := 48) rfl) (by decide) ?_
          refine r_istore (ls' := lset1 ls 4 (.int 1)) (q146 (i := 50) rfl) (Nat.le_of_ble_eq_true rfl) rfl ?_
          have l6 := lk1 (k := 4) (v := .int 1) l6 (by decide) (Or.inr (by decide))
          have l5 := lk1 (k := 4) (v := .int 1) l5 (by decide) (Or.inr (by decide))
          have l3 := lk1 (k := 4) (v := .int 1) l3 (by decide) (Or.inl rfl)
          have l1 := lk1 (k := 4) (v := .int 1) l1 (by decide) (Or.inr (by decide))
          have l2 := lk1 (k := 4) (v := .int 1) l2 (by decide) (Or.inr (by decide))
          have l0 := lk1 (k := 4) (v := .int 1) l0 (by decide) (Or.inr (by decide))
          have l4 := lk0 ls 4 (.int 1)
          generalize lset1 ls 4 (.int 1) = ls at l4 l6 l5 l3 l1 l2 l0 ⊢
          exact K86 a _ fa fb ls l5 l4 l3 l1 l2 l0
    refine r_iload (q146 (i := 6) rfl) l5 ?_
    refine r_bipush (v := 64) (q146 (i := 7) rfl) (by decide) ?_
    refine r_icmp 92 (q146 (i := 8) rfl) (by decide) (fun zz => absurd zz (show ¬ (64 ≤ nI k) from nI_ge (b := 64) (by omega) (by decide))) (fun _ => ?_)
    refine r_aload_n (q146 (i := 9) rfl) l0 ?_
    refine r_getR (b := 70) (q146 (i := 10) rfl) rfl (by decide) (k_47 S) (fun _ _ _ => rfl) (r_47_14 S) ?_
    refine r_iload_n (q146 (i := 11) rfl) l1 ?_
    refine r_aa6N (q146 (i := 12) rfl) (k_70 S) (by omega) (by decide) (rT S (by omega)) ?_
    refine r_iload (q146 (i := 13) rfl) l5 ?_
    refine r_laN (x := T x k) (q146 (i := 14) rfl) (kT S (x := x) (by omega)) (by omega) (by decide) (hT x hx k (by omega)) ?_
    refine r_aload_n (q146 (i := 15) rfl) l0 ?_
    refine r_getR (b := 70) (q146 (i := 16) rfl) rfl (by decide) (k_47 S) (fun _ _ _ => rfl) (r_47_14 S) ?_
    refine r_iload_n (q146 (i := 17) rfl) l2 ?_
    refine r_aa6N (q146 (i := 18) rfl) (k_70 S) (by omega) (by decide) (rT S (by omega)) ?_
    refine r_iload (q146 (i := 19) rfl) l5 ?_
    refine r_laN (x := T y k) (q146 (i := 20) rfl) (kT S (x := y) (by omega)) (by omega) (by decide) (hT y hy k (by omega)) ?_
    refine r_lxor (q146 (i := 21) rfl) ?_
    refine r_aload_n (q146 (i := 22) rfl) l0 ?_
    refine r_getR (b := 1071) (q146 (i := 23) rfl) rfl (by decide) (k_47 S) (fun _ _ _ => rfl) (r_47_15 S) ?_
    refine r_iload (q146 (i := 24) rfl) l5 ?_
    refine r_laN (x := V k) (q146 (i := 25) rfl) (k_1071 S) (by omega) (by decide) (by rw [hV]) ?_
    refine r_land (q146 (i := 26) rfl) ?_
    rw [show (((T x k) ^^^ (T y k)) &&& (V k) : Int64) = dV T V x y k from rfl]
    refine r_lstore (ls' := lset2 ls 6 (.long (dV T V x y k))) (q146 (i := 27) rfl) (Nat.le_of_ble_eq_true rfl) rfl ?_
    have l5 := lk2 (k := 6) (v := .long (dV T V x y k)) l5 (by decide) (by decide) (Or.inl rfl)
    have l4 := lk2 (k := 6) (v := .long (dV T V x y k)) l4 (by decide) (by decide) (Or.inr (by decide))
    have l3 := lk2 (k := 6) (v := .long (dV T V x y k)) l3 (by decide) (by decide) (Or.inr (by decide))
    have l1 := lk2 (k := 6) (v := .long (dV T V x y k)) l1 (by decide) (by decide) (Or.inr (by decide))
    have l2 := lk2 (k := 6) (v := .long (dV T V x y k)) l2 (by decide) (by decide) (Or.inr (by decide))
    have l0 := lk2 (k := 6) (v := .long (dV T V x y k)) l0 (by decide) (by decide) (Or.inr (by decide))
    have l6 := lk00 ls 6 (.long (dV T V x y k))
    generalize lset2 ls 6 (.long (dV T V x y k)) = ls at l6 l5 l4 l3 l1 l2 l0 ⊢
    refine r_iload_n (q146 (i := 28) rfl) l3 ?_
    refine r_if 59 (q146 (i := 29) rfl) (by decide) (fun c45 => ?_) (fun c45 => ?_)
    · have c45 : a = 0 := c45
      have fa := FP_0 fa c45
      refine r_iconst (v := 0) (q146 (i := 36) rfl) (by decide) ?_
      refine r_istore_n (ls' := lset1 ls 3 (.int 0)) (q146 (i := 37) rfl) (Nat.le_of_ble_eq_true rfl) rfl ?_
      have l6 := lk1 (k := 3) (v := .int 0) l6 (by decide) (Or.inr (by decide))
      have l5 := lk1 (k := 3) (v := .int 0) l5 (by decide) (Or.inr (by decide))
      have l4 := lk1 (k := 3) (v := .int 0) l4 (by decide) (Or.inr (by decide))
      have l1 := lk1 (k := 3) (v := .int 0) l1 (by decide) (Or.inr (by decide))
      have l2 := lk1 (k := 3) (v := .int 0) l2 (by decide) (Or.inl rfl)
      have l0 := lk1 (k := 3) (v := .int 0) l0 (by decide) (Or.inr (by decide))
      have l3 := lk0 ls 3 (.int 0)
      generalize lset1 ls 3 (.int 0) = ls at l3 l6 l5 l4 l1 l2 l0 ⊢
      exact K61 _ fa ls l6 l5 l4 l3 l1 l2 l0
    · have c45 : ¬ (a = 0) := c45
      refine r_lload (q146 (i := 30) rfl) l6 ?_
      refine r_lconst (v := 0) (q146 (i := 31) rfl) (by decide) ?_
      refine r_lcmp (q146 (i := 32) rfl) ?_
      refine r_if 59 (q146 (i := 33) rfl) (by decide) (fun c52 => ?_) (fun c52 => ?_)
      · have c52 : ¬ lg_cmp (dV T V x y k) 0 = 0 := c52
        rw [cmp0] at c52
        have fa := FP_n (P := (fun i => dV T V x y i = 0)) c52
        refine r_iconst (v := 0) (q146 (i := 36) rfl) (by decide) ?_
        refine r_istore_n (ls' := lset1 ls 3 (.int 0)) (q146 (i := 37) rfl) (Nat.le_of_ble_eq_true rfl) rfl ?_
        have l6 := lk1 (k := 3) (v := .int 0) l6 (by decide) (Or.inr (by decide))
        have l5 := lk1 (k := 3) (v := .int 0) l5 (by decide) (Or.inr (by decide))
        have l4 := lk1 (k := 3) (v := .int 0) l4 (by decide) (Or.inr (by decide))
        have l1 := lk1 (k := 3) (v := .int 0) l1 (by decide) (Or.inr (by decide))
        have l2 := lk1 (k := 3) (v := .int 0) l2 (by decide) (Or.inl rfl)
        have l0 := lk1 (k := 3) (v := .int 0) l0 (by decide) (Or.inr (by decide))
        have l3 := lk0 ls 3 (.int 0)
        generalize lset1 ls 3 (.int 0) = ls at l3 l6 l5 l4 l1 l2 l0 ⊢
        exact K61 _ fa ls l6 l5 l4 l3 l1 l2 l0
      · have c52 : ¬ (¬ lg_cmp (dV T V x y k) 0 = 0) := c52
        rw [cmp0] at c52
        have fa := FP_1 (P := (fun i => dV T V x y i = 0)) fa c45 (Classical.not_not.mp c52)
        refine r_iconst (v := 1) (q146 (i := 34) rfl) (by decide) ?_
        refine r_goto 60 (q146 (i := 35) rfl) (by decide) ?_
        refine r_istore_n (ls' := lset1 ls 3 (.int 1)) (q146 (i := 37) rfl) (Nat.le_of_ble_eq_true rfl) rfl ?_
        have l6 := lk1 (k := 3) (v := .int 1) l6 (by decide) (Or.inr (by decide))
        have l5 := lk1 (k := 3) (v := .int 1) l5 (by decide) (Or.inr (by decide))
        have l4 := lk1 (k := 3) (v := .int 1) l4 (by decide) (Or.inr (by decide))
        have l1 := lk1 (k := 3) (v := .int 1) l1 (by decide) (Or.inr (by decide))
        have l2 := lk1 (k := 3) (v := .int 1) l2 (by decide) (Or.inl rfl)
        have l0 := lk1 (k := 3) (v := .int 1) l0 (by decide) (Or.inr (by decide))
        have l3 := lk0 ls 3 (.int 1)
        generalize lset1 ls 3 (.int 1) = ls at l3 l6 l5 l4 l1 l2 l0 ⊢
        exact K61 _ fa ls l6 l5 l4 l3 l1 l2 l0
set_option maxHeartbeats 2000000 in
set_option maxRecDepth 10000 in
theorem sp_like {d : Nat} {h : hp} (S : Sh h) {C : Nat} {T : Nat → Nat → Int64} (hT : MT h C T) (hC : C ≤ 1000) {V : Nat → Int64} (hV : hJ h 1071 = V) {x y : Nat} (hx : x < C) (hy : y < C) : Run (d + 1) 146 [.ref 47, .int (nI x), .int (nI y)] h 0 0 (some (.int (lik T V x y))) h := by
  refine Run.of (Nat.le_of_ble_eq_true rfl) (fun Q hQ => ?_)
  show Wp (Ex d) 146 Q 0 [(0, .ref 47), (1, .int (nI x)), (2, .int (nI y))] [] h 0 0
  refine r_iconst (v := 1) (q146 (i := 0) rfl) (by decide) ?_
  refine r_istore_n (ls' := [(3, .int 1), (0, .ref 47), (1, .int (nI x)), (2, .int (nI y))]) (q146 (i := 1) rfl) (Nat.le_of_ble_eq_true rfl) rfl ?_
  refine r_iconst (v := 1) (q146 (i := 2) rfl) (by decide) ?_
  refine r_istore (ls' := [(4, .int 1), (3, .int 1), (0, .ref 47), (1, .int (nI x)), (2, .int (nI y))]) (q146 (i := 3) rfl) (Nat.le_of_ble_eq_true rfl) rfl ?_
  refine r_iconst (v := nI 0) (q146 (i := 4) rfl) (by decide) ?_
  refine r_istore (ls' := [(5, .int (nI 0)), (4, .int 1), (3, .int 1), (0, .ref 47), (1, .int (nI x)), (2, .int (nI y))]) (q146 (i := 5) rfl) (Nat.le_of_ble_eq_true rfl) rfl ?_
  exact lp_mlik S hT hC hV hx hy hQ 64 0 rfl 1 1 (Or.inl ⟨rfl, fun i hi => absurd hi (Nat.not_lt_zero i)⟩) (Or.inl ⟨rfl, fun i hi => absurd hi (Nat.not_lt_zero i)⟩) _ rfl rfl rfl rfl rfl rfl
set_option maxHeartbeats 2000000 in
set_option maxRecDepth 10000 in
theorem lp_mll {d : Nat} {h : hp} (S : Sh h) {C : Nat} {T : Nat → Nat → Int64} (hT : MT h C T) (hC : C ≤ 1000) {V : Nat → Int64} (hV : hJ h 1071 = V) {x : Nat} (hx : x < C) {Q : resP} {bc bs : Nat} (hQ : Q (some (.int (nI (ll T V x)))) h) : ∀ (m y : Nat), y + m = ll T V x → ∀ ls : List (Nat × Value), ls.lookup 2 = some (.int (nI y)) → ls.lookup 1 = some (.int (nI x)) → ls.lookup 0 = some (.ref 47) → Wp (Ex (d + 1)) 147 Q 2 ls [] h bc bs := by
  have hle := ll_le T V x
  intro m
  induction m with
  | zero =>
    intro y hm ls l2 l1 l0
    have e : y = ll T V x := by omega
    subst e
    have R1 := sp_like (d := d) S hT hC hV hx (y := ll T V x) (by omega)
    have nz1 := ll_lik T V x
    rw [lik_comm] at nz1
    refine r_aload_n (q147 (i := 2) rfl) l0 ?_
    refine r_iload_n (q147 (i := 3) rfl) l1 ?_
    refine r_iload_n (q147 (i := 4) rfl) l2 ?_
    refine r_cV (d := _) (q147 (i := 5) rfl) rfl rfl rfl (k_47 S) (Nat.le_of_ble_eq_true rfl) (Nat.zero_le _) (Nat.zero_le _) R1 ?_
    show Wp _ _ _ 8 ls [.int (lik T V x (ll T V x))] h _ _
    refine r_if 17 (q147 (i := 6) rfl) (by decide) (fun _ => ?_) (fun zz => absurd (show ¬ lik T V x (ll T V x) = 0 from nz1) zz)
    refine r_iload_n (q147 (i := 9) rfl) l2 ?_
    exact r_iret (q147 (i := 10) rfl) rfl hQ
  | succ m ih =>
    intro y hm ls l2 l1 l0
    have R1 := sp_like (d := d) S hT hC hV hx (y := y) (by omega)
    have z1 := ll_min (T := T) (V := V) (x := x) (y := y) (by omega)
    rw [lik_comm] at z1
    rw [z1] at R1
    refine r_aload_n (q147 (i := 2) rfl) l0 ?_
    refine r_iload_n (q147 (i := 3) rfl) l1 ?_
    refine r_iload_n (q147 (i := 4) rfl) l2 ?_
    refine r_cV (d := _) (q147 (i := 5) rfl) rfl rfl rfl (k_47 S) (Nat.le_of_ble_eq_true rfl) (Nat.zero_le _) (Nat.zero_le _) R1 ?_
    show Wp _ _ _ 8 ls [.int 0] h _ _
    refine r_if 17 (q147 (i := 6) rfl) (by decide) (fun zz => absurd zz (show ¬ (¬ (0 : Int32) = 0) from by decide)) (fun _ => ?_)
    refine r_iinc (y := nI (y + 1)) (q147 (i := 7) rfl) (Nat.le_of_ble_eq_true rfl) l2 (nI_1 y) rfl ?_
    have l1 := lk1 (k := 2) (v := .int (nI (y + 1))) l1 (by decide) (Or.inl rfl)
    have l0 := lk1 (k := 2) (v := .int (nI (y + 1))) l0 (by decide) (Or.inr (by decide))
    have l2 := lk0 ls 2 (.int (nI (y + 1)))
    generalize lset1 ls 2 (.int (nI (y + 1))) = ls at l2 l1 l0 ⊢
    refine r_goto 2 (q147 (i := 8) rfl) (by decide) ?_
    exact ih (y + 1) (by omega) ls l2 l1 l0
set_option maxHeartbeats 2000000 in
set_option maxRecDepth 10000 in
theorem sp_mll {d : Nat} {h : hp} (S : Sh h) {C : Nat} {T : Nat → Nat → Int64} (hT : MT h C T) (hC : C ≤ 1000) {V : Nat → Int64} (hV : hJ h 1071 = V) {x : Nat} (hx : x < C) : Run (d + 1 + 1) 147 [.ref 47, .int (nI x)] h 0 0 (some (.int (nI (ll T V x)))) h := by
  refine Run.of (Nat.le_of_ble_eq_true rfl) (fun Q hQ => ?_)
  show Wp (Ex (d + 1)) 147 Q 0 [(0, .ref 47), (1, .int (nI x))] [] h 0 0
  refine r_iconst (v := nI 0) (q147 (i := 0) rfl) (by decide) ?_
  refine r_istore_n (ls' := [(2, .int (nI 0)), (0, .ref 47), (1, .int (nI x))]) (q147 (i := 1) rfl) (Nat.le_of_ble_eq_true rfl) rfl ?_
  exact lp_mll S hT hC hV hx hQ (ll T V x) 0 (Nat.zero_add _) _ rfl rfl rfl
set_option maxHeartbeats 2000000 in
set_option maxRecDepth 10000 in
theorem lp_mgrp {d : Nat} {h : hp} (S : Sh h) {C : Nat} (h11 : hI h 47 11 = nI C) {T : Nat → Nat → Int64} (hT : MT h C T) (hC : C ≤ 1000) {V : Nat → Int64} (hV : hJ h 1071 = V) {Q : resP} {bc bs : Nat} (hQ : Q (some (.int (nI (cntB (lead T V) C)))) h) : ∀ (m k : Nat), k + m = C → ∀ ls : List (Nat × Value), ls.lookup 3 = some (.int (nI k)) → ls.lookup 2 = some (.int (nI (cntB (lead T V) k))) → ls.lookup 0 = some (.ref 47) → Wp (Ex (d + 2)) 148 Q 93 ls [] h bc bs := by
  intro m
  induction m with
  | zero =>
    intro k hm ls l3 l2 l0
    have e : k = C := by omega
    subst e
    refine r_iload_n (q148 (i := 31) rfl) l3 ?_
    refine r_aload_n (q148 (i := 32) rfl) l0 ?_
    refine r_getI (x := nI k) (q148 (i := 33) rfl) rfl (by decide) (k_47 S) (fun _ _ _ => rfl) h11 ?_
    refine r_icmp 124 (q148 (i := 34) rfl) (by decide) (fun _ => ?_) (fun zz => absurd (show nI k ≤ nI k from Int32.le_refl _) zz)
    refine r_iload_n (q148 (i := 48) rfl) l2 ?_
    exact r_iret (q148 (i := 49) rfl) rfl hQ
  | succ m ih =>
    intro k hm ls l3 l2 l0
    have R1 := sp_mll (d := d) S hT hC hV (x := k) (by omega)
    have hle := ll_le T V k
    have eN : cntB (lead T V) (k + 1) = cntB (lead T V) k + (if lead T V k then 1 else 0) := rfl
    refine r_iload_n (q148 (i := 31) rfl) l3 ?_
    refine r_aload_n (q148 (i := 32) rfl) l0 ?_
    refine r_getI (x := nI C) (q148 (i := 33) rfl) rfl (by decide) (k_47 S) (fun _ _ _ => rfl) h11 ?_
    refine r_icmp 124 (q148 (i := 34) rfl) (by decide) (fun zz => absurd zz (show ¬ (nI C ≤ nI k) from nI_ge (by omega) (by omega))) (fun _ => ?_)
    refine r_iload_n (q148 (i := 35) rfl) l2 ?_
    refine r_aload_n (q148 (i := 36) rfl) l0 ?_
    refine r_iload_n (q148 (i := 37) rfl) l3 ?_
    refine r_cV (d := _) (q148 (i := 38) rfl) rfl rfl rfl (k_47 S) (Nat.le_of_ble_eq_true rfl) (Nat.zero_le _) (Nat.zero_le _) R1 ?_
    show Wp _ _ _ 107 ls [.int (nI (ll T V k)), .int (nI (cntB (lead T V) k))] h _ _
    refine r_iload_n (q148 (i := 39) rfl) l3 ?_
    refine r_icmp 115 (q148 (i := 40) rfl) (by decide) (fun c108 => ?_) (fun c108 => ?_)
    · have c108 : ¬ nI (ll T V k) = nI k := c108
      have e1 : lead T V k = false := decide_eq_false (fun y => c108 (by rw [y]))
      rw [e1] at eN
      have eN : cntB (lead T V) (k + 1) = cntB (lead T V) k := eN
      refine r_iconst (v := 0) (q148 (i := 43) rfl) (by decide) ?_
      refine r_iadd (q148 (i := 44) rfl) ?_
      rw [show ((nI (cntB (lead T V) k)) + 0 : Int32) = nI (cntB (lead T V) (k + 1)) from by rw [eN]; first | exact nI_1 _ | exact nI_add _ 0]
      refine r_istore_n (ls' := lset1 ls 2 (.int (nI (cntB (lead T V) (k + 1))))) (q148 (i := 45) rfl) (Nat.le_of_ble_eq_true rfl) rfl ?_
      have l3 := lk1 (k := 2) (v := .int (nI (cntB (lead T V) (k + 1)))) l3 (by decide) (Or.inr (by decide))
      have l0 := lk1 (k := 2) (v := .int (nI (cntB (lead T V) (k + 1)))) l0 (by decide) (Or.inr (by decide))
      have l2 := lk0 ls 2 (.int (nI (cntB (lead T V) (k + 1))))
      generalize lset1 ls 2 (.int (nI (cntB (lead T V) (k + 1)))) = ls at l2 l3 l0 ⊢
      refine r_iinc (y := nI (k + 1)) (q148 (i := 46) rfl) (Nat.le_of_ble_eq_true rfl) l3 (nI_1 k) rfl ?_
      have l2 := lk1 (k := 3) (v := .int (nI (k + 1))) l2 (by decide) (Or.inl rfl)
      have l0 := lk1 (k := 3) (v := .int (nI (k + 1))) l0 (by decide) (Or.inr (by decide))
      have l3 := lk0 ls 3 (.int (nI (k + 1)))
      generalize lset1 ls 3 (.int (nI (k + 1))) = ls at l3 l2 l0 ⊢
      refine r_goto 93 (q148 (i := 47) rfl) (by decide) ?_
      exact ih (k + 1) (by omega) ls l3 l2 l0
    · have c108 : ¬ (¬ nI (ll T V k) = nI k) := c108
      have e1 : lead T V k = true := decide_eq_true ((nI_eq (by omega) (by omega)).mp (Classical.not_not.mp c108))
      rw [e1] at eN
      have eN : cntB (lead T V) (k + 1) = cntB (lead T V) k + 1 := eN
      refine r_iconst (v := 1) (q148 (i := 41) rfl) (by decide) ?_
      refine r_goto 116 (q148 (i := 42) rfl) (by decide) ?_
      refine r_iadd (q148 (i := 44) rfl) ?_
      rw [show ((nI (cntB (lead T V) k)) + 1 : Int32) = nI (cntB (lead T V) (k + 1)) from by rw [eN]; first | exact nI_1 _ | exact nI_add _ 0]
      refine r_istore_n (ls' := lset1 ls 2 (.int (nI (cntB (lead T V) (k + 1))))) (q148 (i := 45) rfl) (Nat.le_of_ble_eq_true rfl) rfl ?_
      have l3 := lk1 (k := 2) (v := .int (nI (cntB (lead T V) (k + 1)))) l3 (by decide) (Or.inr (by decide))
      have l0 := lk1 (k := 2) (v := .int (nI (cntB (lead T V) (k + 1)))) l0 (by decide) (Or.inr (by decide))
      have l2 := lk0 ls 2 (.int (nI (cntB (lead T V) (k + 1))))
      generalize lset1 ls 2 (.int (nI (cntB (lead T V) (k + 1)))) = ls at l2 l3 l0 ⊢
      refine r_iinc (y := nI (k + 1)) (q148 (i := 46) rfl) (Nat.le_of_ble_eq_true rfl) l3 (nI_1 k) rfl ?_
      have l2 := lk1 (k := 3) (v := .int (nI (k + 1))) l2 (by decide) (Or.inl rfl)
      have l0 := lk1 (k := 3) (v := .int (nI (k + 1))) l0 (by decide) (Or.inr (by decide))
      have l3 := lk0 ls 3 (.int (nI (k + 1)))
      generalize lset1 ls 3 (.int (nI (k + 1))) = ls at l3 l2 l0 ⊢
      refine r_goto 93 (q148 (i := 47) rfl) (by decide) ?_
      exact ih (k + 1) (by omega) ls l3 l2 l0
set_option maxHeartbeats 2000000 in
set_option maxRecDepth 10000 in
theorem ms_count {h : hp} {σ : st8} (M : MI h σ) (Z : zok σ) (x : Int32) : MStep 148 [.ref 47, .int x] h (aCnt σ x) σ := by
  have S := M.1.1
  have hC := zC Z
  obtain ⟨h1, Rg, M1, g1, F1⟩ := sp_graph (d := 3) M Z
  have S1 := M1.1.1
  refine ⟨h1, ?_, M1, F1⟩
  refine Run.of (d := 7) (Nat.le_of_ble_eq_true rfl) (fun Q hQ => ?_)
  show Wp (Ex 7) 148 Q 0 [(0, .ref 47), (1, .int x)] [] h 0 0
  unfold aCnt at hQ
  by_cases x0 : x = 0
  · rw [if_pos x0] at hQ
    subst x0
    refine r_aload_n (q148 (i := 0) rfl) rfl ?_
    refine r_cV (d := _) (q148 (i := 1) rfl) rfl rfl rfl (k_47 S) (Nat.le_of_ble_eq_true rfl) (Nat.zero_le _) (Nat.zero_le _) Rg ?_
    show Wp _ _ _ 4 [(0, .ref 47), (1, .int 0)] [] h1 _ _
    refine r_iload_n (q148 (i := 2) rfl) rfl ?_
    refine r_swIn (off := 51) 56 (q148 (i := 3) rfl) (by decide) (by decide) (by decide) (by decide) ?_
    refine r_aload_n (q148 (i := 4) rfl) rfl ?_
    refine r_getI (x := nI (gC (zG σ))) (q148 (i := 5) rfl) rfl (by decide) (k_47 S1) (fun _ _ _ => rfl) g1.2.1.1 ?_
    exact r_iret (q148 (i := 6) rfl) rfl hQ
  rw [if_neg x0] at hQ
  by_cases x1 : x = 1
  · rw [if_pos x1] at hQ
    subst x1
    refine r_aload_n (q148 (i := 0) rfl) rfl ?_
    refine r_cV (d := _) (q148 (i := 1) rfl) rfl rfl rfl (k_47 S) (Nat.le_of_ble_eq_true rfl) (Nat.zero_le _) (Nat.zero_le _) Rg ?_
    show Wp _ _ _ 4 [(0, .ref 47), (1, .int 1)] [] h1 _ _
    refine r_iload_n (q148 (i := 2) rfl) rfl ?_
    refine r_swIn (off := 56) 61 (q148 (i := 3) rfl) (by decide) (by decide) (by decide) (by decide) ?_
    refine r_aload_n (q148 (i := 7) rfl) rfl ?_
    refine r_getI (x := nI (zn σ)) (q148 (i := 8) rfl) rfl (by decide) (k_47 S1) (fun _ _ _ => rfl) M1.1.2 ?_
    exact r_iret (q148 (i := 9) rfl) rfl hQ
  rw [if_neg x1] at hQ
  by_cases x2 : x = 2
  · rw [if_pos x2] at hQ
    subst x2
    refine r_aload_n (q148 (i := 0) rfl) rfl ?_
    refine r_cV (d := _) (q148 (i := 1) rfl) rfl rfl rfl (k_47 S) (Nat.le_of_ble_eq_true rfl) (Nat.zero_le _) (Nat.zero_le _) Rg ?_
    show Wp _ _ _ 4 [(0, .ref 47), (1, .int 2)] [] h1 _ _
    refine r_iload_n (q148 (i := 2) rfl) rfl ?_
    refine r_swIn (off := 61) 66 (q148 (i := 3) rfl) (by decide) (by decide) (by decide) (by decide) ?_
    refine r_aload_n (q148 (i := 10) rfl) rfl ?_
    refine r_getR (b := 48) (q148 (i := 11) rfl) rfl (by decide) (k_47 S1) (fun _ _ _ => rfl) (r_47_2 S1) ?_
    refine r_iload_n (q148 (i := 12) rfl) rfl ?_
    refine r_iconst (v := 2) (q148 (i := 13) rfl) (by decide) ?_
    refine r_isub (q148 (i := 14) rfl) ?_
    rw [show (2 - 2 : Int32) = 0 from by decide]
    refine r_iaload (x := nI (za σ).2.1) (q148 (i := 15) rfl) (k_48 S1) (vp_in_nI (n := 0) (by decide) (by decide)) M1.2.1.2.1 ?_
    exact r_iret (q148 (i := 16) rfl) rfl hQ
  rw [if_neg x2] at hQ
  by_cases x3 : x = 3
  · rw [if_pos x3] at hQ
    subst x3
    refine r_aload_n (q148 (i := 0) rfl) rfl ?_
    refine r_cV (d := _) (q148 (i := 1) rfl) rfl rfl rfl (k_47 S) (Nat.le_of_ble_eq_true rfl) (Nat.zero_le _) (Nat.zero_le _) Rg ?_
    show Wp _ _ _ 4 [(0, .ref 47), (1, .int 3)] [] h1 _ _
    refine r_iload_n (q148 (i := 2) rfl) rfl ?_
    refine r_swIn (off := 61) 66 (q148 (i := 3) rfl) (by decide) (by decide) (by decide) (by decide) ?_
    refine r_aload_n (q148 (i := 10) rfl) rfl ?_
    refine r_getR (b := 48) (q148 (i := 11) rfl) rfl (by decide) (k_47 S1) (fun _ _ _ => rfl) (r_47_2 S1) ?_
    refine r_iload_n (q148 (i := 12) rfl) rfl ?_
    refine r_iconst (v := 2) (q148 (i := 13) rfl) (by decide) ?_
    refine r_isub (q148 (i := 14) rfl) ?_
    rw [show (3 - 2 : Int32) = 1 from by decide]
    refine r_iaload (x := nI (zb σ).2.1) (q148 (i := 15) rfl) (k_48 S1) (vp_in_nI (n := 1) (by decide) (by decide)) M1.2.2.1.2.1 ?_
    exact r_iret (q148 (i := 16) rfl) rfl hQ
  rw [if_neg x3] at hQ
  by_cases x4 : x = 4
  · rw [if_pos x4] at hQ
    subst x4
    refine r_aload_n (q148 (i := 0) rfl) rfl ?_
    refine r_cV (d := _) (q148 (i := 1) rfl) rfl rfl rfl (k_47 S) (Nat.le_of_ble_eq_true rfl) (Nat.zero_le _) (Nat.zero_le _) Rg ?_
    show Wp _ _ _ 4 [(0, .ref 47), (1, .int 4)] [] h1 _ _
    refine r_iload_n (q148 (i := 2) rfl) rfl ?_
    refine r_swIn (off := 70) 75 (q148 (i := 3) rfl) (by decide) (by decide) (by decide) (by decide) ?_
    refine r_aload_n (q148 (i := 17) rfl) rfl ?_
    refine r_getR (b := 49) (q148 (i := 18) rfl) rfl (by decide) (k_47 S1) (fun _ _ _ => rfl) (r_47_3 S1) ?_
    refine r_iload_n (q148 (i := 19) rfl) rfl ?_
    refine r_iconst (v := 4) (q148 (i := 20) rfl) (by decide) ?_
    refine r_isub (q148 (i := 21) rfl) ?_
    rw [show (4 - 4 : Int32) = 0 from by decide]
    refine r_iaload (x := nI (za σ).2.2.2) (q148 (i := 22) rfl) (k_49 S1) (vp_in_nI (n := 0) (by decide) (by decide)) M1.2.1.2.2.2 ?_
    exact r_iret (q148 (i := 23) rfl) rfl hQ
  rw [if_neg x4] at hQ
  by_cases x5 : x = 5
  · rw [if_pos x5] at hQ
    subst x5
    refine r_aload_n (q148 (i := 0) rfl) rfl ?_
    refine r_cV (d := _) (q148 (i := 1) rfl) rfl rfl rfl (k_47 S) (Nat.le_of_ble_eq_true rfl) (Nat.zero_le _) (Nat.zero_le _) Rg ?_
    show Wp _ _ _ 4 [(0, .ref 47), (1, .int 5)] [] h1 _ _
    refine r_iload_n (q148 (i := 2) rfl) rfl ?_
    refine r_swIn (off := 70) 75 (q148 (i := 3) rfl) (by decide) (by decide) (by decide) (by decide) ?_
    refine r_aload_n (q148 (i := 17) rfl) rfl ?_
    refine r_getR (b := 49) (q148 (i := 18) rfl) rfl (by decide) (k_47 S1) (fun _ _ _ => rfl) (r_47_3 S1) ?_
    refine r_iload_n (q148 (i := 19) rfl) rfl ?_
    refine r_iconst (v := 4) (q148 (i := 20) rfl) (by decide) ?_
    refine r_isub (q148 (i := 21) rfl) ?_
    rw [show (5 - 4 : Int32) = 1 from by decide]
    refine r_iaload (x := nI (zb σ).2.2.2) (q148 (i := 22) rfl) (k_49 S1) (vp_in_nI (n := 1) (by decide) (by decide)) M1.2.2.1.2.2.2 ?_
    exact r_iret (q148 (i := 23) rfl) rfl hQ
  rw [if_neg x5] at hQ
  by_cases x6 : x = 6
  · rw [if_pos x6] at hQ
    subst x6
    refine r_aload_n (q148 (i := 0) rfl) rfl ?_
    refine r_cV (d := _) (q148 (i := 1) rfl) rfl rfl rfl (k_47 S) (Nat.le_of_ble_eq_true rfl) (Nat.zero_le _) (Nat.zero_le _) Rg ?_
    show Wp _ _ _ 4 [(0, .ref 47), (1, .int 6)] [] h1 _ _
    refine r_iload_n (q148 (i := 2) rfl) rfl ?_
    refine r_swIn (off := 79) 84 (q148 (i := 3) rfl) (by decide) (by decide) (by decide) (by decide) ?_
    refine r_aload_n (q148 (i := 24) rfl) rfl ?_
    refine r_getI (x := nI (zv σ).2.2) (q148 (i := 25) rfl) rfl (by decide) (k_47 S1) (fun _ _ _ => rfl) M1.2.2.2.1.2.2 ?_
    exact r_iret (q148 (i := 26) rfl) rfl hQ
  rw [if_neg x6] at hQ
  by_cases x7 : x = 7
  · rw [if_pos x7] at hQ
    subst x7
    refine r_aload_n (q148 (i := 0) rfl) rfl ?_
    refine r_cV (d := _) (q148 (i := 1) rfl) rfl rfl rfl (k_47 S) (Nat.le_of_ble_eq_true rfl) (Nat.zero_le _) (Nat.zero_le _) Rg ?_
    show Wp _ _ _ 4 [(0, .ref 47), (1, .int 7)] [] h1 _ _
    refine r_iload_n (q148 (i := 2) rfl) rfl ?_
    refine r_swIn (off := 84) 89 (q148 (i := 3) rfl) (by decide) (by decide) (by decide) (by decide) ?_
    refine r_iconst (v := nI 0) (q148 (i := 27) rfl) (by decide) ?_
    refine r_istore_n (ls' := [(2, .int (nI 0)), (0, .ref 47), (1, .int 7)]) (q148 (i := 28) rfl) (Nat.le_of_ble_eq_true rfl) rfl ?_
    refine r_iconst (v := nI 0) (q148 (i := 29) rfl) (by decide) ?_
    refine r_istore_n (ls' := [(3, .int (nI 0)), (2, .int (nI 0)), (0, .ref 47), (1, .int 7)]) (q148 (i := 30) rfl) (Nat.le_of_ble_eq_true rfl) rfl ?_
    exact lp_mgrp (d := 5) S1 g1.2.1.1 g1.2.1.2.2.2 (by omega) M1.2.2.2.1.1 hQ _ 0 (Nat.zero_add _) _ rfl rfl rfl
  rw [if_neg x7] at hQ
  by_cases x8 : x = 8
  · rw [if_pos x8] at hQ
    subst x8
    refine r_aload_n (q148 (i := 0) rfl) rfl ?_
    refine r_cV (d := _) (q148 (i := 1) rfl) rfl rfl rfl (k_47 S) (Nat.le_of_ble_eq_true rfl) (Nat.zero_le _) (Nat.zero_le _) Rg ?_
    show Wp _ _ _ 4 [(0, .ref 47), (1, .int 8)] [] h1 _ _
    refine r_iload_n (q148 (i := 2) rfl) rfl ?_
    refine r_swIn (off := 121) 126 (q148 (i := 3) rfl) (by decide) (by decide) (by decide) (by decide) ?_
    refine r_aload_n (q148 (i := 50) rfl) rfl ?_
    refine r_getI (x := nI (zt σ).2) (q148 (i := 51) rfl) rfl (by decide) (k_47 S1) (fun _ _ _ => rfl) M1.2.2.2.2.1.2.1 ?_
    exact r_iret (q148 (i := 52) rfl) rfl hQ
  rw [if_neg x8] at hQ
  have ho := toInt_out (x := x) (m := 8) (by decide) (fun k hk e => by
    rcases (show k = 0 ∨ k = 1 ∨ k = 2 ∨ k = 3 ∨ k = 4 ∨ k = 5 ∨ k = 6 ∨ k = 7 ∨ k = 8 by omega) with y | y | y | y | y | y | y | y | y <;> rw [y] at e <;> first | exact x0 e | exact x1 e | exact x2 e | exact x3 e | exact x4 e | exact x5 e | exact x6 e | exact x7 e | exact x8 e)
  refine r_aload_n (q148 (i := 0) rfl) rfl ?_
  refine r_cV (d := _) (q148 (i := 1) rfl) rfl rfl rfl (k_47 S) (Nat.le_of_ble_eq_true rfl) (Nat.zero_le _) (Nat.zero_le _) Rg ?_
  show Wp _ _ _ 4 [(0, .ref 47), (1, .int x)] [] h1 _ _
  refine r_iload_n (q148 (i := 2) rfl) rfl ?_
  refine r_swOut 131 (q148 (i := 3) rfl) (ho) (by decide) ?_
  refine r_iconst (v := (-1)) (q148 (i := 53) rfl) (by decide) ?_
  exact r_iret (q148 (i := 54) rfl) rfl hQ
