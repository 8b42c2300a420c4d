/-! ===== the reference's becomes ===== -/
def anyB (f : Nat → Bool) : Nat → Bool
  | 0 => false
  | m + 1 => anyB f m || f m
theorem anyB_t {f : Nat → Bool} {i : Nat} : ∀ {m : Nat}, i < m → f i = true → anyB f m = true
  | 0, h, _ => absurd h (Nat.not_lt_zero i)
  | m + 1, h, e => by
    show (anyB f m || f m) = true
    by_cases y : i = m
    · rw [← y, e, Bool.or_true]
    · rw [anyB_t (m := m) (by omega) e]; rfl
theorem anyB_f {f : Nat → Bool} : ∀ {m : Nat}, (∀ i, i < m → f i = false) → anyB f m = false
  | 0, _ => rfl
  | m + 1, h => by
    show (anyB f m || f m) = false
    rw [anyB_f (m := m) (fun i hi => h i (by omega)), h m (by omega)]; rfl
def flg (t : txt) (i : Nat) : Bool := decide (tU t i < 2)
def flg2 (t : txt) (i : Nat) : Bool := decide (sid t i 0 < 2) || decide (sid t i 1 < 2)
/-- the flag is the text's own -/
theorem flg_is {t : txt} {K : Bool} (h1 : K = false → ∀ i, i < tO t + 2 * tN t → 2 ≤ tU t i) (h2 : K = true → ∃ i, i < tO t + 2 * tN t ∧ tU t i < 2) : (anyB (flg t) (tO t) || anyB (flg2 t) (tN t)) = K := by
  cases K with
  | false =>
    have h1 := h1 rfl
    have a1 : anyB (flg t) (tO t) = false := anyB_f (fun i hi => decide_eq_false (by have := h1 i (by omega); omega))
    have a2 : anyB (flg2 t) (tN t) = false := anyB_f (fun i hi => by
      show (decide (tU t (tO t + 2 * i + 0) < 2) || decide (tU t (tO t + 2 * i + 1) < 2)) = false
      rw [decide_eq_false (by have := h1 (tO t + 2 * i + 0) (by omega); omega), decide_eq_false (by have := h1 (tO t + 2 * i + 1) (by omega); omega)]; rfl)
    rw [a1, a2]; rfl
  | true =>
    obtain ⟨i, a, b⟩ := h2 rfl
    rcases Nat.lt_or_ge i (tO t) with y | y
    · rw [anyB_t (f := flg t) y (decide_eq_true b)]; rfl
    · have hk : (i - tO t) / 2 < tN t := by omega
      have hf : flg2 t ((i - tO t) / 2) = true := by
        show (decide (tU t (tO t + 2 * ((i - tO t) / 2) + 0) < 2) || decide (tU t (tO t + 2 * ((i - tO t) / 2) + 1) < 2)) = true
        rcases (show i = tO t + 2 * ((i - tO t) / 2) + 0 ∨ i = tO t + 2 * ((i - tO t) / 2) + 1 by omega) with w | w
        · rw [← w, decide_eq_true b]; rfl
        · rw [← w, decide_eq_true b, Bool.or_true]
      rw [anyB_t (f := flg2 t) hk hf, Bool.or_true]
def OL (h : hp) (t : txt) : Prop := ∀ i, i < tO t → hI h 1321 i = nI (tU t i) ∧ tU t i ≤ 2001
theorem bI_or (a b : Bool) (x : Int32) (hb : x = bI b) : (if a then (1 : Int32) else x) = bI (a || b) := by cases a <;> rw [hb] <;> rfl
set_option maxHeartbeats 2000000 in
set_option maxRecDepth 10000 in
theorem lp_b1_0 {d : Nat} {t : txt} {h : hp} (X : XTm h t) (ol : OL h t) {Q : resP} {bc bs : Nat} (hk : ∀ ls : List (Nat × Value), ls.lookup 2 = some (.int (bI (anyB (flg t) (tO t)))) → ls.lookup 1 = some (.int 0) → ls.lookup 0 = some (.ref 47) → Wp (Ex d) 129 Q 45 ls [] h bc bs) : ∀ (m i : Nat), i + m = tO t → ∀ ls : List (Nat × Value), ls.lookup 3 = some (.int (nI i)) → ls.lookup 2 = some (.int (bI (anyB (flg t) i))) → ls.lookup 1 = some (.int 0) → ls.lookup 0 = some (.ref 47) → Wp (Ex d) 129 Q 9 ls [] h bc bs := by
  have S := X.1.1
  have hO := X.2.2.2.2.2.1
  intro m
  induction m with
  | zero =>
    intro i hm ls l3 l2 l1 l0
    have e : i = tO t := by omega
    rw [e] at l2 l3
    have l3 : ls.lookup 3 = some (.int (nI (tO t))) := l3
    rw [← e] at l3
    rw [← e] at hk l2
    refine r_iload_n (q129 (i := 7) rfl) l3 ?_
    refine r_aload_n (q129 (i := 8) rfl) l0 ?_
    refine r_getR (b := 1075) (q129 (i := 9) rfl) rfl (by decide) (k_47 S) (fun _ _ _ => rfl) (r_47_30 S) ?_
    refine r_iconst (v := 3) (q129 (i := 10) rfl) (by decide) ?_
    refine r_iaload (x := nI (tO t)) (q129 (i := 11) rfl) (k_1075 S) (vp_in_nI (n := 3) (by decide) (by decide)) X.1.2.1 ?_
    refine r_icmp 45 (q129 (i := 12) rfl) (by decide) (fun _ => ?_) (fun zz => absurd (show nI (tO t) ≤ nI i from nI_le (by omega) (by omega)) zz)
    exact hk ls l2 l1 l0
  | succ m ih =>
    intro i hm ls l3 l2 l1 l0
    obtain ⟨o1, o2⟩ := ol i (by omega)
    have en0 : anyB (flg t) (i + 1) = (anyB (flg t) i || flg t i) := rfl
    cases ef : anyB (flg t) i with
    | true =>
      rw [ef] at l2
      have l2 : ls.lookup 2 = some (.int 1) := l2
      have en : anyB (flg t) (i + 1) = true := by rw [en0, ef]; rfl
      refine r_iload_n (q129 (i := 7) rfl) l3 ?_
      refine r_aload_n (q129 (i := 8) rfl) l0 ?_
      refine r_getR (b := 1075) (q129 (i := 9) rfl) rfl (by decide) (k_47 S) (fun _ _ _ => rfl) (r_47_30 S) ?_
      refine r_iconst (v := 3) (q129 (i := 10) rfl) (by decide) ?_
      refine r_iaload (x := nI (tO t)) (q129 (i := 11) rfl) (k_1075 S) (vp_in_nI (n := 3) (by decide) (by decide)) X.1.2.1 ?_
      refine r_icmp 45 (q129 (i := 12) rfl) (by decide) (fun zz => absurd zz (show ¬ (nI (tO t) ≤ nI i) from nI_ge (by omega) (by omega))) (fun _ => ?_)
      refine r_iload_n (q129 (i := 13) rfl) l2 ?_
      refine r_if 33 (q129 (i := 14) rfl) (by decide) (fun _ => ?_) (fun zz => absurd (show ¬ (1 : Int32) = 0 from by decide) zz)
      refine r_iconst (v := 1) (q129 (i := 21) rfl) (by decide) ?_
      refine r_goto 38 (q129 (i := 22) rfl) (by decide) ?_
      refine r_istore_n (ls' := lset1 ls 2 (.int 1)) (q129 (i := 24) rfl) (Nat.le_of_ble_eq_true rfl) rfl ?_
      have l3 := lk1 (k := 2) (v := .int 1) l3 (by decide) (Or.inr (by decide))
      have l1 := lk1 (k := 2) (v := .int 1) l1 (by decide) (Or.inl rfl)
      have l0 := lk1 (k := 2) (v := .int 1) l0 (by decide) (Or.inr (by decide))
      have l2 := lk0 ls 2 (.int 1)
      generalize lset1 ls 2 (.int 1) = ls at l2 l3 l1 l0 ⊢
      refine r_iinc (y := nI (i + 1)) (q129 (i := 25) rfl) (Nat.le_of_ble_eq_true rfl) l3 (nI_1 i) rfl ?_
      have l2 := lk1 (k := 3) (v := .int (nI (i + 1))) l2 (by decide) (Or.inl rfl)
      have l1 := lk1 (k := 3) (v := .int (nI (i + 1))) l1 (by decide) (Or.inr (by decide))
      have l0 := lk1 (k := 3) (v := .int (nI (i + 1))) l0 (by decide) (Or.inr (by decide))
      have l3 := lk0 ls 3 (.int (nI (i + 1)))
      generalize lset1 ls 3 (.int (nI (i + 1))) = ls at l3 l2 l1 l0 ⊢
      refine r_goto 9 (q129 (i := 26) rfl) (by decide) ?_
      exact ih (i + 1) (by omega) ls l3 (l2.trans (by rw [en]; rfl)) l1 l0
    | false =>
      rw [ef] at l2
      have l2 : ls.lookup 2 = some (.int 0) := l2
      by_cases lo : tU t i < 2
      · have en : anyB (flg t) (i + 1) = true := by rw [en0, ef]; exact decide_eq_true lo
        refine r_iload_n (q129 (i := 7) rfl) l3 ?_
        refine r_aload_n (q129 (i := 8) rfl) l0 ?_
        refine r_getR (b := 1075) (q129 (i := 9) rfl) rfl (by decide) (k_47 S) (fun _ _ _ => rfl) (r_47_30 S) ?_
        refine r_iconst (v := 3) (q129 (i := 10) rfl) (by decide) ?_
        refine r_iaload (x := nI (tO t)) (q129 (i := 11) rfl) (k_1075 S) (vp_in_nI (n := 3) (by decide) (by decide)) X.1.2.1 ?_
        refine r_icmp 45 (q129 (i := 12) rfl) (by decide) (fun zz => absurd zz (show ¬ (nI (tO t) ≤ nI i) from nI_ge (by omega) (by omega))) (fun _ => ?_)
        refine r_iload_n (q129 (i := 13) rfl) l2 ?_
        refine r_if 33 (q129 (i := 14) rfl) (by decide) (fun zz => absurd zz (show ¬ (¬ (0 : Int32) = 0) from by decide)) (fun _ => ?_)
        refine r_aload_n (q129 (i := 15) rfl) l0 ?_
        refine r_getR (b := 1321) (q129 (i := 16) rfl) rfl (by decide) (k_47 S) (fun _ _ _ => rfl) (r_47_36 S) ?_
        refine r_iload_n (q129 (i := 17) rfl) l3 ?_
        refine r_iaN (x := nI (tU t i)) (q129 (i := 18) rfl) (k_1321 S) (by omega) (by decide) o1 ?_
        refine r_iconst (v := 2) (q129 (i := 19) rfl) (by decide) ?_
        refine r_icmp 37 (q129 (i := 20) rfl) (by decide) (fun zz => absurd zz (show ¬ (2 ≤ nI (tU t i)) from nI_ge (b := 2) lo (by decide))) (fun _ => ?_)
        refine r_iconst (v := 1) (q129 (i := 21) rfl) (by decide) ?_
        refine r_goto 38 (q129 (i := 22) rfl) (by decide) ?_
        refine r_istore_n (ls' := lset1 ls 2 (.int 1)) (q129 (i := 24) rfl) (Nat.le_of_ble_eq_true rfl) rfl ?_
        have l3 := lk1 (k := 2) (v := .int 1) l3 (by decide) (Or.inr (by decide))
        have l1 := lk1 (k := 2) (v := .int 1) l1 (by decide) (Or.inl rfl)
        have l0 := lk1 (k := 2) (v := .int 1) l0 (by decide) (Or.inr (by decide))
        have l2 := lk0 ls 2 (.int 1)
        generalize lset1 ls 2 (.int 1) = ls at l2 l3 l1 l0 ⊢
        refine r_iinc (y := nI (i + 1)) (q129 (i := 25) rfl) (Nat.le_of_ble_eq_true rfl) l3 (nI_1 i) rfl ?_
        have l2 := lk1 (k := 3) (v := .int (nI (i + 1))) l2 (by decide) (Or.inl rfl)
        have l1 := lk1 (k := 3) (v := .int (nI (i + 1))) l1 (by decide) (Or.inr (by decide))
        have l0 := lk1 (k := 3) (v := .int (nI (i + 1))) l0 (by decide) (Or.inr (by decide))
        have l3 := lk0 ls 3 (.int (nI (i + 1)))
        generalize lset1 ls 3 (.int (nI (i + 1))) = ls at l3 l2 l1 l0 ⊢
        refine r_goto 9 (q129 (i := 26) rfl) (by decide) ?_
        exact ih (i + 1) (by omega) ls l3 (l2.trans (by rw [en]; rfl)) l1 l0
      · have en : anyB (flg t) (i + 1) = false := by rw [en0, ef]; exact decide_eq_false lo
        refine r_iload_n (q129 (i := 7) rfl) l3 ?_
        refine r_aload_n (q129 (i := 8) rfl) l0 ?_
        refine r_getR (b := 1075) (q129 (i := 9) rfl) rfl (by decide) (k_47 S) (fun _ _ _ => rfl) (r_47_30 S) ?_
        refine r_iconst (v := 3) (q129 (i := 10) rfl) (by decide) ?_
        refine r_iaload (x := nI (tO t)) (q129 (i := 11) rfl) (k_1075 S) (vp_in_nI (n := 3) (by decide) (by decide)) X.1.2.1 ?_
        refine r_icmp 45 (q129 (i := 12) rfl) (by decide) (fun zz => absurd zz (show ¬ (nI (tO t) ≤ nI i) from nI_ge (by omega) (by omega))) (fun _ => ?_)
        refine r_iload_n (q129 (i := 13) rfl) l2 ?_
        refine r_if 33 (q129 (i := 14) rfl) (by decide) (fun zz => absurd zz (show ¬ (¬ (0 : Int32) = 0) from by decide)) (fun _ => ?_)
        refine r_aload_n (q129 (i := 15) rfl) l0 ?_
        refine r_getR (b := 1321) (q129 (i := 16) rfl) rfl (by decide) (k_47 S) (fun _ _ _ => rfl) (r_47_36 S) ?_
        refine r_iload_n (q129 (i := 17) rfl) l3 ?_
        refine r_iaN (x := nI (tU t i)) (q129 (i := 18) rfl) (k_1321 S) (by omega) (by decide) o1 ?_
        refine r_iconst (v := 2) (q129 (i := 19) rfl) (by decide) ?_
        refine r_icmp 37 (q129 (i := 20) rfl) (by decide) (fun _ => ?_) (fun zz => absurd (show 2 ≤ nI (tU t i) from nI_le (a := 2) (by omega) (by omega)) zz)
        refine r_iconst (v := 0) (q129 (i := 23) rfl) (by decide) ?_
        refine r_istore_n (ls' := lset1 ls 2 (.int 0)) (q129 (i := 24) rfl) (Nat.le_of_ble_eq_true rfl) rfl ?_
        have l3 := lk1 (k := 2) (v := .int 0) l3 (by decide) (Or.inr (by decide))
        have l1 := lk1 (k := 2) (v := .int 0) l1 (by decide) (Or.inl rfl)
        have l0 := lk1 (k := 2) (v := .int 0) l0 (by decide) (Or.inr (by decide))
        have l2 := lk0 ls 2 (.int 0)
        generalize lset1 ls 2 (.int 0) = ls at l2 l3 l1 l0 ⊢
        refine r_iinc (y := nI (i + 1)) (q129 (i := 25) rfl) (Nat.le_of_ble_eq_true rfl) l3 (nI_1 i) rfl ?_
        have l2 := lk1 (k := 3) (v := .int (nI (i + 1))) l2 (by decide) (Or.inl rfl)
        have l1 := lk1 (k := 3) (v := .int (nI (i + 1))) l1 (by decide) (Or.inr (by decide))
        have l0 := lk1 (k := 3) (v := .int (nI (i + 1))) l0 (by decide) (Or.inr (by decide))
        have l3 := lk0 ls 3 (.int (nI (i + 1)))
        generalize lset1 ls 3 (.int (nI (i + 1))) = ls at l3 l2 l1 l0 ⊢
        refine r_goto 9 (q129 (i := 26) rfl) (by decide) ?_
        exact ih (i + 1) (by omega) ls l3 (l2.trans (by rw [en]; rfl)) l1 l0
set_option maxHeartbeats 2000000 in
set_option maxRecDepth 10000 in
theorem lp_b1_1 {d : Nat} {t : txt} {h : hp} (X : XTm h t) (ol : OL h t) {Q : resP} {bc bs : Nat} (hk : ∀ ls : List (Nat × Value), ls.lookup 2 = some (.int (bI (anyB (flg t) (tO t)))) → ls.lookup 1 = some (.int 1) → ls.lookup 0 = some (.ref 47) → Wp (Ex d) 129 Q 45 ls [] h bc bs) : ∀ (m i : Nat), i + m = tO t → ∀ ls : List (Nat × Value), ls.lookup 3 = some (.int (nI i)) → ls.lookup 2 = some (.int (bI (anyB (flg t) i))) → ls.lookup 1 = some (.int 1) → ls.lookup 0 = some (.ref 47) → Wp (Ex d) 129 Q 9 ls [] h bc bs := by
  have S := X.1.1
  have hO := X.2.2.2.2.2.1
  intro m
  induction m with
  | zero =>
    intro i hm ls l3 l2 l1 l0
    have e : i = tO t := by omega
    rw [e] at l2 l3
    have l3 : ls.lookup 3 = some (.int (nI (tO t))) := l3
    rw [← e] at l3
    rw [← e] at hk l2
    refine r_iload_n (q129 (i := 7) rfl) l3 ?_
    refine r_aload_n (q129 (i := 8) rfl) l0 ?_
    refine r_getR (b := 1075) (q129 (i := 9) rfl) rfl (by decide) (k_47 S) (fun _ _ _ => rfl) (r_47_30 S) ?_
    refine r_iconst (v := 3) (q129 (i := 10) rfl) (by decide) ?_
    refine r_iaload (x := nI (tO t)) (q129 (i := 11) rfl) (k_1075 S) (vp_in_nI (n := 3) (by decide) (by decide)) X.1.2.1 ?_
    refine r_icmp 45 (q129 (i := 12) rfl) (by decide) (fun _ => ?_) (fun zz => absurd (show nI (tO t) ≤ nI i from nI_le (by omega) (by omega)) zz)
    exact hk ls l2 l1 l0
  | succ m ih =>
    intro i hm ls l3 l2 l1 l0
    obtain ⟨o1, o2⟩ := ol i (by omega)
    have en0 : anyB (flg t) (i + 1) = (anyB (flg t) i || flg t i) := rfl
    cases ef : anyB (flg t) i with
    | true =>
      rw [ef] at l2
      have l2 : ls.lookup 2 = some (.int 1) := l2
      have en : anyB (flg t) (i + 1) = true := by rw [en0, ef]; rfl
      refine r_iload_n (q129 (i := 7) rfl) l3 ?_
      refine r_aload_n (q129 (i := 8) rfl) l0 ?_
      refine r_getR (b := 1075) (q129 (i := 9) rfl) rfl (by decide) (k_47 S) (fun _ _ _ => rfl) (r_47_30 S) ?_
      refine r_iconst (v := 3) (q129 (i := 10) rfl) (by decide) ?_
      refine r_iaload (x := nI (tO t)) (q129 (i := 11) rfl) (k_1075 S) (vp_in_nI (n := 3) (by decide) (by decide)) X.1.2.1 ?_
      refine r_icmp 45 (q129 (i := 12) rfl) (by decide) (fun zz => absurd zz (show ¬ (nI (tO t) ≤ nI i) from nI_ge (by omega) (by omega))) (fun _ => ?_)
      refine r_iload_n (q129 (i := 13) rfl) l2 ?_
      refine r_if 33 (q129 (i := 14) rfl) (by decide) (fun _ => ?_) (fun zz => absurd (show ¬ (1 : Int32) = 0 from by decide) zz)
      refine r_iconst (v := 1) (q129 (i := 21) rfl) (by decide) ?_
      refine r_goto 38 (q129 (i := 22) rfl) (by decide) ?_
      refine r_istore_n (ls' := lset1 ls 2 (.int 1)) (q129 (i := 24) rfl) (Nat.le_of_ble_eq_true rfl) rfl ?_
      have l3 := lk1 (k := 2) (v := .int 1) l3 (by decide) (Or.inr (by decide))
      have l1 := lk1 (k := 2) (v := .int 1) l1 (by decide) (Or.inl rfl)
      have l0 := lk1 (k := 2) (v := .int 1) l0 (by decide) (Or.inr (by decide))
      have l2 := lk0 ls 2 (.int 1)
      generalize lset1 ls 2 (.int 1) = ls at l2 l3 l1 l0 ⊢
      refine r_iinc (y := nI (i + 1)) (q129 (i := 25) rfl) (Nat.le_of_ble_eq_true rfl) l3 (nI_1 i) rfl ?_
      have l2 := lk1 (k := 3) (v := .int (nI (i + 1))) l2 (by decide) (Or.inl rfl)
      have l1 := lk1 (k := 3) (v := .int (nI (i + 1))) l1 (by decide) (Or.inr (by decide))
      have l0 := lk1 (k := 3) (v := .int (nI (i + 1))) l0 (by decide) (Or.inr (by decide))
      have l3 := lk0 ls 3 (.int (nI (i + 1)))
      generalize lset1 ls 3 (.int (nI (i + 1))) = ls at l3 l2 l1 l0 ⊢
      refine r_goto 9 (q129 (i := 26) rfl) (by decide) ?_
      exact ih (i + 1) (by omega) ls l3 (l2.trans (by rw [en]; rfl)) l1 l0
    | false =>
      rw [ef] at l2
      have l2 : ls.lookup 2 = some (.int 0) := l2
      by_cases lo : tU t i < 2
      · have en : anyB (flg t) (i + 1) = true := by rw [en0, ef]; exact decide_eq_true lo
        refine r_iload_n (q129 (i := 7) rfl) l3 ?_
        refine r_aload_n (q129 (i := 8) rfl) l0 ?_
        refine r_getR (b := 1075) (q129 (i := 9) rfl) rfl (by decide) (k_47 S) (fun _ _ _ => rfl) (r_47_30 S) ?_
        refine r_iconst (v := 3) (q129 (i := 10) rfl) (by decide) ?_
        refine r_iaload (x := nI (tO t)) (q129 (i := 11) rfl) (k_1075 S) (vp_in_nI (n := 3) (by decide) (by decide)) X.1.2.1 ?_
        refine r_icmp 45 (q129 (i := 12) rfl) (by decide) (fun zz => absurd zz (show ¬ (nI (tO t) ≤ nI i) from nI_ge (by omega) (by omega))) (fun _ => ?_)
        refine r_iload_n (q129 (i := 13) rfl) l2 ?_
        refine r_if 33 (q129 (i := 14) rfl) (by decide) (fun zz => absurd zz (show ¬ (¬ (0 : Int32) = 0) from by decide)) (fun _ => ?_)
        refine r_aload_n (q129 (i := 15) rfl) l0 ?_
        refine r_getR (b := 1321) (q129 (i := 16) rfl) rfl (by decide) (k_47 S) (fun _ _ _ => rfl) (r_47_36 S) ?_
        refine r_iload_n (q129 (i := 17) rfl) l3 ?_
        refine r_iaN (x := nI (tU t i)) (q129 (i := 18) rfl) (k_1321 S) (by omega) (by decide) o1 ?_
        refine r_iconst (v := 2) (q129 (i := 19) rfl) (by decide) ?_
        refine r_icmp 37 (q129 (i := 20) rfl) (by decide) (fun zz => absurd zz (show ¬ (2 ≤ nI (tU t i)) from nI_ge (b := 2) lo (by decide))) (fun _ => ?_)
        refine r_iconst (v := 1) (q129 (i := 21) rfl) (by decide) ?_
        refine r_goto 38 (q129 (i := 22) rfl) (by decide) ?_
        refine r_istore_n (ls' := lset1 ls 2 (.int 1)) (q129 (i := 24) rfl) (Nat.le_of_ble_eq_true rfl) rfl ?_
        have l3 := lk1 (k := 2) (v := .int 1) l3 (by decide) (Or.inr (by decide))
        have l1 := lk1 (k := 2) (v := .int 1) l1 (by decide) (Or.inl rfl)
        have l0 := lk1 (k := 2) (v := .int 1) l0 (by decide) (Or.inr (by decide))
        have l2 := lk0 ls 2 (.int 1)
        generalize lset1 ls 2 (.int 1) = ls at l2 l3 l1 l0 ⊢
        refine r_iinc (y := nI (i + 1)) (q129 (i := 25) rfl) (Nat.le_of_ble_eq_true rfl) l3 (nI_1 i) rfl ?_
        have l2 := lk1 (k := 3) (v := .int (nI (i + 1))) l2 (by decide) (Or.inl rfl)
        have l1 := lk1 (k := 3) (v := .int (nI (i + 1))) l1 (by decide) (Or.inr (by decide))
        have l0 := lk1 (k := 3) (v := .int (nI (i + 1))) l0 (by decide) (Or.inr (by decide))
        have l3 := lk0 ls 3 (.int (nI (i + 1)))
        generalize lset1 ls 3 (.int (nI (i + 1))) = ls at l3 l2 l1 l0 ⊢
        refine r_goto 9 (q129 (i := 26) rfl) (by decide) ?_
        exact ih (i + 1) (by omega) ls l3 (l2.trans (by rw [en]; rfl)) l1 l0
      · have en : anyB (flg t) (i + 1) = false := by rw [en0, ef]; exact decide_eq_false lo
        refine r_iload_n (q129 (i := 7) rfl) l3 ?_
        refine r_aload_n (q129 (i := 8) rfl) l0 ?_
        refine r_getR (b := 1075) (q129 (i := 9) rfl) rfl (by decide) (k_47 S) (fun _ _ _ => rfl) (r_47_30 S) ?_
        refine r_iconst (v := 3) (q129 (i := 10) rfl) (by decide) ?_
        refine r_iaload (x := nI (tO t)) (q129 (i := 11) rfl) (k_1075 S) (vp_in_nI (n := 3) (by decide) (by decide)) X.1.2.1 ?_
        refine r_icmp 45 (q129 (i := 12) rfl) (by decide) (fun zz => absurd zz (show ¬ (nI (tO t) ≤ nI i) from nI_ge (by omega) (by omega))) (fun _ => ?_)
        refine r_iload_n (q129 (i := 13) rfl) l2 ?_
        refine r_if 33 (q129 (i := 14) rfl) (by decide) (fun zz => absurd zz (show ¬ (¬ (0 : Int32) = 0) from by decide)) (fun _ => ?_)
        refine r_aload_n (q129 (i := 15) rfl) l0 ?_
        refine r_getR (b := 1321) (q129 (i := 16) rfl) rfl (by decide) (k_47 S) (fun _ _ _ => rfl) (r_47_36 S) ?_
        refine r_iload_n (q129 (i := 17) rfl) l3 ?_
        refine r_iaN (x := nI (tU t i)) (q129 (i := 18) rfl) (k_1321 S) (by omega) (by decide) o1 ?_
        refine r_iconst (v := 2) (q129 (i := 19) rfl) (by decide) ?_
        refine r_icmp 37 (q129 (i := 20) rfl) (by decide) (fun _ => ?_) (fun zz => absurd (show 2 ≤ nI (tU t i) from nI_le (a := 2) (by omega) (by omega)) zz)
        refine r_iconst (v := 0) (q129 (i := 23) rfl) (by decide) ?_
        refine r_istore_n (ls' := lset1 ls 2 (.int 0)) (q129 (i := 24) rfl) (Nat.le_of_ble_eq_true rfl) rfl ?_
        have l3 := lk1 (k := 2) (v := .int 0) l3 (by decide) (Or.inr (by decide))
        have l1 := lk1 (k := 2) (v := .int 0) l1 (by decide) (Or.inl rfl)
        have l0 := lk1 (k := 2) (v := .int 0) l0 (by decide) (Or.inr (by decide))
        have l2 := lk0 ls 2 (.int 0)
        generalize lset1 ls 2 (.int 0) = ls at l2 l3 l1 l0 ⊢
        refine r_iinc (y := nI (i + 1)) (q129 (i := 25) rfl) (Nat.le_of_ble_eq_true rfl) l3 (nI_1 i) rfl ?_
        have l2 := lk1 (k := 3) (v := .int (nI (i + 1))) l2 (by decide) (Or.inl rfl)
        have l1 := lk1 (k := 3) (v := .int (nI (i + 1))) l1 (by decide) (Or.inr (by decide))
        have l0 := lk1 (k := 3) (v := .int (nI (i + 1))) l0 (by decide) (Or.inr (by decide))
        have l3 := lk0 ls 3 (.int (nI (i + 1)))
        generalize lset1 ls 3 (.int (nI (i + 1))) = ls at l3 l2 l1 l0 ⊢
        refine r_goto 9 (q129 (i := 26) rfl) (by decide) ?_
        exact ih (i + 1) (by omega) ls l3 (l2.trans (by rw [en]; rfl)) l1 l0
set_option maxHeartbeats 2000000 in
set_option maxRecDepth 10000 in
theorem lp_b2_0 {d : Nat} {t : txt} {h : hp} (X : XTm h t) (f0 : Bool) {Q : resP} {bc bs : Nat} (hk : ∀ ls : List (Nat × Value), ls.lookup 2 = some (.int (bI (f0 || anyB (flg2 t) (tN t)))) → ls.lookup 1 = some (.int 0) → ls.lookup 0 = some (.ref 47) → Wp (Ex d) 129 Q 97 ls [] h bc bs) : ∀ (m i : Nat), i + m = tN t → ∀ ls : List (Nat × Value), ls.lookup 3 = some (.int (nI i)) → ls.lookup 2 = some (.int (bI (f0 || anyB (flg2 t) i))) → ls.lookup 1 = some (.int 0) → ls.lookup 0 = some (.ref 47) → Wp (Ex d) 129 Q 47 ls [] h bc bs := by
  have S := X.1.1
  have hN := X.2.2.2.2.2.2
  intro m
  induction m with
  | zero =>
    intro i hm ls l3 l2 l1 l0
    have e : i = tN t := by omega
    rw [← e] at hk
    refine r_iload_n (q129 (i := 29) rfl) l3 ?_
    refine r_aload_n (q129 (i := 30) rfl) l0 ?_
    refine r_getR (b := 1075) (q129 (i := 31) rfl) rfl (by decide) (k_47 S) (fun _ _ _ => rfl) (r_47_30 S) ?_
    refine r_iconst (v := 4) (q129 (i := 32) rfl) (by decide) ?_
    refine r_iaload (x := nI (tN t)) (q129 (i := 33) rfl) (k_1075 S) (vp_in_nI (n := 4) (by decide) (by decide)) X.1.2.2 ?_
    refine r_icmp 97 (q129 (i := 34) rfl) (by decide) (fun _ => ?_) (fun zz => absurd (show nI (tN t) ≤ nI i from nI_le (by omega) (by omega)) zz)
    exact hk ls l2 l1 l0
  | succ m ih =>
    intro i hm ls l3 l2 l1 l0
    have x2 := X.2.2.1 i (by omega)
    have y0 := (x2 0 (by decide)).2
    have y1 := (x2 1 (by decide)).2
    have en0 : (f0 || anyB (flg2 t) (i + 1)) = ((f0 || anyB (flg2 t) i) || flg2 t i) := by
      show (f0 || (anyB (flg2 t) i || flg2 t i)) = _
      rw [Bool.or_assoc]
    cases ef : (f0 || anyB (flg2 t) i) with
    | true =>
      rw [ef] at l2
      have l2 : ls.lookup 2 = some (.int 1) := l2
      have en : (f0 || anyB (flg2 t) (i + 1)) = true := by rw [en0, ef]; rfl
      refine r_iload_n (q129 (i := 29) rfl) l3 ?_
      refine r_aload_n (q129 (i := 30) rfl) l0 ?_
      refine r_getR (b := 1075) (q129 (i := 31) rfl) rfl (by decide) (k_47 S) (fun _ _ _ => rfl) (r_47_30 S) ?_
      refine r_iconst (v := 4) (q129 (i := 32) rfl) (by decide) ?_
      refine r_iaload (x := nI (tN t)) (q129 (i := 33) rfl) (k_1075 S) (vp_in_nI (n := 4) (by decide) (by decide)) X.1.2.2 ?_
      refine r_icmp 97 (q129 (i := 34) rfl) (by decide) (fun zz => absurd zz (show ¬ (nI (tN t) ≤ nI i) from nI_ge (by omega) (by omega))) (fun _ => ?_)
      refine r_iload_n (q129 (i := 35) rfl) l2 ?_
      refine r_if 85 (q129 (i := 36) rfl) (by decide) (fun _ => ?_) (fun zz => absurd (show ¬ (1 : Int32) = 0 from by decide) zz)
      refine r_iconst (v := 1) (q129 (i := 53) rfl) (by decide) ?_
      refine r_goto 90 (q129 (i := 54) rfl) (by decide) ?_
      refine r_istore_n (ls' := lset1 ls 2 (.int 1)) (q129 (i := 56) rfl) (Nat.le_of_ble_eq_true rfl) rfl ?_
      have l3 := lk1 (k := 2) (v := .int 1) l3 (by decide) (Or.inr (by decide))
      have l1 := lk1 (k := 2) (v := .int 1) l1 (by decide) (Or.inl rfl)
      have l0 := lk1 (k := 2) (v := .int 1) l0 (by decide) (Or.inr (by decide))
      have l2 := lk0 ls 2 (.int 1)
      generalize lset1 ls 2 (.int 1) = ls at l2 l3 l1 l0 ⊢
      refine r_iinc (y := nI (i + 1)) (q129 (i := 57) rfl) (Nat.le_of_ble_eq_true rfl) l3 (nI_1 i) rfl ?_
      have l2 := lk1 (k := 3) (v := .int (nI (i + 1))) l2 (by decide) (Or.inl rfl)
      have l1 := lk1 (k := 3) (v := .int (nI (i + 1))) l1 (by decide) (Or.inr (by decide))
      have l0 := lk1 (k := 3) (v := .int (nI (i + 1))) l0 (by decide) (Or.inr (by decide))
      have l3 := lk0 ls 3 (.int (nI (i + 1)))
      generalize lset1 ls 3 (.int (nI (i + 1))) = ls at l3 l2 l1 l0 ⊢
      refine r_goto 47 (q129 (i := 58) rfl) (by decide) ?_
      exact ih (i + 1) (by omega) ls l3 (l2.trans (by rw [en]; rfl)) l1 l0
    | false =>
      rw [ef] at l2
      have l2 : ls.lookup 2 = some (.int 0) := l2
      by_cases lo : sid t i 0 < 2
      · have en : (f0 || anyB (flg2 t) (i + 1)) = true := by
          rw [en0, ef]
          show (decide (sid t i 0 < 2) || decide (sid t i 1 < 2)) = true
          rw [decide_eq_true lo]; rfl
        refine r_iload_n (q129 (i := 29) rfl) l3 ?_
        refine r_aload_n (q129 (i := 30) rfl) l0 ?_
        refine r_getR (b := 1075) (q129 (i := 31) rfl) rfl (by decide) (k_47 S) (fun _ _ _ => rfl) (r_47_30 S) ?_
        refine r_iconst (v := 4) (q129 (i := 32) rfl) (by decide) ?_
        refine r_iaload (x := nI (tN t)) (q129 (i := 33) rfl) (k_1075 S) (vp_in_nI (n := 4) (by decide) (by decide)) X.1.2.2 ?_
        refine r_icmp 97 (q129 (i := 34) rfl) (by decide) (fun zz => absurd zz (show ¬ (nI (tN t) ≤ nI i) from nI_ge (by omega) (by omega))) (fun _ => ?_)
        refine r_iload_n (q129 (i := 35) rfl) l2 ?_
        refine r_if 85 (q129 (i := 36) rfl) (by decide) (fun zz => absurd zz (show ¬ (¬ (0 : Int32) = 0) from by decide)) (fun _ => ?_)
        refine r_aload_n (q129 (i := 37) rfl) l0 ?_
        refine r_getR (b := 1079) (q129 (i := 38) rfl) rfl (by decide) (k_47 S) (fun _ _ _ => rfl) (r_47_34 S) ?_
        refine r_iload_n (q129 (i := 39) rfl) l3 ?_
        refine r_aa5N (q129 (i := 40) rfl) (k_1079 S) (by omega) (by decide) (rAnd S (by omega)) ?_
        refine r_iconst (v := 1) (q129 (i := 41) rfl) (by decide) ?_
        refine r_iaload (x := nI (sid t i 0)) (q129 (i := 42) rfl) (kAnd S (x := i) (by omega)) (vp_in_nI (n := 1) (by decide) (by decide)) ((x2 0 (by decide)).1) ?_
        refine r_iconst (v := 2) (q129 (i := 43) rfl) (by decide) ?_
        refine r_icmp 85 (q129 (i := 44) rfl) (by decide) (fun _ => ?_) (fun zz => absurd (show nI (sid t i 0) < 2 from nI_lt (b := 2) lo (by decide)) zz)
        refine r_iconst (v := 1) (q129 (i := 53) rfl) (by decide) ?_
        refine r_goto 90 (q129 (i := 54) rfl) (by decide) ?_
        refine r_istore_n (ls' := lset1 ls 2 (.int 1)) (q129 (i := 56) rfl) (Nat.le_of_ble_eq_true rfl) rfl ?_
        have l3 := lk1 (k := 2) (v := .int 1) l3 (by decide) (Or.inr (by decide))
        have l1 := lk1 (k := 2) (v := .int 1) l1 (by decide) (Or.inl rfl)
        have l0 := lk1 (k := 2) (v := .int 1) l0 (by decide) (Or.inr (by decide))
        have l2 := lk0 ls 2 (.int 1)
        generalize lset1 ls 2 (.int 1) = ls at l2 l3 l1 l0 ⊢
        refine r_iinc (y := nI (i + 1)) (q129 (i := 57) rfl) (Nat.le_of_ble_eq_true rfl) l3 (nI_1 i) rfl ?_
        have l2 := lk1 (k := 3) (v := .int (nI (i + 1))) l2 (by decide) (Or.inl rfl)
        have l1 := lk1 (k := 3) (v := .int (nI (i + 1))) l1 (by decide) (Or.inr (by decide))
        have l0 := lk1 (k := 3) (v := .int (nI (i + 1))) l0 (by decide) (Or.inr (by decide))
        have l3 := lk0 ls 3 (.int (nI (i + 1)))
        generalize lset1 ls 3 (.int (nI (i + 1))) = ls at l3 l2 l1 l0 ⊢
        refine r_goto 47 (q129 (i := 58) rfl) (by decide) ?_
        exact ih (i + 1) (by omega) ls l3 (l2.trans (by rw [en]; rfl)) l1 l0
      · by_cases lo2 : sid t i 1 < 2
        · have en : (f0 || anyB (flg2 t) (i + 1)) = true := by
            rw [en0, ef]
            show (decide (sid t i 0 < 2) || decide (sid t i 1 < 2)) = true
            rw [decide_eq_true lo2, Bool.or_true]
          refine r_iload_n (q129 (i := 29) rfl) l3 ?_
          refine r_aload_n (q129 (i := 30) rfl) l0 ?_
          refine r_getR (b := 1075) (q129 (i := 31) rfl) rfl (by decide) (k_47 S) (fun _ _ _ => rfl) (r_47_30 S) ?_
          refine r_iconst (v := 4) (q129 (i := 32) rfl) (by decide) ?_
          refine r_iaload (x := nI (tN t)) (q129 (i := 33) rfl) (k_1075 S) (vp_in_nI (n := 4) (by decide) (by decide)) X.1.2.2 ?_
          refine r_icmp 97 (q129 (i := 34) rfl) (by decide) (fun zz => absurd zz (show ¬ (nI (tN t) ≤ nI i) from nI_ge (by omega) (by omega))) (fun _ => ?_)
          refine r_iload_n (q129 (i := 35) rfl) l2 ?_
          refine r_if 85 (q129 (i := 36) rfl) (by decide) (fun zz => absurd zz (show ¬ (¬ (0 : Int32) = 0) from by decide)) (fun _ => ?_)
          refine r_aload_n (q129 (i := 37) rfl) l0 ?_
          refine r_getR (b := 1079) (q129 (i := 38) rfl) rfl (by decide) (k_47 S) (fun _ _ _ => rfl) (r_47_34 S) ?_
          refine r_iload_n (q129 (i := 39) rfl) l3 ?_
          refine r_aa5N (q129 (i := 40) rfl) (k_1079 S) (by omega) (by decide) (rAnd S (by omega)) ?_
          refine r_iconst (v := 1) (q129 (i := 41) rfl) (by decide) ?_
          refine r_iaload (x := nI (sid t i 0)) (q129 (i := 42) rfl) (kAnd S (x := i) (by omega)) (vp_in_nI (n := 1) (by decide) (by decide)) ((x2 0 (by decide)).1) ?_
          refine r_iconst (v := 2) (q129 (i := 43) rfl) (by decide) ?_
          refine r_icmp 85 (q129 (i := 44) rfl) (by decide) (fun zz => absurd zz (show ¬ (nI (sid t i 0) < 2) from nI_nlt (b := 2) (by omega) (by omega))) (fun _ => ?_)
          refine r_aload_n (q129 (i := 45) rfl) l0 ?_
          refine r_getR (b := 1079) (q129 (i := 46) rfl) rfl (by decide) (k_47 S) (fun _ _ _ => rfl) (r_47_34 S) ?_
          refine r_iload_n (q129 (i := 47) rfl) l3 ?_
          refine r_aa5N (q129 (i := 48) rfl) (k_1079 S) (by omega) (by decide) (rAnd S (by omega)) ?_
          refine r_iconst (v := 2) (q129 (i := 49) rfl) (by decide) ?_
          refine r_iaload (x := nI (sid t i 1)) (q129 (i := 50) rfl) (kAnd S (x := i) (by omega)) (vp_in_nI (n := 2) (by decide) (by decide)) ((x2 1 (by decide)).1) ?_
          refine r_iconst (v := 2) (q129 (i := 51) rfl) (by decide) ?_
          refine r_icmp 89 (q129 (i := 52) rfl) (by decide) (fun zz => absurd zz (show ¬ (2 ≤ nI (sid t i 1)) from nI_ge (b := 2) lo2 (by decide))) (fun _ => ?_)
          refine r_iconst (v := 1) (q129 (i := 53) rfl) (by decide) ?_
          refine r_goto 90 (q129 (i := 54) rfl) (by decide) ?_
          refine r_istore_n (ls' := lset1 ls 2 (.int 1)) (q129 (i := 56) rfl) (Nat.le_of_ble_eq_true rfl) rfl ?_
          have l3 := lk1 (k := 2) (v := .int 1) l3 (by decide) (Or.inr (by decide))
          have l1 := lk1 (k := 2) (v := .int 1) l1 (by decide) (Or.inl rfl)
          have l0 := lk1 (k := 2) (v := .int 1) l0 (by decide) (Or.inr (by decide))
          have l2 := lk0 ls 2 (.int 1)
          generalize lset1 ls 2 (.int 1) = ls at l2 l3 l1 l0 ⊢
          refine r_iinc (y := nI (i + 1)) (q129 (i := 57) rfl) (Nat.le_of_ble_eq_true rfl) l3 (nI_1 i) rfl ?_
          have l2 := lk1 (k := 3) (v := .int (nI (i + 1))) l2 (by decide) (Or.inl rfl)
          have l1 := lk1 (k := 3) (v := .int (nI (i + 1))) l1 (by decide) (Or.inr (by decide))
          have l0 := lk1 (k := 3) (v := .int (nI (i + 1))) l0 (by decide) (Or.inr (by decide))
          have l3 := lk0 ls 3 (.int (nI (i + 1)))
          generalize lset1 ls 3 (.int (nI (i + 1))) = ls at l3 l2 l1 l0 ⊢
          refine r_goto 47 (q129 (i := 58) rfl) (by decide) ?_
          exact ih (i + 1) (by omega) ls l3 (l2.trans (by rw [en]; rfl)) l1 l0
        · have en : (f0 || anyB (flg2 t) (i + 1)) = false := by
            rw [en0, ef]
            show (decide (sid t i 0 < 2) || decide (sid t i 1 < 2)) = false
            rw [decide_eq_false lo, decide_eq_false lo2]; rfl
          refine r_iload_n (q129 (i := 29) rfl) l3 ?_
          refine r_aload_n (q129 (i := 30) rfl) l0 ?_
          refine r_getR (b := 1075) (q129 (i := 31) rfl) rfl (by decide) (k_47 S) (fun _ _ _ => rfl) (r_47_30 S) ?_
          refine r_iconst (v := 4) (q129 (i := 32) rfl) (by decide) ?_
          refine r_iaload (x := nI (tN t)) (q129 (i := 33) rfl) (k_1075 S) (vp_in_nI (n := 4) (by decide) (by decide)) X.1.2.2 ?_
          refine r_icmp 97 (q129 (i := 34) rfl) (by decide) (fun zz => absurd zz (show ¬ (nI (tN t) ≤ nI i) from nI_ge (by omega) (by omega))) (fun _ => ?_)
          refine r_iload_n (q129 (i := 35) rfl) l2 ?_
          refine r_if 85 (q129 (i := 36) rfl) (by decide) (fun zz => absurd zz (show ¬ (¬ (0 : Int32) = 0) from by decide)) (fun _ => ?_)
          refine r_aload_n (q129 (i := 37) rfl) l0 ?_
          refine r_getR (b := 1079) (q129 (i := 38) rfl) rfl (by decide) (k_47 S) (fun _ _ _ => rfl) (r_47_34 S) ?_
          refine r_iload_n (q129 (i := 39) rfl) l3 ?_
          refine r_aa5N (q129 (i := 40) rfl) (k_1079 S) (by omega) (by decide) (rAnd S (by omega)) ?_
          refine r_iconst (v := 1) (q129 (i := 41) rfl) (by decide) ?_
          refine r_iaload (x := nI (sid t i 0)) (q129 (i := 42) rfl) (kAnd S (x := i) (by omega)) (vp_in_nI (n := 1) (by decide) (by decide)) ((x2 0 (by decide)).1) ?_
          refine r_iconst (v := 2) (q129 (i := 43) rfl) (by decide) ?_
          refine r_icmp 85 (q129 (i := 44) rfl) (by decide) (fun zz => absurd zz (show ¬ (nI (sid t i 0) < 2) from nI_nlt (b := 2) (by omega) (by omega))) (fun _ => ?_)
          refine r_aload_n (q129 (i := 45) rfl) l0 ?_
          refine r_getR (b := 1079) (q129 (i := 46) rfl) rfl (by decide) (k_47 S) (fun _ _ _ => rfl) (r_47_34 S) ?_
          refine r_iload_n (q129 (i := 47) rfl) l3 ?_
          refine r_aa5N (q129 (i := 48) rfl) (k_1079 S) (by omega) (by decide) (rAnd S (by omega)) ?_
          refine r_iconst (v := 2) (q129 (i := 49) rfl) (by decide) ?_
          refine r_iaload (x := nI (sid t i 1)) (q129 (i := 50) rfl) (kAnd S (x := i) (by omega)) (vp_in_nI (n := 2) (by decide) (by decide)) ((x2 1 (by decide)).1) ?_
          refine r_iconst (v := 2) (q129 (i := 51) rfl) (by decide) ?_
          refine r_icmp 89 (q129 (i := 52) rfl) (by decide) (fun _ => ?_) (fun zz => absurd (show 2 ≤ nI (sid t i 1) from nI_le (a := 2) (by omega) (by omega)) zz)
          refine r_iconst (v := 0) (q129 (i := 55) rfl) (by decide) ?_
          refine r_istore_n (ls' := lset1 ls 2 (.int 0)) (q129 (i := 56) rfl) (Nat.le_of_ble_eq_true rfl) rfl ?_
          have l3 := lk1 (k := 2) (v := .int 0) l3 (by decide) (Or.inr (by decide))
          have l1 := lk1 (k := 2) (v := .int 0) l1 (by decide) (Or.inl rfl)
          have l0 := lk1 (k := 2) (v := .int 0) l0 (by decide) (Or.inr (by decide))
          have l2 := lk0 ls 2 (.int 0)
          generalize lset1 ls 2 (.int 0) = ls at l2 l3 l1 l0 ⊢
          refine r_iinc (y := nI (i + 1)) (q129 (i := 57) rfl) (Nat.le_of_ble_eq_true rfl) l3 (nI_1 i) rfl ?_
          have l2 := lk1 (k := 3) (v := .int (nI (i + 1))) l2 (by decide) (Or.inl rfl)
          have l1 := lk1 (k := 3) (v := .int (nI (i + 1))) l1 (by decide) (Or.inr (by decide))
          have l0 := lk1 (k := 3) (v := .int (nI (i + 1))) l0 (by decide) (Or.inr (by decide))
          have l3 := lk0 ls 3 (.int (nI (i + 1)))
          generalize lset1 ls 3 (.int (nI (i + 1))) = ls at l3 l2 l1 l0 ⊢
          refine r_goto 47 (q129 (i := 58) rfl) (by decide) ?_
          exact ih (i + 1) (by omega) ls l3 (l2.trans (by rw [en]; rfl)) l1 l0
set_option maxHeartbeats 2000000 in
set_option maxRecDepth 10000 in
theorem lp_b2_1 {d : Nat} {t : txt} {h : hp} (X : XTm h t) (f0 : Bool) {Q : resP} {bc bs : Nat} (hk : ∀ ls : List (Nat × Value), ls.lookup 2 = some (.int (bI (f0 || anyB (flg2 t) (tN t)))) → ls.lookup 1 = some (.int 1) → ls.lookup 0 = some (.ref 47) → Wp (Ex d) 129 Q 97 ls [] h bc bs) : ∀ (m i : Nat), i + m = tN t → ∀ ls : List (Nat × Value), ls.lookup 3 = some (.int (nI i)) → ls.lookup 2 = some (.int (bI (f0 || anyB (flg2 t) i))) → ls.lookup 1 = some (.int 1) → ls.lookup 0 = some (.ref 47) → Wp (Ex d) 129 Q 47 ls [] h bc bs := by
  have S := X.1.1
  have hN := X.2.2.2.2.2.2
  intro m
  induction m with
  | zero =>
    intro i hm ls l3 l2 l1 l0
    have e : i = tN t := by omega
    rw [← e] at hk
    refine r_iload_n (q129 (i := 29) rfl) l3 ?_
    refine r_aload_n (q129 (i := 30) rfl) l0 ?_
    refine r_getR (b := 1075) (q129 (i := 31) rfl) rfl (by decide) (k_47 S) (fun _ _ _ => rfl) (r_47_30 S) ?_
    refine r_iconst (v := 4) (q129 (i := 32) rfl) (by decide) ?_
    refine r_iaload (x := nI (tN t)) (q129 (i := 33) rfl) (k_1075 S) (vp_in_nI (n := 4) (by decide) (by decide)) X.1.2.2 ?_
    refine r_icmp 97 (q129 (i := 34) rfl) (by decide) (fun _ => ?_) (fun zz => absurd (show nI (tN t) ≤ nI i from nI_le (by omega) (by omega)) zz)
    exact hk ls l2 l1 l0
  | succ m ih =>
    intro i hm ls l3 l2 l1 l0
    have x2 := X.2.2.1 i (by omega)
    have y0 := (x2 0 (by decide)).2
    have y1 := (x2 1 (by decide)).2
    have en0 : (f0 || anyB (flg2 t) (i + 1)) = ((f0 || anyB (flg2 t) i) || flg2 t i) := by
      show (f0 || (anyB (flg2 t) i || flg2 t i)) = _
      rw [Bool.or_assoc]
    cases ef : (f0 || anyB (flg2 t) i) with
    | true =>
      rw [ef] at l2
      have l2 : ls.lookup 2 = some (.int 1) := l2
      have en : (f0 || anyB (flg2 t) (i + 1)) = true := by rw [en0, ef]; rfl
      refine r_iload_n (q129 (i := 29) rfl) l3 ?_
      refine r_aload_n (q129 (i := 30) rfl) l0 ?_
      refine r_getR (b := 1075) (q129 (i := 31) rfl) rfl (by decide) (k_47 S) (fun _ _ _ => rfl) (r_47_30 S) ?_
      refine r_iconst (v := 4) (q129 (i := 32) rfl) (by decide) ?_
      refine r_iaload (x := nI (tN t)) (q129 (i := 33) rfl) (k_1075 S) (vp_in_nI (n := 4) (by decide) (by decide)) X.1.2.2 ?_
      refine r_icmp 97 (q129 (i := 34) rfl) (by decide) (fun zz => absurd zz (show ¬ (nI (tN t) ≤ nI i) from nI_ge (by omega) (by omega))) (fun _ => ?_)
      refine r_iload_n (q129 (i := 35) rfl) l2 ?_
      refine r_if 85 (q129 (i := 36) rfl) (by decide) (fun _ => ?_) (fun zz => absurd (show ¬ (1 : Int32) = 0 from by decide) zz)
      refine r_iconst (v := 1) (q129 (i := 53) rfl) (by decide) ?_
      refine r_goto 90 (q129 (i := 54) rfl) (by decide) ?_
      refine r_istore_n (ls' := lset1 ls 2 (.int 1)) (q129 (i := 56) rfl) (Nat.le_of_ble_eq_true rfl) rfl ?_
      have l3 := lk1 (k := 2) (v := .int 1) l3 (by decide) (Or.inr (by decide))
      have l1 := lk1 (k := 2) (v := .int 1) l1 (by decide) (Or.inl rfl)
      have l0 := lk1 (k := 2) (v := .int 1) l0 (by decide) (Or.inr (by decide))
      have l2 := lk0 ls 2 (.int 1)
      generalize lset1 ls 2 (.int 1) = ls at l2 l3 l1 l0 ⊢
      refine r_iinc (y := nI (i + 1)) (q129 (i := 57) rfl) (Nat.le_of_ble_eq_true rfl) l3 (nI_1 i) rfl ?_
      have l2 := lk1 (k := 3) (v := .int (nI (i + 1))) l2 (by decide) (Or.inl rfl)
      have l1 := lk1 (k := 3) (v := .int (nI (i + 1))) l1 (by decide) (Or.inr (by decide))
      have l0 := lk1 (k := 3) (v := .int (nI (i + 1))) l0 (by decide) (Or.inr (by decide))
      have l3 := lk0 ls 3 (.int (nI (i + 1)))
      generalize lset1 ls 3 (.int (nI (i + 1))) = ls at l3 l2 l1 l0 ⊢
      refine r_goto 47 (q129 (i := 58) rfl) (by decide) ?_
      exact ih (i + 1) (by omega) ls l3 (l2.trans (by rw [en]; rfl)) l1 l0
    | false =>
      rw [ef] at l2
      have l2 : ls.lookup 2 = some (.int 0) := l2
      by_cases lo : sid t i 0 < 2
      · have en : (f0 || anyB (flg2 t) (i + 1)) = true := by
          rw [en0, ef]
          show (decide (sid t i 0 < 2) || decide (sid t i 1 < 2)) = true
          rw [decide_eq_true lo]; rfl
        refine r_iload_n (q129 (i := 29) rfl) l3 ?_
        refine r_aload_n (q129 (i := 30) rfl) l0 ?_
        refine r_getR (b := 1075) (q129 (i := 31) rfl) rfl (by decide) (k_47 S) (fun _ _ _ => rfl) (r_47_30 S) ?_
        refine r_iconst (v := 4) (q129 (i := 32) rfl) (by decide) ?_
        refine r_iaload (x := nI (tN t)) (q129 (i := 33) rfl) (k_1075 S) (vp_in_nI (n := 4) (by decide) (by decide)) X.1.2.2 ?_
        refine r_icmp 97 (q129 (i := 34) rfl) (by decide) (fun zz => absurd zz (show ¬ (nI (tN t) ≤ nI i) from nI_ge (by omega) (by omega))) (fun _ => ?_)
        refine r_iload_n (q129 (i := 35) rfl) l2 ?_
        refine r_if 85 (q129 (i := 36) rfl) (by decide) (fun zz => absurd zz (show ¬ (¬ (0 : Int32) = 0) from by decide)) (fun _ => ?_)
        refine r_aload_n (q129 (i := 37) rfl) l0 ?_
        refine r_getR (b := 1079) (q129 (i := 38) rfl) rfl (by decide) (k_47 S) (fun _ _ _ => rfl) (r_47_34 S) ?_
        refine r_iload_n (q129 (i := 39) rfl) l3 ?_
        refine r_aa5N (q129 (i := 40) rfl) (k_1079 S) (by omega) (by decide) (rAnd S (by omega)) ?_
        refine r_iconst (v := 1) (q129 (i := 41) rfl) (by decide) ?_
        refine r_iaload (x := nI (sid t i 0)) (q129 (i := 42) rfl) (kAnd S (x := i) (by omega)) (vp_in_nI (n := 1) (by decide) (by decide)) ((x2 0 (by decide)).1) ?_
        refine r_iconst (v := 2) (q129 (i := 43) rfl) (by decide) ?_
        refine r_icmp 85 (q129 (i := 44) rfl) (by decide) (fun _ => ?_) (fun zz => absurd (show nI (sid t i 0) < 2 from nI_lt (b := 2) lo (by decide)) zz)
        refine r_iconst (v := 1) (q129 (i := 53) rfl) (by decide) ?_
        refine r_goto 90 (q129 (i := 54) rfl) (by decide) ?_
        refine r_istore_n (ls' := lset1 ls 2 (.int 1)) (q129 (i := 56) rfl) (Nat.le_of_ble_eq_true rfl) rfl ?_
        have l3 := lk1 (k := 2) (v := .int 1) l3 (by decide) (Or.inr (by decide))
        have l1 := lk1 (k := 2) (v := .int 1) l1 (by decide) (Or.inl rfl)
        have l0 := lk1 (k := 2) (v := .int 1) l0 (by decide) (Or.inr (by decide))
        have l2 := lk0 ls 2 (.int 1)
        generalize lset1 ls 2 (.int 1) = ls at l2 l3 l1 l0 ⊢
        refine r_iinc (y := nI (i + 1)) (q129 (i := 57) rfl) (Nat.le_of_ble_eq_true rfl) l3 (nI_1 i) rfl ?_
        have l2 := lk1 (k := 3) (v := .int (nI (i + 1))) l2 (by decide) (Or.inl rfl)
        have l1 := lk1 (k := 3) (v := .int (nI (i + 1))) l1 (by decide) (Or.inr (by decide))
        have l0 := lk1 (k := 3) (v := .int (nI (i + 1))) l0 (by decide) (Or.inr (by decide))
        have l3 := lk0 ls 3 (.int (nI (i + 1)))
        generalize lset1 ls 3 (.int (nI (i + 1))) = ls at l3 l2 l1 l0 ⊢
        refine r_goto 47 (q129 (i := 58) rfl) (by decide) ?_
        exact ih (i + 1) (by omega) ls l3 (l2.trans (by rw [en]; rfl)) l1 l0
      · by_cases lo2 : sid t i 1 < 2
        · have en : (f0 || anyB (flg2 t) (i + 1)) = true := by
            rw [en0, ef]
            show (decide (sid t i 0 < 2) || decide (sid t i 1 < 2)) = true
            rw [decide_eq_true lo2, Bool.or_true]
          refine r_iload_n (q129 (i := 29) rfl) l3 ?_
          refine r_aload_n (q129 (i := 30) rfl) l0 ?_
          refine r_getR (b := 1075) (q129 (i := 31) rfl) rfl (by decide) (k_47 S) (fun _ _ _ => rfl) (r_47_30 S) ?_
          refine r_iconst (v := 4) (q129 (i := 32) rfl) (by decide) ?_
          refine r_iaload (x := nI (tN t)) (q129 (i := 33) rfl) (k_1075 S) (vp_in_nI (n := 4) (by decide) (by decide)) X.1.2.2 ?_
          refine r_icmp 97 (q129 (i := 34) rfl) (by decide) (fun zz => absurd zz (show ¬ (nI (tN t) ≤ nI i) from nI_ge (by omega) (by omega))) (fun _ => ?_)
          refine r_iload_n (q129 (i := 35) rfl) l2 ?_
          refine r_if 85 (q129 (i := 36) rfl) (by decide) (fun zz => absurd zz (show ¬ (¬ (0 : Int32) = 0) from by decide)) (fun _ => ?_)
          refine r_aload_n (q129 (i := 37) rfl) l0 ?_
          refine r_getR (b := 1079) (q129 (i := 38) rfl) rfl (by decide) (k_47 S) (fun _ _ _ => rfl) (r_47_34 S) ?_
          refine r_iload_n (q129 (i := 39) rfl) l3 ?_
          refine r_aa5N (q129 (i := 40) rfl) (k_1079 S) (by omega) (by decide) (rAnd S (by omega)) ?_
          refine r_iconst (v := 1) (q129 (i := 41) rfl) (by decide) ?_
          refine r_iaload (x := nI (sid t i 0)) (q129 (i := 42) rfl) (kAnd S (x := i) (by omega)) (vp_in_nI (n := 1) (by decide) (by decide)) ((x2 0 (by decide)).1) ?_
          refine r_iconst (v := 2) (q129 (i := 43) rfl) (by decide) ?_
          refine r_icmp 85 (q129 (i := 44) rfl) (by decide) (fun zz => absurd zz (show ¬ (nI (sid t i 0) < 2) from nI_nlt (b := 2) (by omega) (by omega))) (fun _ => ?_)
          refine r_aload_n (q129 (i := 45) rfl) l0 ?_
          refine r_getR (b := 1079) (q129 (i := 46) rfl) rfl (by decide) (k_47 S) (fun _ _ _ => rfl) (r_47_34 S) ?_
          refine r_iload_n (q129 (i := 47) rfl) l3 ?_
          refine r_aa5N (q129 (i := 48) rfl) (k_1079 S) (by omega) (by decide) (rAnd S (by omega)) ?_
          refine r_iconst (v := 2) (q129 (i := 49) rfl) (by decide) ?_
          refine r_iaload (x := nI (sid t i 1)) (q129 (i := 50) rfl) (kAnd S (x := i) (by omega)) (vp_in_nI (n := 2) (by decide) (by decide)) ((x2 1 (by decide)).1) ?_
          refine r_iconst (v := 2) (q129 (i := 51) rfl) (by decide) ?_
          refine r_icmp 89 (q129 (i := 52) rfl) (by decide) (fun zz => absurd zz (show ¬ (2 ≤ nI (sid t i 1)) from nI_ge (b := 2) lo2 (by decide))) (fun _ => ?_)
          refine r_iconst (v := 1) (q129 (i := 53) rfl) (by decide) ?_
          refine r_goto 90 (q129 (i := 54) rfl) (by decide) ?_
          refine r_istore_n (ls' := lset1 ls 2 (.int 1)) (q129 (i := 56) rfl) (Nat.le_of_ble_eq_true rfl) rfl ?_
          have l3 := lk1 (k := 2) (v := .int 1) l3 (by decide) (Or.inr (by decide))
          have l1 := lk1 (k := 2) (v := .int 1) l1 (by decide) (Or.inl rfl)
          have l0 := lk1 (k := 2) (v := .int 1) l0 (by decide) (Or.inr (by decide))
          have l2 := lk0 ls 2 (.int 1)
          generalize lset1 ls 2 (.int 1) = ls at l2 l3 l1 l0 ⊢
          refine r_iinc (y := nI (i + 1)) (q129 (i := 57) rfl) (Nat.le_of_ble_eq_true rfl) l3 (nI_1 i) rfl ?_
          have l2 := lk1 (k := 3) (v := .int (nI (i + 1))) l2 (by decide) (Or.inl rfl)
          have l1 := lk1 (k := 3) (v := .int (nI (i + 1))) l1 (by decide) (Or.inr (by decide))
          have l0 := lk1 (k := 3) (v := .int (nI (i + 1))) l0 (by decide) (Or.inr (by decide))
          have l3 := lk0 ls 3 (.int (nI (i + 1)))
          generalize lset1 ls 3 (.int (nI (i + 1))) = ls at l3 l2 l1 l0 ⊢
          refine r_goto 47 (q129 (i := 58) rfl) (by decide) ?_
          exact ih (i + 1) (by omega) ls l3 (l2.trans (by rw [en]; rfl)) l1 l0
        · have en : (f0 || anyB (flg2 t) (i + 1)) = false := by
            rw [en0, ef]
            show (decide (sid t i 0 < 2) || decide (sid t i 1 < 2)) = false
            rw [decide_eq_false lo, decide_eq_false lo2]; rfl
          refine r_iload_n (q129 (i := 29) rfl) l3 ?_
          refine r_aload_n (q129 (i := 30) rfl) l0 ?_
          refine r_getR (b := 1075) (q129 (i := 31) rfl) rfl (by decide) (k_47 S) (fun _ _ _ => rfl) (r_47_30 S) ?_
          refine r_iconst (v := 4) (q129 (i := 32) rfl) (by decide) ?_
          refine r_iaload (x := nI (tN t)) (q129 (i := 33) rfl) (k_1075 S) (vp_in_nI (n := 4) (by decide) (by decide)) X.1.2.2 ?_
          refine r_icmp 97 (q129 (i := 34) rfl) (by decide) (fun zz => absurd zz (show ¬ (nI (tN t) ≤ nI i) from nI_ge (by omega) (by omega))) (fun _ => ?_)
          refine r_iload_n (q129 (i := 35) rfl) l2 ?_
          refine r_if 85 (q129 (i := 36) rfl) (by decide) (fun zz => absurd zz (show ¬ (¬ (0 : Int32) = 0) from by decide)) (fun _ => ?_)
          refine r_aload_n (q129 (i := 37) rfl) l0 ?_
          refine r_getR (b := 1079) (q129 (i := 38) rfl) rfl (by decide) (k_47 S) (fun _ _ _ => rfl) (r_47_34 S) ?_
          refine r_iload_n (q129 (i := 39) rfl) l3 ?_
          refine r_aa5N (q129 (i := 40) rfl) (k_1079 S) (by omega) (by decide) (rAnd S (by omega)) ?_
          refine r_iconst (v := 1) (q129 (i := 41) rfl) (by decide) ?_
          refine r_iaload (x := nI (sid t i 0)) (q129 (i := 42) rfl) (kAnd S (x := i) (by omega)) (vp_in_nI (n := 1) (by decide) (by decide)) ((x2 0 (by decide)).1) ?_
          refine r_iconst (v := 2) (q129 (i := 43) rfl) (by decide) ?_
          refine r_icmp 85 (q129 (i := 44) rfl) (by decide) (fun zz => absurd zz (show ¬ (nI (sid t i 0) < 2) from nI_nlt (b := 2) (by omega) (by omega))) (fun _ => ?_)
          refine r_aload_n (q129 (i := 45) rfl) l0 ?_
          refine r_getR (b := 1079) (q129 (i := 46) rfl) rfl (by decide) (k_47 S) (fun _ _ _ => rfl) (r_47_34 S) ?_
          refine r_iload_n (q129 (i := 47) rfl) l3 ?_
          refine r_aa5N (q129 (i := 48) rfl) (k_1079 S) (by omega) (by decide) (rAnd S (by omega)) ?_
          refine r_iconst (v := 2) (q129 (i := 49) rfl) (by decide) ?_
          refine r_iaload (x := nI (sid t i 1)) (q129 (i := 50) rfl) (kAnd S (x := i) (by omega)) (vp_in_nI (n := 2) (by decide) (by decide)) ((x2 1 (by decide)).1) ?_
          refine r_iconst (v := 2) (q129 (i := 51) rfl) (by decide) ?_
          refine r_icmp 89 (q129 (i := 52) rfl) (by decide) (fun _ => ?_) (fun zz => absurd (show 2 ≤ nI (sid t i 1) from nI_le (a := 2) (by omega) (by omega)) zz)
          refine r_iconst (v := 0) (q129 (i := 55) rfl) (by decide) ?_
          refine r_istore_n (ls' := lset1 ls 2 (.int 0)) (q129 (i := 56) rfl) (Nat.le_of_ble_eq_true rfl) rfl ?_
          have l3 := lk1 (k := 2) (v := .int 0) l3 (by decide) (Or.inr (by decide))
          have l1 := lk1 (k := 2) (v := .int 0) l1 (by decide) (Or.inl rfl)
          have l0 := lk1 (k := 2) (v := .int 0) l0 (by decide) (Or.inr (by decide))
          have l2 := lk0 ls 2 (.int 0)
          generalize lset1 ls 2 (.int 0) = ls at l2 l3 l1 l0 ⊢
          refine r_iinc (y := nI (i + 1)) (q129 (i := 57) rfl) (Nat.le_of_ble_eq_true rfl) l3 (nI_1 i) rfl ?_
          have l2 := lk1 (k := 3) (v := .int (nI (i + 1))) l2 (by decide) (Or.inl rfl)
          have l1 := lk1 (k := 3) (v := .int (nI (i + 1))) l1 (by decide) (Or.inr (by decide))
          have l0 := lk1 (k := 3) (v := .int (nI (i + 1))) l0 (by decide) (Or.inr (by decide))
          have l3 := lk0 ls 3 (.int (nI (i + 1)))
          generalize lset1 ls 3 (.int (nI (i + 1))) = ls at l3 l2 l1 l0 ⊢
          refine r_goto 47 (q129 (i := 58) rfl) (by decide) ?_
          exact ih (i + 1) (by omega) ls l3 (l2.trans (by rw [en]; rfl)) l1 l0
