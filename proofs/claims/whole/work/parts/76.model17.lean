def FrTh (h h' : hp) : Prop := h'.2 = h.2 ∧ ∀ k, k ≠ 1324 → k ≠ 1325 → hI h' k = hI h k
theorem FrTh.rf (h : hp) : FrTh h h := ⟨rfl, fun _ _ _ => rfl⟩
theorem FrTh.tr {h h' h'' : hp} (a : FrTh h h') (b : FrTh h' h'') : FrTh h h'' := ⟨b.1.trans a.1, fun k x y => (b.2 k x y).trans (a.2 k x y)⟩
theorem FrTh.w {h : hp} {a : Nat} (ha : a = 1324 ∨ a = 1325) (i : Nat) (v : Int32) : FrTh h (sI h a i v) := ⟨rfl, fun k x y => by
  show u2 h.1 a _ _ k = _
  rw [u2_n (by omega)]⟩
theorem FrTh.X {h h' : hp} (F : FrTh h h') {t : txt} (X : XTm h t) : XTm h' t := by
  obtain ⟨⟨a1, a2, a3⟩, b, c, d⟩ := X
  refine ⟨⟨a1.to (by rw [F.1]), by rw [F.2 1075 (by decide) (by decide)]; exact a2, by rw [F.2 1075 (by decide) (by decide)]; exact a3⟩, fun v hv => by rw [F.2 1077 (by decide) (by decide), F.2 1078 (by decide) (by decide)]; exact b v hv, fun i hi j hj => ?_, d⟩
  rw [F.2 (1080 + i) (by have := d.2.2.2; omega) (by have := d.2.2.2; omega)]
  exact c i hi j hj
def TH0 (h : hp) (t : txt) (i : Nat) : Prop := ∀ q, q < i → hI h 1325 q = bI (decide (tD t q ≠ 0 ∧ tD t q ≤ tn t)) ∧ hI h 1324 q = hI h 1078 q
set_option maxHeartbeats 2000000 in
set_option maxRecDepth 10000 in
theorem lp_b3 {d : Nat} {t : txt} {f x : Int32} : ∀ (m i : Nat) (h : hp), i + m = 1002 → XTm h t → TH0 h t i → ∃ h', TH0 h' t 1002 ∧ FrTh h h' ∧ ∀ (Q : resP) (bc bs : Nat), (∀ ls : List (Nat × Value), ls.lookup 2 = some (.int f) → ls.lookup 1 = some (.int x) → ls.lookup 0 = some (.ref 47) → Wp (Ex d) 129 Q 145 ls [] h' bc bs) → ∀ ls : List (Nat × Value), ls.lookup 3 = some (.int (nI i)) → ls.lookup 2 = some (.int f) → ls.lookup 1 = some (.int x) → ls.lookup 0 = some (.ref 47) → Wp (Ex d) 129 Q 99 ls [] h bc bs := by
  intro m
  induction m with
  | zero =>
    intro i h hm X T
    have S := X.1.1
    have e : i = 1002 := by omega
    subst e
    refine ⟨h, T, FrTh.rf h, fun Q bc bs kk ls l3 l2 l1 l0 => ?_⟩
    refine r_iload_n (q129 (i := 61) rfl) l3 ?_
    refine r_sipush (v := 1002) (q129 (i := 62) rfl) (by decide) ?_
    refine r_icmp 145 (q129 (i := 63) rfl) (by decide) (fun _ => ?_) (fun zz => absurd (show 1002 ≤ nI 1002 from Int32.le_refl _) zz)
    exact kk ls l2 l1 l0
  | succ m ih =>
    intro i h hm X T
    have S := X.1.1
    have d1 := (X.2.1 i (by omega)).1
    by_cases q : tD t i ≠ 0 ∧ tD t i ≤ tn t
    · have F1 : FrTh h (sI (sI h 1325 i 1) 1324 i (hI h 1078 i)) := (FrTh.w (by decide) _ _).tr (FrTh.w (by decide) _ _)
      obtain ⟨h', a1, a2, K⟩ := ih (i + 1) (sI (sI h 1325 i 1) 1324 i (hI h 1078 i)) (by omega) (F1.X X) (fun p hp => by
        show u1 (hI h 1325) i 1 p = _ ∧ u1 (hI h 1324) i (hI h 1078 i) p = hI h 1078 p
        by_cases e : p = i
        · rw [e, u1_s, u1_s]
          exact ⟨by rw [decide_eq_true q]; rfl, rfl⟩
        · rw [u1_n e, u1_n e]; exact T p (by omega))
      refine ⟨h', a1, F1.tr a2, fun Q bc bs kk ls l3 l2 l1 l0 => ?_⟩
      refine r_iload_n (q129 (i := 61) rfl) l3 ?_
      refine r_sipush (v := 1002) (q129 (i := 62) rfl) (by decide) ?_
      refine r_icmp 145 (q129 (i := 63) rfl) (by decide) (fun zz => absurd zz (show ¬ (1002 ≤ nI i) from nI_ge (b := 1002) (by omega) (by decide))) (fun _ => ?_)
      refine r_aload_n (q129 (i := 64) rfl) l0 ?_
      refine r_getR (b := 1325) (q129 (i := 65) rfl) rfl (by decide) (k_47 S) (fun _ _ _ => rfl) (r_47_40 S) ?_
      refine r_iload_n (q129 (i := 66) rfl) l3 ?_
      refine r_aload_n (q129 (i := 67) rfl) l0 ?_
      refine r_getR (b := 1077) (q129 (i := 68) rfl) rfl (by decide) (k_47 S) (fun _ _ _ => rfl) (r_47_32 S) ?_
      refine r_iload_n (q129 (i := 69) rfl) l3 ?_
      refine r_iaN (x := nI (if tD t i = 0 then 0 else if tD t i ≤ tn t then 1 else 2)) (q129 (i := 70) rfl) (k_1077 S) (by omega) (by decide) d1 ?_
      refine r_iconst (v := 1) (q129 (i := 71) rfl) (by decide) ?_
      refine r_icmp 125 (q129 (i := 72) rfl) (by decide) (fun zz => absurd zz (show ¬ (¬ nI (if tD t i = 0 then 0 else if tD t i ≤ tn t then 1 else 2) = 1) from fun y => y (by rw [if_neg q.1, if_pos q.2]; rfl))) (fun _ => ?_)
      refine r_iconst (v := 1) (q129 (i := 73) rfl) (by decide) ?_
      refine r_goto 126 (q129 (i := 74) rfl) (by decide) ?_
      refine r_zasN (y := 1) (q129 (i := 76) rfl) (k_1325 S) (by omega) (by decide) nb1 ?_
      refine r_aload_n (q129 (i := 77) rfl) l0 ?_
      refine r_getR (b := 1324) (q129 (i := 78) rfl) rfl (by decide) (k_47 S) (fun _ _ _ => rfl) (r_47_39 S) ?_
      refine r_iload_n (q129 (i := 79) rfl) l3 ?_
      refine r_aload_n (q129 (i := 80) rfl) l0 ?_
      refine r_getR (b := 1078) (q129 (i := 81) rfl) rfl (by decide) (k_47 S) (fun _ _ _ => rfl) (r_47_33 S) ?_
      refine r_iload_n (q129 (i := 82) rfl) l3 ?_
      refine r_iaN (x := hI h 1078 i) (q129 (i := 83) rfl) (k_1078 S) (by omega) (by decide) rfl ?_
      refine r_iasN (q129 (i := 84) rfl) (k_1324 S) (by omega) (by decide) ?_
      refine r_iinc (y := nI (i + 1)) (q129 (i := 85) rfl) (Nat.le_of_ble_eq_true rfl) l3 (nI_1 i) rfl ?_
      have l2 := lk1 (k := 3) (v := .int (nI (i + 1))) l2 (by decide) (Or.inl rfl)
      have l1 := lk1 (k := 3) (v := .int (nI (i + 1))) l1 (by decide) (Or.inr (by decide))
      have l0 := lk1 (k := 3) (v := .int (nI (i + 1))) l0 (by decide) (Or.inr (by decide))
      have l3 := lk0 ls 3 (.int (nI (i + 1)))
      generalize lset1 ls 3 (.int (nI (i + 1))) = ls at l3 l2 l1 l0 ⊢
      refine r_goto 99 (q129 (i := 86) rfl) (by decide) ?_
      exact K Q bc bs kk ls l3 l2 l1 l0
    · have F1 : FrTh h (sI (sI h 1325 i 0) 1324 i (hI h 1078 i)) := (FrTh.w (by decide) _ _).tr (FrTh.w (by decide) _ _)
      obtain ⟨h', a1, a2, K⟩ := ih (i + 1) (sI (sI h 1325 i 0) 1324 i (hI h 1078 i)) (by omega) (F1.X X) (fun p hp => by
        show u1 (hI h 1325) i 0 p = _ ∧ u1 (hI h 1324) i (hI h 1078 i) p = hI h 1078 p
        by_cases e : p = i
        · rw [e, u1_s, u1_s]
          exact ⟨by rw [decide_eq_false q]; rfl, rfl⟩
        · rw [u1_n e, u1_n e]; exact T p (by omega))
      refine ⟨h', a1, F1.tr a2, fun Q bc bs kk ls l3 l2 l1 l0 => ?_⟩
      refine r_iload_n (q129 (i := 61) rfl) l3 ?_
      refine r_sipush (v := 1002) (q129 (i := 62) rfl) (by decide) ?_
      refine r_icmp 145 (q129 (i := 63) rfl) (by decide) (fun zz => absurd zz (show ¬ (1002 ≤ nI i) from nI_ge (b := 1002) (by omega) (by decide))) (fun _ => ?_)
      refine r_aload_n (q129 (i := 64) rfl) l0 ?_
      refine r_getR (b := 1325) (q129 (i := 65) rfl) rfl (by decide) (k_47 S) (fun _ _ _ => rfl) (r_47_40 S) ?_
      refine r_iload_n (q129 (i := 66) rfl) l3 ?_
      refine r_aload_n (q129 (i := 67) rfl) l0 ?_
      refine r_getR (b := 1077) (q129 (i := 68) rfl) rfl (by decide) (k_47 S) (fun _ _ _ => rfl) (r_47_32 S) ?_
      refine r_iload_n (q129 (i := 69) rfl) l3 ?_
      refine r_iaN (x := nI (if tD t i = 0 then 0 else if tD t i ≤ tn t then 1 else 2)) (q129 (i := 70) rfl) (k_1077 S) (by omega) (by decide) d1 ?_
      refine r_iconst (v := 1) (q129 (i := 71) rfl) (by decide) ?_
      refine r_icmp 125 (q129 (i := 72) rfl) (by decide) (fun _ => ?_) (fun zz => absurd (show ¬ nI (if tD t i = 0 then 0 else if tD t i ≤ tn t then 1 else 2) = 1 from fun y => q (by split at y; exact absurd y (by decide); split at y; exact ⟨by assumption, by assumption⟩; exact absurd y (by decide))) zz)
      refine r_iconst (v := 0) (q129 (i := 75) rfl) (by decide) ?_
      refine r_zasN (y := 0) (q129 (i := 76) rfl) (k_1325 S) (by omega) (by decide) nb0 ?_
      refine r_aload_n (q129 (i := 77) rfl) l0 ?_
      refine r_getR (b := 1324) (q129 (i := 78) rfl) rfl (by decide) (k_47 S) (fun _ _ _ => rfl) (r_47_39 S) ?_
      refine r_iload_n (q129 (i := 79) rfl) l3 ?_
      refine r_aload_n (q129 (i := 80) rfl) l0 ?_
      refine r_getR (b := 1078) (q129 (i := 81) rfl) rfl (by decide) (k_47 S) (fun _ _ _ => rfl) (r_47_33 S) ?_
      refine r_iload_n (q129 (i := 82) rfl) l3 ?_
      refine r_iaN (x := hI h 1078 i) (q129 (i := 83) rfl) (k_1078 S) (by omega) (by decide) rfl ?_
      refine r_iasN (q129 (i := 84) rfl) (k_1324 S) (by omega) (by decide) ?_
      refine r_iinc (y := nI (i + 1)) (q129 (i := 85) rfl) (Nat.le_of_ble_eq_true rfl) l3 (nI_1 i) rfl ?_
      have l2 := lk1 (k := 3) (v := .int (nI (i + 1))) l2 (by decide) (Or.inl rfl)
      have l1 := lk1 (k := 3) (v := .int (nI (i + 1))) l1 (by decide) (Or.inr (by decide))
      have l0 := lk1 (k := 3) (v := .int (nI (i + 1))) l0 (by decide) (Or.inr (by decide))
      have l3 := lk0 ls 3 (.int (nI (i + 1)))
      generalize lset1 ls 3 (.int (nI (i + 1))) = ls at l3 l2 l1 l0 ⊢
      refine r_goto 99 (q129 (i := 86) rfl) (by decide) ?_
      exact K Q bc bs kk ls l3 l2 l1 l0
/-- the inputs are there; the constant if the text has it -/
theorem TH0_no {h : hp} {t : txt} (X : XTm h t) (T : TH0 h t 1002) : THS h t false (fun _ => none) := fun v hv => by
  obtain ⟨a, b⟩ := T v hv
  have e : thv t false (fun _ => none) v = decide (tD t v ≠ 0 ∧ tD t v ≤ tn t) := by
    unfold thv
    by_cases y : v = 0
    · rw [if_pos y, y, X.2.2.2.1.1]; rfl
    · rw [if_neg y]
      by_cases w : tD t v = 0
      · rw [if_pos w, decide_eq_false (fun u => u.1 w)]
      · rw [if_neg w]
        by_cases u : tD t v ≤ tn t
        · rw [if_pos u, decide_eq_true ⟨w, u⟩]
        · rw [if_neg u, decide_eq_false (fun k => u k.2)]; rfl
  refine ⟨by rw [e]; exact a, fun y => ?_⟩
  rw [e] at y
  have y := of_decide_eq_true y
  have d2 := (X.2.1 v hv).2 y.1
  rw [if_pos y.2] at d2
  rw [b, d2]
  have v0 : v ≠ 0 := fun w => y.1 (by rw [w]; exact X.2.2.2.1.1)
  congr 1
  unfold sgn AO
  rw [show 2 * v / 2 = v by omega, if_neg v0, if_neg (by omega)]
theorem THS_yes {h : hp} {t : txt} (T : THS h t false (fun _ => none)) (x : Int32) (hx : x = nI (tn t)) : THS (sI (sI h 1325 0 1) 1324 0 x) t true (fun _ => none) := fun v hv => by
  show u1 (hI h 1325) 0 1 v = _ ∧ (_ → u1 (hI h 1324) 0 x v = _)
  by_cases e : v = 0
  · rw [e, u1_s, u1_s]
    exact ⟨rfl, fun _ => hx⟩
  · rw [u1_n e, u1_n e]
    have et : thv t true (fun _ => none) v = thv t false (fun _ => none) v := by
      unfold thv
      rw [if_neg e, if_neg e]
    have es : sgn t true (fun _ => none) (2 * v) = sgn t false (fun _ => none) (2 * v) ∨ thv t false (fun _ => none) v = false := by
      unfold thv
      rw [if_neg e]
      by_cases w : tD t v = 0
      · rw [if_pos w]; exact Or.inr rfl
      · rw [if_neg w]
        by_cases u : tD t v ≤ tn t
        · refine Or.inl ?_
          unfold sgn AO
          rw [show 2 * v / 2 = v by omega, if_neg e, if_neg e, if_neg (by omega)]
        · rw [if_neg u]; exact Or.inr rfl
    rw [et]
    refine ⟨(T v hv).1, fun y => ?_⟩
    rcases es with es | es
    · rw [es]; exact (T v hv).2 y
    · rw [es] at y; exact absurd y (by decide)
