set_option maxHeartbeats 2000000 in
set_option maxRecDepth 10000 in
theorem rd_96 {h : hp} (S : Sh h) {e : Nat × Nat} (ft : FTM h (some e)) {x : Int32} {Q : resP} {bc bs : Nat} (hQ : Q (some (.int (nI e.1))) (sI h 47 25 0)) (ls : List (Nat × Value)) (l2 : ls.lookup 2 = some (.int 0)) (l1 : ls.lookup 1 = some (.int x)) (l0 : ls.lookup 0 = some (.ref 47)) : Wp (Ex 7) 130 Q 96 ls [] h bc bs := by
  refine r_aload_n (q130 (i := 53) rfl) l0 ?_
  refine r_iconst (v := 0) (q130 (i := 54) rfl) (by decide) ?_
  refine r_putI (q130 (i := 55) rfl) rfl (by decide) (k_47 S) rfl rfl ?_
  refine r_iload_n (q130 (i := 56) rfl) l2 ?_
  refine r_if 110 (q130 (i := 57) rfl) (by decide) (fun _ => ?_) (fun zz => absurd (show (0 : Int32) = 0 from by decide) zz)
  refine r_aload_n (q130 (i := 61) rfl) l0 ?_
  refine r_getI (x := nI e.1) (q130 (i := 62) rfl) rfl (by decide) (k_47 S) (fun _ _ _ => rfl) ft.1 ?_
  exact r_iret (q130 (i := 63) rfl) rfl hQ
set_option maxHeartbeats 2000000 in
set_option maxRecDepth 10000 in
theorem rd_51 {h : hp} (S : Sh h) {e : Nat × Nat} (ft : FTM h (some e)) {x : Int32} {Q : resP} {bc bs : Nat} (hQ : Q (some (.int (nI e.1))) (sI h 47 25 0)) (ls : List (Nat × Value)) (l2 : ls.lookup 2 = some (.int 0)) (l1 : ls.lookup 1 = some (.int x)) (l0 : ls.lookup 0 = some (.ref 47)) : Wp (Ex 7) 130 Q 51 ls [] h bc bs := by
  refine r_iconst (v := nI 0) (q130 (i := 27) rfl) (by decide) ?_
  refine r_istore_n (ls' := lset1 ls 3 (.int (nI 0))) (q130 (i := 28) rfl) (Nat.le_of_ble_eq_true rfl) rfl ?_
  have l2 := lk1 (k := 3) (v := .int (nI 0)) l2 (by decide) (Or.inl rfl)
  have l1 := lk1 (k := 3) (v := .int (nI 0)) l1 (by decide) (Or.inr (by decide))
  have l0 := lk1 (k := 3) (v := .int (nI 0)) l0 (by decide) (Or.inr (by decide))
  have l3 := lk0 ls 3 (.int (nI 0))
  generalize lset1 ls 3 (.int (nI 0)) = ls at l3 l2 l1 l0 ⊢
  refine r_iload_n (q130 (i := 29) rfl) l3 ?_
  refine r_aload_n (q130 (i := 30) rfl) l0 ?_
  refine r_getR (b := 1075) (q130 (i := 31) rfl) rfl (by decide) (k_47 S) (fun _ _ _ => rfl) (r_47_30 S) ?_
  refine r_iconst (v := 4) (q130 (i := 32) rfl) (by decide) ?_
  refine r_iaload (x := hI h 1075 4) (q130 (i := 33) rfl) (k_1075 S) (vp_in_nI (n := 4) (by decide) (by decide)) rfl ?_
  refine r_icmp 96 (q130 (i := 34) rfl) (by decide) (fun c60 => ?_) (fun c60 => ?_)
  · have c60 : hI h 1075 4 ≤ nI 0 := c60
    exact rd_96 S ft hQ ls l2 l1 l0
  · have c60 : ¬ (hI h 1075 4 ≤ nI 0) := c60
    refine r_iload_n (q130 (i := 35) rfl) l2 ?_
    refine r_if 96 (q130 (i := 36) rfl) (by decide) (fun _ => ?_) (fun zz => absurd (show (0 : Int32) = 0 from by decide) zz)
    exact rd_96 S ft hQ ls l2 l1 l0
