/-! ===== literalOf, Arrays.fill, Long.bitCount ===== -/
theorem hasS_ne {n s : Int32} (h : ¬ hasS n s = 0) : pl s < n := by
  unfold hasS at h
  split at h
  · assumption
  · exact absurd rfl h
theorem hasS_eq {n s : Int32} (h : hasS n s = 0) : ¬ pl s < n := by
  unfold hasS at h
  split at h
  · exact absurd h (by decide)
  · assumption
theorem pl_pos {s : Int32} (h : 0 ≤ s) : pl s = s := by unfold pl; rw [if_neg (nlt0 h)]
set_option maxHeartbeats 2000000 in
set_option maxRecDepth 10000 in
theorem sp_literalOf_3 {d : Nat} {h : hp} (S : Sh h) {m : Nat} (hm : hI h 3 6 + hI h 3 7 = nI m) (hm1 : m ≤ 132) (s : Int32) : Run (d + 2 + 1) 37 [.ref 3, .int s] h 0 0 (some (.int (litS (hI h 9) (nI m) s))) h := by
  refine Run.of (Nat.le_of_ble_eq_true rfl) (fun Q hQ => ?_)
  show Wp (Ex (d + 2)) 37 Q 0 [(0, .ref 3), (1, .int s)] [] h 0 0
  refine r_aload_n (q37 (i := 0) rfl) rfl ?_
  refine r_iload_n (q37 (i := 1) rfl) rfl ?_
  refine r_cV (d := _) (q37 (i := 2) rfl) rfl rfl rfl (k_3 S) (Nat.le_of_ble_eq_true rfl) (Nat.zero_le _) (Nat.zero_le _) (sp_hasSignal_3 S s) ?_
  show Wp _ _ _ 5 [(0, .ref 3), (1, .int s)] [.int (hasS (hI h 3 6 + hI h 3 7) s)] h _ _
  refine r_if 10 (q37 (i := 3) rfl) (by decide) (fun c5 => ?_) (fun c5 => ?_)
  · have c5 : ¬ hasS (hI h 3 6 + hI h 3 7) s = 0 := c5
    have hp : pl s < nI m := by rw [← hm]; exact hasS_ne c5
    refine r_iload_n (q37 (i := 6) rfl) rfl ?_
    refine r_if 28 (q37 (i := 7) rfl) (by decide) (fun c => ?_) (fun c => ?_)
    · have c : 0 ≤ s := c
      obtain ⟨k, hk, e⟩ := pl_nat s (by omega) hp
      refine r_aload_n (q37 (i := 16) rfl) rfl ?_
      refine r_getR (b := 9) (q37 (i := 17) rfl) rfl (by decide) (k_3 S) (fun _ _ _ => rfl) (r_3_5 S) ?_
      refine r_iload_n (q37 (i := 18) rfl) rfl ?_
      refine r_iaload (x := hI h 9 s.toNatClampNeg) (q37 (i := 19) rfl) (k_9 S) (by rw [← pl_pos c, e]; exact vp_in_nI (by omega) (by decide)) rfl ?_
      exact r_iret (q37 (i := 20) rfl) rfl (by unfold litS at hQ; rw [if_pos hp] at hQ; first | (rw [if_pos (lt0 c)] at hQ; exact hQ) | (rw [if_neg (nlt0 c)] at hQ; exact hQ))
    · have c : ¬ (0 ≤ s) := c
      obtain ⟨k, hk, e⟩ := pl_nat s (by omega) hp
      refine r_aload_n (q37 (i := 8) rfl) rfl ?_
      refine r_getR (b := 9) (q37 (i := 9) rfl) rfl (by decide) (k_3 S) (fun _ _ _ => rfl) (r_3_5 S) ?_
      refine r_iload_n (q37 (i := 10) rfl) rfl ?_
      refine r_cS (d := _) (q37 (i := 11) rfl) rfl (Nat.le_of_ble_eq_true rfl) rfl rfl (Nat.le_of_ble_eq_true rfl) (Nat.zero_le _) (Nat.zero_le _) (sp_plain s) ?_
      show Wp _ _ _ 22 [(0, .ref 3), (1, .int s)] [.int (pl s), .ref 9] h _ _
      refine r_iaload (x := hI h 9 (pl s).toNatClampNeg) (q37 (i := 12) rfl) (k_9 S) (by rw [e]; exact vp_in_nI (by omega) (by decide)) rfl ?_
      refine r_iconst (v := 1) (q37 (i := 13) rfl) (by decide) ?_
      refine r_ixor (q37 (i := 14) rfl) ?_
      refine r_goto 34 (q37 (i := 15) rfl) (by decide) ?_
      exact r_iret (q37 (i := 20) rfl) rfl (by unfold litS at hQ; rw [if_pos hp] at hQ; first | (rw [if_pos (lt0 c)] at hQ; exact hQ) | (rw [if_neg (nlt0 c)] at hQ; exact hQ))
  · have c5 : ¬ (¬ hasS (hI h 3 6 + hI h 3 7) s = 0) := c5
    have c5 : hasS (hI h 3 6 + hI h 3 7) s = 0 := Classical.not_not.mp c5
    have hp : ¬ pl s < nI m := by rw [← hm]; exact hasS_eq c5
    refine r_iconst (v := 0) (q37 (i := 4) rfl) (by decide) ?_
    exact r_iret (q37 (i := 5) rfl) rfl (by unfold litS at hQ; rw [if_neg hp] at hQ; exact hQ)
set_option maxHeartbeats 2000000 in
set_option maxRecDepth 10000 in
theorem sp_literalOf_10 {d : Nat} {h : hp} (S : Sh h) {m : Nat} (hm : hI h 10 6 + hI h 10 7 = nI m) (hm1 : m ≤ 132) (s : Int32) : Run (d + 2 + 1) 37 [.ref 10, .int s] h 0 0 (some (.int (litS (hI h 16) (nI m) s))) h := by
  refine Run.of (Nat.le_of_ble_eq_true rfl) (fun Q hQ => ?_)
  show Wp (Ex (d + 2)) 37 Q 0 [(0, .ref 10), (1, .int s)] [] h 0 0
  refine r_aload_n (q37 (i := 0) rfl) rfl ?_
  refine r_iload_n (q37 (i := 1) rfl) rfl ?_
  refine r_cV (d := _) (q37 (i := 2) rfl) rfl rfl rfl (k_10 S) (Nat.le_of_ble_eq_true rfl) (Nat.zero_le _) (Nat.zero_le _) (sp_hasSignal_10 S s) ?_
  show Wp _ _ _ 5 [(0, .ref 10), (1, .int s)] [.int (hasS (hI h 10 6 + hI h 10 7) s)] h _ _
  refine r_if 10 (q37 (i := 3) rfl) (by decide) (fun c5 => ?_) (fun c5 => ?_)
  · have c5 : ¬ hasS (hI h 10 6 + hI h 10 7) s = 0 := c5
    have hp : pl s < nI m := by rw [← hm]; exact hasS_ne c5
    refine r_iload_n (q37 (i := 6) rfl) rfl ?_
    refine r_if 28 (q37 (i := 7) rfl) (by decide) (fun c => ?_) (fun c => ?_)
    · have c : 0 ≤ s := c
      obtain ⟨k, hk, e⟩ := pl_nat s (by omega) hp
      refine r_aload_n (q37 (i := 16) rfl) rfl ?_
      refine r_getR (b := 16) (q37 (i := 17) rfl) rfl (by decide) (k_10 S) (fun _ _ _ => rfl) (r_10_5 S) ?_
      refine r_iload_n (q37 (i := 18) rfl) rfl ?_
      refine r_iaload (x := hI h 16 s.toNatClampNeg) (q37 (i := 19) rfl) (k_16 S) (by rw [← pl_pos c, e]; exact vp_in_nI (by omega) (by decide)) rfl ?_
      exact r_iret (q37 (i := 20) rfl) rfl (by unfold litS at hQ; rw [if_pos hp] at hQ; first | (rw [if_pos (lt0 c)] at hQ; exact hQ) | (rw [if_neg (nlt0 c)] at hQ; exact hQ))
    · have c : ¬ (0 ≤ s) := c
      obtain ⟨k, hk, e⟩ := pl_nat s (by omega) hp
      refine r_aload_n (q37 (i := 8) rfl) rfl ?_
      refine r_getR (b := 16) (q37 (i := 9) rfl) rfl (by decide) (k_10 S) (fun _ _ _ => rfl) (r_10_5 S) ?_
      refine r_iload_n (q37 (i := 10) rfl) rfl ?_
      refine r_cS (d := _) (q37 (i := 11) rfl) rfl (Nat.le_of_ble_eq_true rfl) rfl rfl (Nat.le_of_ble_eq_true rfl) (Nat.zero_le _) (Nat.zero_le _) (sp_plain s) ?_
      show Wp _ _ _ 22 [(0, .ref 10), (1, .int s)] [.int (pl s), .ref 16] h _ _
      refine r_iaload (x := hI h 16 (pl s).toNatClampNeg) (q37 (i := 12) rfl) (k_16 S) (by rw [e]; exact vp_in_nI (by omega) (by decide)) rfl ?_
      refine r_iconst (v := 1) (q37 (i := 13) rfl) (by decide) ?_
      refine r_ixor (q37 (i := 14) rfl) ?_
      refine r_goto 34 (q37 (i := 15) rfl) (by decide) ?_
      exact r_iret (q37 (i := 20) rfl) rfl (by unfold litS at hQ; rw [if_pos hp] at hQ; first | (rw [if_pos (lt0 c)] at hQ; exact hQ) | (rw [if_neg (nlt0 c)] at hQ; exact hQ))
  · have c5 : ¬ (¬ hasS (hI h 10 6 + hI h 10 7) s = 0) := c5
    have c5 : hasS (hI h 10 6 + hI h 10 7) s = 0 := Classical.not_not.mp c5
    have hp : ¬ pl s < nI m := by rw [← hm]; exact hasS_eq c5
    refine r_iconst (v := 0) (q37 (i := 4) rfl) (by decide) ?_
    exact r_iret (q37 (i := 5) rfl) rfl (by unfold litS at hQ; rw [if_neg hp] at hQ; exact hQ)
/-- what a fill has done, i places in -/
def filI (f : Nat → Int32) (v : Int32) (i : Nat) : Nat → Int32 := fun q => if q < i then v else f q
theorem filI_s (f : Nat → Int32) (v : Int32) (i : Nat) : u1 (filI f v i) i v = filI f v (i + 1) := by
  funext q
  unfold u1 filI
  by_cases e : q = i
  · rw [if_pos e, if_pos (by omega)]
  · rw [if_neg e]
    by_cases e2 : q < i
    · rw [if_pos e2, if_pos (by omega)]
    · rw [if_neg e2, if_neg (by omega)]
theorem filI_0 (f : Nat → Int32) (v : Int32) : filI f v 0 = f := by
  funext q
  exact if_neg (Nat.not_lt_zero q)
set_option maxHeartbeats 2000000 in
set_option maxRecDepth 10000 in
theorem lp_fillI {d : Nat} {h : hp} {a n : Nat} (hk : hK h a = (1, n)) (hn : n < 2 ^ 31) (v : Int32) {Q : resP} (hQ : Q none (rI h a (filI (hI h a) v n))) {bc bs : Nat} : ∀ (k i : Nat), i + k = n → ∀ ls : List (Nat × Value), ls.lookup 2 = some (.int (nI i)) → ls.lookup 3 = some (.int (nI n)) → ls.lookup 0 = some (.ref a) → ls.lookup 1 = some (.int v) → Wp (Ex d) 162 Q 5 ls [] (rI h a (filI (hI h a) v i)) bc bs := by
  intro k
  induction k with
  | zero =>
    intro i hi ls l2 l3 l0 l1
    have e : i = n := by omega
    subst e
    refine r_iload_n (q162 (i := 5) rfl) l2 ?_
    refine r_iload_n (q162 (i := 6) rfl) l3 ?_
    refine r_icmp 20 (q162 (i := 7) rfl) (by decide) (fun _ => ?_) (fun c => absurd (show nI i ≤ nI i from Int32.le_refl _) c)
    exact r_vret (q162 (i := 14) rfl) rfl hQ
  | succ k ih =>
    intro i hi ls l2 l3 l0 l1
    refine r_iload_n (q162 (i := 5) rfl) l2 ?_
    refine r_iload_n (q162 (i := 6) rfl) l3 ?_
    refine r_icmp 20 (q162 (i := 7) rfl) (by decide) (fun c => absurd c (show ¬ (nI n ≤ nI i) from nI_ge (by omega) hn)) (fun _ => ?_)
    refine r_aload_n (q162 (i := 8) rfl) l0 ?_
    refine r_iload_n (q162 (i := 9) rfl) l2 ?_
    refine r_iload_n (q162 (i := 10) rfl) l1 ?_
    refine r_iasN (q162 (i := 11) rfl) hk (by omega) hn ?_
    rw [sI_rI, filI_s]
    refine r_iinc (y := nI (i + 1)) (q162 (i := 12) rfl) (Nat.le_of_ble_eq_true rfl) l2 (nI_1 i) rfl ?_
    have l3 := lk1 (k := 2) (v := .int (nI (i + 1))) l3 (by decide) (Or.inr (by decide))
    have l0 := lk1 (k := 2) (v := .int (nI (i + 1))) l0 (by decide) (Or.inr (by decide))
    have l1 := lk1 (k := 2) (v := .int (nI (i + 1))) l1 (by decide) (Or.inl rfl)
    have l2 := lk0 ls 2 (.int (nI (i + 1)))
    generalize lset1 ls 2 (.int (nI (i + 1))) = ls at l2 l3 l0 l1 ⊢
    refine r_goto 5 (q162 (i := 13) rfl) (by decide) ?_
    exact ih (i + 1) (by omega) ls l2 l3 l0 l1
set_option maxHeartbeats 2000000 in
set_option maxRecDepth 10000 in
theorem sp_fillI {d : Nat} {h : hp} {a n : Nat} (hk : hK h a = (1, n)) (hn : n < 2 ^ 31) (v : Int32) : Run (d + 1) 162 [.ref a, .int v] h 0 0 none (rI h a (filI (hI h a) v n)) := by
  refine Run.of (Nat.le_of_ble_eq_true rfl) (fun Q hQ => ?_)
  show Wp (Ex (d)) 162 Q 0 [(0, .ref a), (1, .int v)] [] h 0 0
  refine r_iconst (v := 0) (q162 (i := 0) rfl) (by decide) ?_
  refine r_istore_n (ls' := [(2, .int 0), (0, .ref a), (1, .int v)]) (q162 (i := 1) rfl) (Nat.le_of_ble_eq_true rfl) rfl ?_
  refine r_aload_n (q162 (i := 2) rfl) rfl ?_
  refine r_alen (q162 (i := 3) rfl) hk (by decide) (by decide) ?_
  refine r_istore_n (ls' := [(3, .int (Int32.ofNat n)), (2, .int 0), (0, .ref a), (1, .int v)]) (q162 (i := 4) rfl) (Nat.le_of_ble_eq_true rfl) rfl ?_
  have e : h = rI h a (filI (hI h a) v 0) := by rw [filI_0, rI_self]
  conv => arg 7; rw [e]
  exact lp_fillI hk hn v hQ n 0 (by omega) _ rfl rfl rfl rfl
/-- what a fill has done, i places in -/
def filJ (f : Nat → Int64) (v : Int64) (i : Nat) : Nat → Int64 := fun q => if q < i then v else f q
theorem filJ_s (f : Nat → Int64) (v : Int64) (i : Nat) : u1 (filJ f v i) i v = filJ f v (i + 1) := by
  funext q
  unfold u1 filJ
  by_cases e : q = i
  · rw [if_pos e, if_pos (by omega)]
  · rw [if_neg e]
    by_cases e2 : q < i
    · rw [if_pos e2, if_pos (by omega)]
    · rw [if_neg e2, if_neg (by omega)]
theorem filJ_0 (f : Nat → Int64) (v : Int64) : filJ f v 0 = f := by
  funext q
  exact if_neg (Nat.not_lt_zero q)
set_option maxHeartbeats 2000000 in
set_option maxRecDepth 10000 in
theorem lp_fillJ {d : Nat} {h : hp} {a n : Nat} (hk : hK h a = (2, n)) (hn : n < 2 ^ 31) (v : Int64) {Q : resP} (hQ : Q none (rJ h a (filJ (hJ h a) v n))) {bc bs : Nat} : ∀ (k i : Nat), i + k = n → ∀ ls : List (Nat × Value), ls.lookup 3 = some (.int (nI i)) → ls.lookup 4 = some (.int (nI n)) → ls.lookup 0 = some (.ref a) → ls.lookup 1 = some (.long v) → Wp (Ex d) 161 Q 6 ls [] (rJ h a (filJ (hJ h a) v i)) bc bs := by
  intro k
  induction k with
  | zero =>
    intro i hi ls l3 l4 l0 l1
    have e : i = n := by omega
    subst e
    refine r_iload_n (q161 (i := 5) rfl) l3 ?_
    refine r_iload (q161 (i := 6) rfl) l4 ?_
    refine r_icmp 22 (q161 (i := 7) rfl) (by decide) (fun _ => ?_) (fun c => absurd (show nI i ≤ nI i from Int32.le_refl _) c)
    exact r_vret (q161 (i := 14) rfl) rfl hQ
  | succ k ih =>
    intro i hi ls l3 l4 l0 l1
    refine r_iload_n (q161 (i := 5) rfl) l3 ?_
    refine r_iload (q161 (i := 6) rfl) l4 ?_
    refine r_icmp 22 (q161 (i := 7) rfl) (by decide) (fun c => absurd c (show ¬ (nI n ≤ nI i) from nI_ge (by omega) hn)) (fun _ => ?_)
    refine r_aload_n (q161 (i := 8) rfl) l0 ?_
    refine r_iload_n (q161 (i := 9) rfl) l3 ?_
    refine r_lload_n (q161 (i := 10) rfl) l1 ?_
    refine r_lasN (q161 (i := 11) rfl) hk (by omega) hn ?_
    rw [sJ_rJ, filJ_s]
    refine r_iinc (y := nI (i + 1)) (q161 (i := 12) rfl) (Nat.le_of_ble_eq_true rfl) l3 (nI_1 i) rfl ?_
    have l4 := lk1 (k := 3) (v := .int (nI (i + 1))) l4 (by decide) (Or.inr (by decide))
    have l0 := lk1 (k := 3) (v := .int (nI (i + 1))) l0 (by decide) (Or.inr (by decide))
    have l1 := lk1 (k := 3) (v := .int (nI (i + 1))) l1 (by decide) (Or.inr (by decide))
    have l3 := lk0 ls 3 (.int (nI (i + 1)))
    generalize lset1 ls 3 (.int (nI (i + 1))) = ls at l3 l4 l0 l1 ⊢
    refine r_goto 6 (q161 (i := 13) rfl) (by decide) ?_
    exact ih (i + 1) (by omega) ls l3 l4 l0 l1
set_option maxHeartbeats 2000000 in
set_option maxRecDepth 10000 in
theorem sp_fillJ {d : Nat} {h : hp} {a n : Nat} (hk : hK h a = (2, n)) (hn : n < 2 ^ 31) (v : Int64) : Run (d + 1) 161 [.ref a, .long v] h 0 0 none (rJ h a (filJ (hJ h a) v n)) := by
  refine Run.of (Nat.le_of_ble_eq_true rfl) (fun Q hQ => ?_)
  show Wp (Ex (d)) 161 Q 0 [(0, .ref a), (1, .long v)] [] h 0 0
  refine r_iconst (v := 0) (q161 (i := 0) rfl) (by decide) ?_
  refine r_istore_n (ls' := [(3, .int 0), (0, .ref a), (1, .long v)]) (q161 (i := 1) rfl) (Nat.le_of_ble_eq_true rfl) rfl ?_
  refine r_aload_n (q161 (i := 2) rfl) rfl ?_
  refine r_alen (q161 (i := 3) rfl) hk (by decide) (by decide) ?_
  refine r_istore (ls' := [(4, .int (Int32.ofNat n)), (3, .int 0), (0, .ref a), (1, .long v)]) (q161 (i := 4) rfl) (Nat.le_of_ble_eq_true rfl) rfl ?_
  have e : h = rJ h a (filJ (hJ h a) v 0) := by rw [filJ_0, rJ_self]
  conv => arg 7; rw [e]
  exact lp_fillJ hk hn v hQ n 0 (by omega) _ rfl rfl rfl rfl
