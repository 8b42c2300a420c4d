theorem neg6 {L i : Nat} (h : L < 6) (hi : i < 2 ^ 31) : Int32.ofNat L - 6 < nI i := by
  have z : (0 : Int32) ≤ nI i := nI_pos' hi
  rcases (show L = 0 ∨ L = 1 ∨ L = 2 ∨ L = 3 ∨ L = 4 ∨ L = 5 by omega) with e | e | e | e | e | e <;> subst e
  · exact Int32.lt_of_lt_of_le (show Int32.ofNat 0 - 6 < 0 by decide) z
  · exact Int32.lt_of_lt_of_le (show Int32.ofNat 1 - 6 < 0 by decide) z
  · exact Int32.lt_of_lt_of_le (show Int32.ofNat 2 - 6 < 0 by decide) z
  · exact Int32.lt_of_lt_of_le (show Int32.ofNat 3 - 6 < 0 by decide) z
  · exact Int32.lt_of_lt_of_le (show Int32.ofNat 4 - 6 < 0 by decide) z
  · exact Int32.lt_of_lt_of_le (show Int32.ofNat 5 - 6 < 0 by decide) z
set_option maxHeartbeats 2000000 in
set_option maxRecDepth 10000 in
theorem lw_out {L : Nat} {xs : Nat → Int32} {h : hp} {bc bs i : Nat} (X : hK h 0 = (7, L) ∧ hI h 0 = xs) (ex : Int32.ofNat L - 6 < nI i) {Q : resP} (hQ : ∀ h, Q (some (.int 1)) h) (ls : List (Nat × Value)) (l3 : ls.lookup 3 = some (.int (nI i))) (l2 : ls.lookup 2 = some (.ref 47)) (l1 : ls.lookup 1 = some (.ref 2)) (l0 : ls.lookup 0 = some (.ref 0)) : Wp (Ex 8) 0 Q 18 ls [] h bc bs := by
  refine r_iload_n (q0 (i := 10) rfl) l3 ?_
  refine r_aload_n (q0 (i := 11) rfl) l0 ?_
  refine r_alen (q0 (i := 12) rfl) X.1 (by decide) (by decide) ?_
  refine r_bipush (v := 6) (q0 (i := 13) rfl) (by decide) ?_
  refine r_isub (q0 (i := 14) rfl) ?_
  refine r_icmp 711 (q0 (i := 15) rfl) (by decide) (fun _ => ?_) (fun zz => absurd (show (Int32.ofNat L) - 6 < nI i from ex) zz)
  refine r_iconst (v := 1) (q0 (i := 471) rfl) (by decide) ?_
  exact r_zret (q0 (i := 472) rfl) rfl (by decide) (hQ h)
set_option maxHeartbeats 2000000 in
set_option maxRecDepth 10000 in
theorem lp_law {L : Nat} {xs : Nat → Int32} (hL : L ≤ 3072) {Q : resP} (hQ : ∀ h, Q (some (.int 1)) h) : ∀ (m i : Nat), L ≤ i + 6 * m → i ≤ L → ∀ (h : hp) (bc bs : Nat), LI L xs h bc bs → ∀ ls : List (Nat × Value), ls.lookup 3 = some (.int (nI i)) → ls.lookup 2 = some (.ref 47) → ls.lookup 1 = some (.ref 2) → ls.lookup 0 = some (.ref 0) → Wp (Ex 8) 0 Q 18 ls [] h bc bs := by
  intro m
  induction m with
  | zero =>
    intro i hm hi h bc bs l ls l3 l2 l1 l0
    obtain ⟨_, _, _, _, _, _, X, _, _⟩ := l
    refine lw_out X ?_ hQ ls l3 l2 l1 l0
    by_cases y : L < 6
    · exact neg6 y (by omega)
    · show nI L - nI 6 < nI i
      rw [nI_subN (by omega)]; exact nI_lt (by omega) (by omega)
  | succ m ih =>
    intro i hm hi h bc bs l ls l3 l2 l1 l0
    have X : hK h 0 = (7, L) ∧ hI h 0 = xs := by
      obtain ⟨_, _, _, _, _, _, X, _, _⟩ := l
      exact X
    by_cases hi : i + 5 < L
    · have KK : ∀ h' bc' bs', LI L xs h' bc' bs' → ∀ ls : List (Nat × Value), ls.lookup 3 = some (.int (nI i)) → ls.lookup 2 = some (.ref 47) → ls.lookup 1 = some (.ref 2) → ls.lookup 0 = some (.ref 0) → Wp (Ex 8) 0 Q 705 ls [] h' bc' bs' := fun h' bc' bs' l' ls l3 l2 l1 l0 => by
        refine r_iinc (y := nI (i + 6)) (q0 (i := 469) rfl) (Nat.le_of_ble_eq_true rfl) l3 (nI_add i 6) rfl ?_
        have l2 := lk1 (k := 3) (v := .int (nI (i + 6))) l2 (by decide) (Or.inl rfl)
        have l1 := lk1 (k := 3) (v := .int (nI (i + 6))) l1 (by decide) (Or.inr (by decide))
        have l0 := lk1 (k := 3) (v := .int (nI (i + 6))) l0 (by decide) (Or.inr (by decide))
        have l3 := lk0 ls 3 (.int (nI (i + 6)))
        generalize lset1 ls 3 (.int (nI (i + 6))) = ls at l3 l2 l1 l0 ⊢
        refine r_goto 18 (q0 (i := 470) rfl) (by decide) ?_
        exact ih (i + 6) (by omega) (by omega) h' bc' bs' l' ls l3 l2 l1 l0
      obtain ⟨k, hk, ek⟩ := pk_andE (xs i) (m := 31) 5 (by decide)
      refine r_iload_n (q0 (i := 10) rfl) l3 ?_
      refine r_aload_n (q0 (i := 11) rfl) l0 ?_
      refine r_alen (q0 (i := 12) rfl) X.1 (by decide) (by decide) ?_
      refine r_bipush (v := 6) (q0 (i := 13) rfl) (by decide) ?_
      refine r_isub (q0 (i := 14) rfl) ?_
      rw [show ((Int32.ofNat L) - 6 : Int32) = nI (L - 6) from nI_subN (a := L) (b := 6) (by omega)]
      refine r_icmp 711 (q0 (i := 15) rfl) (by decide) (fun zz => absurd zz (show ¬ (nI (L - 6) < nI i) from nI_nlt (by omega) (by omega))) (fun _ => ?_)
      refine r_aload_n (q0 (i := 16) rfl) l0 ?_
      refine r_iload_n (q0 (i := 17) rfl) l3 ?_
      refine r_iaload7 (x := xs i) (q0 (i := 18) rfl) X.1 (vp_in_nI (by omega) (by omega)) (by rw [X.2, nI_clamp (by omega)]) ?_
      refine r_bipush (v := 31) (q0 (i := 19) rfl) (by decide) ?_
      refine r_iand (q0 (i := 20) rfl) ?_
      rw [show ((xs i) &&& 31 : Int32) = nI k from ek]
      rcases (show k = 0 ∨ k = 1 ∨ k = 2 ∨ k = 3 ∨ k = 4 ∨ k = 5 ∨ k = 6 ∨ k = 7 ∨ k = 8 ∨ k = 9 ∨ k = 10 ∨ k = 11 ∨ k = 12 ∨ k = 13 ∨ k = 14 ∨ k = 15 ∨ k = 16 ∨ k = 17 ∨ k = 18 ∨ k = 19 ∨ k = 20 ∨ 20 < k by omega) with e | e | e | e | e | e | e | e | e | e | e | e | e | e | e | e | e | e | e | e | e | e
      · subst e
        refine r_swIn (off := 99) 132 (q0 (i := 21) rfl) (by decide) (by decide) (by decide) (by decide) ?_
        exact lw_0 hL hi l KK ls l3 l2 l1 l0
      · subst e
        refine r_swIn (off := 122) 155 (q0 (i := 21) rfl) (by decide) (by decide) (by decide) (by decide) ?_
        exact lw_1 hL hi l KK ls l3 l2 l1 l0
      · subst e
        refine r_swIn (off := 185) 218 (q0 (i := 21) rfl) (by decide) (by decide) (by decide) (by decide) ?_
        exact lw_2 hL hi l KK ls l3 l2 l1 l0
      · subst e
        refine r_swIn (off := 218) 251 (q0 (i := 21) rfl) (by decide) (by decide) (by decide) (by decide) ?_
        exact lw_3 hL hi l KK ls l3 l2 l1 l0
      · subst e
        refine r_swIn (off := 241) 274 (q0 (i := 21) rfl) (by decide) (by decide) (by decide) (by decide) ?_
        exact lw_4 hL hi l KK ls l3 l2 l1 l0
      · subst e
        refine r_swIn (off := 304) 337 (q0 (i := 21) rfl) (by decide) (by decide) (by decide) (by decide) ?_
        exact lw_5 hL hi l KK ls l3 l2 l1 l0
      · subst e
        refine r_swIn (off := 327) 360 (q0 (i := 21) rfl) (by decide) (by decide) (by decide) (by decide) ?_
        exact lw_6 hL hi l KK ls l3 l2 l1 l0
      · subst e
        refine r_swIn (off := 350) 383 (q0 (i := 21) rfl) (by decide) (by decide) (by decide) (by decide) ?_
        exact lw_7 hL hi l KK ls l3 l2 l1 l0
      · subst e
        refine r_swIn (off := 363) 396 (q0 (i := 21) rfl) (by decide) (by decide) (by decide) (by decide) ?_
        exact lw_8 hL hi l KK ls l3 l2 l1 l0
      · subst e
        refine r_swIn (off := 406) 439 (q0 (i := 21) rfl) (by decide) (by decide) (by decide) (by decide) ?_
        exact lw_9 hL hi l KK ls l3 l2 l1 l0
      · subst e
        refine r_swIn (off := 429) 462 (q0 (i := 21) rfl) (by decide) (by decide) (by decide) (by decide) ?_
        exact lw_10 hL hi l KK ls l3 l2 l1 l0
      · subst e
        refine r_swIn (off := 442) 475 (q0 (i := 21) rfl) (by decide) (by decide) (by decide) (by decide) ?_
        exact lw_11 hL hi l KK ls l3 l2 l1 l0
      · subst e
        refine r_swIn (off := 465) 498 (q0 (i := 21) rfl) (by decide) (by decide) (by decide) (by decide) ?_
        exact lw_12 hL hi l KK ls l3 l2 l1 l0
      · subst e
        refine r_swIn (off := 488) 521 (q0 (i := 21) rfl) (by decide) (by decide) (by decide) (by decide) ?_
        exact lw_13 hL hi l KK ls l3 l2 l1 l0
      · subst e
        refine r_swIn (off := 521) 554 (q0 (i := 21) rfl) (by decide) (by decide) (by decide) (by decide) ?_
        exact lw_14 hL hi l KK ls l3 l2 l1 l0
      · subst e
        refine r_swIn (off := 554) 587 (q0 (i := 21) rfl) (by decide) (by decide) (by decide) (by decide) ?_
        exact lw_15 hL hi l KK ls l3 l2 l1 l0
      · subst e
        refine r_swIn (off := 567) 600 (q0 (i := 21) rfl) (by decide) (by decide) (by decide) (by decide) ?_
        exact lw_16 hL hi l KK ls l3 l2 l1 l0
      · subst e
        refine r_swIn (off := 590) 623 (q0 (i := 21) rfl) (by decide) (by decide) (by decide) (by decide) ?_
        exact lw_17 hL hi l KK ls l3 l2 l1 l0
      · subst e
        refine r_swIn (off := 613) 646 (q0 (i := 21) rfl) (by decide) (by decide) (by decide) (by decide) ?_
        exact lw_18 hL hi l KK ls l3 l2 l1 l0
      · subst e
        refine r_swIn (off := 636) 669 (q0 (i := 21) rfl) (by decide) (by decide) (by decide) (by decide) ?_
        exact lw_19 hL hi l KK ls l3 l2 l1 l0
      · subst e
        refine r_swIn (off := 659) 692 (q0 (i := 21) rfl) (by decide) (by decide) (by decide) (by decide) ?_
        exact lw_20 hL hi l KK ls l3 l2 l1 l0
      · refine r_swOut 705 (q0 (i := 21) rfl) (Or.inr (by rw [nI_toInt (by omega)]; omega)) (by decide) ?_
        exact KK h bc bs l ls l3 l2 l1 l0
    · refine lw_out X ?_ hQ ls l3 l2 l1 l0
      by_cases y : L < 6
      · exact neg6 y (by omega)
      · show nI L - nI 6 < nI i
        rw [nI_subN (by omega)]; exact nI_lt (by omega) (by omega)
set_option maxHeartbeats 2000000 in
set_option maxRecDepth 10000 in
theorem law_pure : lawPure := by
  intro L xs hL
  have B : Bd 2 [] [] L xs (h0 L xs) := ⟨⟨rfl, by decide⟩, ⟨rfl, rfl, rfl, rfl⟩, fun k a b => by omega, fun _ _ _ => rfl, fun _ _ _ => rfl⟩
  generalize h0 L xs = h at B ⊢
  refine b_new B (q0 (i := 0) rfl) rfl (by decide) rfl rfl (Nat.le_of_ble_eq_true rfl) (Nat.le_of_ble_eq_true rfl) (fun h B => ?_)
  refine r_dup (q0 (i := 1) rfl) rfl ?_
  refine b_call (d := 8) (n := 0) (mc := 44) (ms := 20371) (q0 (i := 2) rfl) rfl (Or.inl rfl) rfl rfl (Nat.le_of_ble_eq_true rfl) (Nat.le_of_ble_eq_true rfl) (Nat.le_of_ble_eq_true rfl) (in_8 (d := 6) B) (fun h B => ?_)
  refine r_astore_n (ls' := [(1, .ref 2), (0, .ref 0)]) (q0 (i := 3) rfl) (Nat.le_of_ble_eq_true rfl) rfl ?_
  refine b_new B (q0 (i := 4) rfl) rfl (by decide) rfl rfl (Nat.le_of_ble_eq_true rfl) (Nat.le_of_ble_eq_true rfl) (fun h B => ?_)
  refine r_dup (q0 (i := 5) rfl) rfl ?_
  refine b_call (d := 8) (n := 0) (mc := 1279) (ms := 82514) (q0 (i := 6) rfl) rfl (Or.inl rfl) rfl rfl (Nat.le_of_ble_eq_true rfl) (Nat.le_of_ble_eq_true rfl) (Nat.le_of_ble_eq_true rfl) (in_9 (d := 7) B) (fun h B => ?_)
  refine r_astore_n (ls' := [(2, .ref 47), (1, .ref 2), (0, .ref 0)]) (q0 (i := 7) rfl) (Nat.le_of_ble_eq_true rfl) rfl ?_
  refine r_iconst (v := nI 0) (q0 (i := 8) rfl) (by decide) ?_
  refine r_istore_n (ls' := [(3, .int (nI 0)), (2, .ref 47), (1, .ref 2), (0, .ref 0)]) (q0 (i := 9) rfl) (Nat.le_of_ble_eq_true rfl) rfl ?_
  have B : Bd 1327 D0 W0 L xs h := B
  exact lp_law hL (fun _ => rfl) L 0 (by omega) (Nat.zero_le _) h _ _ ⟨26, 0, s0, B.c, B.m, s0_ok, ⟨B.2.1.2.1, B.2.1.1⟩, (Nat.le_of_ble_eq_true rfl), (Nat.le_of_ble_eq_true rfl)⟩ _ rfl rfl rfl rfl
