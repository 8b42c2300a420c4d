set_option maxHeartbeats 2000000 in
set_option maxRecDepth 10000 in
theorem ms_node {h : hp} {σ : st8} (M : MI h σ) (Z : zok σ) (x y : Int32) : MStep 149 [.ref 47, .int x, .int y] h (aNod σ x y) σ := by
  have S := M.1.1
  have hC := zC Z
  have wn := (zwf Z).1
  obtain ⟨h1, Rg, M1, g1, F1⟩ := sp_graph (d := 3) M Z
  have S1 := M1.1.1
  refine ⟨h1, ?_, M1, F1⟩
  unfold aNod
  by_cases q : okn σ x = true
  · rw [if_pos q]
    have hx := of_decide_eq_true q
    obtain ⟨k, hk, ek⟩ := okn_t Z q
    subst ek
    rw [nI_clamp (by omega)]
    by_cases y2 : y = 2
    · rw [if_pos y2]
      subst y2
      have R1 := sp_mll (d := 5) S1 g1.2.1.2.2.2 (by omega) M1.2.2.2.1.1 hk
      refine Run.of (d := 7) (Nat.le_of_ble_eq_true rfl) (fun Q hQ => ?_)
      show Wp (Ex 7) 149 Q 0 [(0, .ref 47), (1, .int (nI k)), (2, .int 2)] [] h 0 0
      refine r_aload_n (q149 (i := 0) rfl) rfl ?_
      refine r_cV (d := _) (q149 (i := 1) rfl) rfl rfl rfl (k_47 S) (Nat.le_of_ble_eq_true rfl) (Nat.zero_le _) (Nat.zero_le _) Rg ?_
      show Wp _ _ _ 4 [(0, .ref 47), (1, .int (nI k)), (2, .int 2)] [] h1 _ _
      refine r_iload_n (q149 (i := 2) rfl) rfl ?_
      refine r_if 25 (q149 (i := 3) rfl) (by decide) (fun zz => absurd zz (show ¬ (nI k < 0) from hx.1)) (fun _ => ?_)
      refine r_iload_n (q149 (i := 4) rfl) rfl ?_
      refine r_aload_n (q149 (i := 5) rfl) rfl ?_
      refine r_getI (x := nI (gC (zG σ))) (q149 (i := 6) rfl) rfl (by decide) (k_47 S1) (fun _ _ _ => rfl) g1.2.1.1 ?_
      refine r_icmp 25 (q149 (i := 7) rfl) (by decide) (fun zz => absurd zz (show ¬ (nI (gC (zG σ)) ≤ nI k) from fun y => nlt0 y hx.2)) (fun _ => ?_)
      refine r_iload_n (q149 (i := 8) rfl) rfl ?_
      refine r_if 25 (q149 (i := 9) rfl) (by decide) (fun zz => absurd zz (show ¬ ((2 : Int32) < 0) from by decide)) (fun _ => ?_)
      refine r_iload_n (q149 (i := 10) rfl) rfl ?_
      refine r_iconst (v := 2) (q149 (i := 11) rfl) (by decide) ?_
      refine r_icmp 27 (q149 (i := 12) rfl) (by decide) (fun _ => ?_) (fun zz => absurd (show (2 : Int32) ≤ 2 from by decide) zz)
      refine r_iload_n (q149 (i := 15) rfl) rfl ?_
      refine r_if 40 (q149 (i := 16) rfl) (by decide) (fun _ => ?_) (fun zz => absurd (show ¬ (2 : Int32) = 0 from by decide) zz)
      refine r_iload_n (q149 (i := 22) rfl) rfl ?_
      refine r_iconst (v := 1) (q149 (i := 23) rfl) (by decide) ?_
      refine r_icmp 54 (q149 (i := 24) rfl) (by decide) (fun _ => ?_) (fun zz => absurd (show ¬ (2 : Int32) = 1 from by decide) zz)
      refine r_aload_n (q149 (i := 30) rfl) rfl ?_
      refine r_iload_n (q149 (i := 31) rfl) rfl ?_
      refine r_cV (d := _) (q149 (i := 32) rfl) rfl rfl rfl (k_47 S1) (Nat.le_of_ble_eq_true rfl) (Nat.zero_le _) (Nat.zero_le _) R1 ?_
      show Wp _ _ _ 59 [(0, .ref 47), (1, .int (nI k)), (2, .int 2)] [.int (nI (ll (gW (zG σ)) (zv σ).1 k))] h1 _ _
      exact r_iret (q149 (i := 33) rfl) rfl hQ
    · rw [if_neg y2]
      by_cases y0 : y = 0
      · subst y0
        have hv : hI h1 68 k = if k ≤ zn σ then -1 else nI (gL (zG σ) k) := by
          split
          · rename_i w
            exact (g1.2.1.2.1 k w).1
          · rename_i w
            exact (g1.2.1.2.2.1 k (by omega) hk).1
        rw [if_pos rfl, ← hv]
        refine Run.of (d := 7) (Nat.le_of_ble_eq_true rfl) (fun Q hQ => ?_)
        show Wp (Ex 7) 149 Q 0 [(0, .ref 47), (1, .int (nI k)), (2, .int 0)] [] h 0 0
        refine r_aload_n (q149 (i := 0) rfl) rfl ?_
        refine r_cV (d := _) (q149 (i := 1) rfl) rfl rfl rfl (k_47 S) (Nat.le_of_ble_eq_true rfl) (Nat.zero_le _) (Nat.zero_le _) Rg ?_
        show Wp _ _ _ 4 [(0, .ref 47), (1, .int (nI k)), (2, .int 0)] [] h1 _ _
        refine r_iload_n (q149 (i := 2) rfl) rfl ?_
        refine r_if 25 (q149 (i := 3) rfl) (by decide) (fun zz => absurd zz (show ¬ (nI k < 0) from hx.1)) (fun _ => ?_)
        refine r_iload_n (q149 (i := 4) rfl) rfl ?_
        refine r_aload_n (q149 (i := 5) rfl) rfl ?_
        refine r_getI (x := nI (gC (zG σ))) (q149 (i := 6) rfl) rfl (by decide) (k_47 S1) (fun _ _ _ => rfl) g1.2.1.1 ?_
        refine r_icmp 25 (q149 (i := 7) rfl) (by decide) (fun zz => absurd zz (show ¬ (nI (gC (zG σ)) ≤ nI k) from fun y => nlt0 y hx.2)) (fun _ => ?_)
        refine r_iload_n (q149 (i := 8) rfl) rfl ?_
        refine r_if 25 (q149 (i := 9) rfl) (by decide) (fun zz => absurd zz (show ¬ ((0 : Int32) < 0) from by decide)) (fun _ => ?_)
        refine r_iload_n (q149 (i := 10) rfl) rfl ?_
        refine r_iconst (v := 2) (q149 (i := 11) rfl) (by decide) ?_
        refine r_icmp 27 (q149 (i := 12) rfl) (by decide) (fun _ => ?_) (fun zz => absurd (show (0 : Int32) ≤ 2 from by decide) zz)
        refine r_iload_n (q149 (i := 15) rfl) rfl ?_
        refine r_if 40 (q149 (i := 16) rfl) (by decide) (fun zz => absurd zz (show ¬ (¬ (0 : Int32) = 0) from by decide)) (fun _ => ?_)
        refine r_aload_n (q149 (i := 17) rfl) rfl ?_
        refine r_getR (b := 68) (q149 (i := 18) rfl) rfl (by decide) (k_47 S1) (fun _ _ _ => rfl) (r_47_12 S1) ?_
        refine r_iload_n (q149 (i := 19) rfl) rfl ?_
        refine r_iaN (x := hI h1 68 k) (q149 (i := 20) rfl) (k_68 S1) (by omega) (by decide) rfl ?_
        refine r_goto 59 (q149 (i := 21) rfl) (by decide) ?_
        exact r_iret (q149 (i := 33) rfl) rfl hQ
      · rw [if_neg y0]
        by_cases y1 : y = 1
        · subst y1
          have hv : hI h1 69 k = if k ≤ zn σ then -1 else nI (gR (zG σ) k) := by
            split
            · rename_i w
              exact (g1.2.1.2.1 k w).2
            · rename_i w
              exact (g1.2.1.2.2.1 k (by omega) hk).2
          rw [if_pos rfl, ← hv]
          refine Run.of (d := 7) (Nat.le_of_ble_eq_true rfl) (fun Q hQ => ?_)
          show Wp (Ex 7) 149 Q 0 [(0, .ref 47), (1, .int (nI k)), (2, .int 1)] [] h 0 0
          refine r_aload_n (q149 (i := 0) rfl) rfl ?_
          refine r_cV (d := _) (q149 (i := 1) rfl) rfl rfl rfl (k_47 S) (Nat.le_of_ble_eq_true rfl) (Nat.zero_le _) (Nat.zero_le _) Rg ?_
          show Wp _ _ _ 4 [(0, .ref 47), (1, .int (nI k)), (2, .int 1)] [] h1 _ _
          refine r_iload_n (q149 (i := 2) rfl) rfl ?_
          refine r_if 25 (q149 (i := 3) rfl) (by decide) (fun zz => absurd zz (show ¬ (nI k < 0) from hx.1)) (fun _ => ?_)
          refine r_iload_n (q149 (i := 4) rfl) rfl ?_
          refine r_aload_n (q149 (i := 5) rfl) rfl ?_
          refine r_getI (x := nI (gC (zG σ))) (q149 (i := 6) rfl) rfl (by decide) (k_47 S1) (fun _ _ _ => rfl) g1.2.1.1 ?_
          refine r_icmp 25 (q149 (i := 7) rfl) (by decide) (fun zz => absurd zz (show ¬ (nI (gC (zG σ)) ≤ nI k) from fun y => nlt0 y hx.2)) (fun _ => ?_)
          refine r_iload_n (q149 (i := 8) rfl) rfl ?_
          refine r_if 25 (q149 (i := 9) rfl) (by decide) (fun zz => absurd zz (show ¬ ((1 : Int32) < 0) from by decide)) (fun _ => ?_)
          refine r_iload_n (q149 (i := 10) rfl) rfl ?_
          refine r_iconst (v := 2) (q149 (i := 11) rfl) (by decide) ?_
          refine r_icmp 27 (q149 (i := 12) rfl) (by decide) (fun _ => ?_) (fun zz => absurd (show (1 : Int32) ≤ 2 from by decide) zz)
          refine r_iload_n (q149 (i := 15) rfl) rfl ?_
          refine r_if 40 (q149 (i := 16) rfl) (by decide) (fun _ => ?_) (fun zz => absurd (show ¬ (1 : Int32) = 0 from by decide) zz)
          refine r_iload_n (q149 (i := 22) rfl) rfl ?_
          refine r_iconst (v := 1) (q149 (i := 23) rfl) (by decide) ?_
          refine r_icmp 54 (q149 (i := 24) rfl) (by decide) (fun zz => absurd zz (show ¬ (¬ (1 : Int32) = 1) from by decide)) (fun _ => ?_)
          refine r_aload_n (q149 (i := 25) rfl) rfl ?_
          refine r_getR (b := 69) (q149 (i := 26) rfl) rfl (by decide) (k_47 S1) (fun _ _ _ => rfl) (r_47_13 S1) ?_
          refine r_iload_n (q149 (i := 27) rfl) rfl ?_
          refine r_iaN (x := hI h1 69 k) (q149 (i := 28) rfl) (k_69 S1) (by omega) (by decide) rfl ?_
          refine r_goto 59 (q149 (i := 29) rfl) (by decide) ?_
          exact r_iret (q149 (i := 33) rfl) rfl hQ
        · rw [if_neg y1, ite_self]
          have hy : ¬ y < 0 → ¬ y ≤ 2 := fun a b => by
            obtain ⟨j, hj, ej⟩ := nI_of2 (x := y) (M := 2) (n := 2) (by decide) a b
            rcases (show j = 0 ∨ j = 1 ∨ j = 2 by omega) with w | w | w <;> rw [w] at ej <;> first | exact y0 ej | exact y1 ej | exact y2 ej
          refine Run.of (d := 7) (Nat.le_of_ble_eq_true rfl) (fun Q hQ => ?_)
          show Wp (Ex 7) 149 Q 0 [(0, .ref 47), (1, .int (nI k)), (2, .int y)] [] h 0 0
          refine r_aload_n (q149 (i := 0) rfl) rfl ?_
          refine r_cV (d := _) (q149 (i := 1) rfl) rfl rfl rfl (k_47 S) (Nat.le_of_ble_eq_true rfl) (Nat.zero_le _) (Nat.zero_le _) Rg ?_
          show Wp _ _ _ 4 [(0, .ref 47), (1, .int (nI k)), (2, .int y)] [] h1 _ _
          refine r_iload_n (q149 (i := 2) rfl) rfl ?_
          refine r_if 25 (q149 (i := 3) rfl) (by decide) (fun zz => absurd zz (show ¬ (nI k < 0) from hx.1)) (fun _ => ?_)
          refine r_iload_n (q149 (i := 4) rfl) rfl ?_
          refine r_aload_n (q149 (i := 5) rfl) rfl ?_
          refine r_getI (x := nI (gC (zG σ))) (q149 (i := 6) rfl) rfl (by decide) (k_47 S1) (fun _ _ _ => rfl) g1.2.1.1 ?_
          refine r_icmp 25 (q149 (i := 7) rfl) (by decide) (fun zz => absurd zz (show ¬ (nI (gC (zG σ)) ≤ nI k) from fun y => nlt0 y hx.2)) (fun _ => ?_)
          refine r_iload_n (q149 (i := 8) rfl) rfl ?_
          refine r_if 25 (q149 (i := 9) rfl) (by decide) (fun c17 => ?_) (fun c17 => ?_)
          · have c17 : y < 0 := c17
            refine r_iconst (v := (-1)) (q149 (i := 13) rfl) (by decide) ?_
            exact r_iret (q149 (i := 14) rfl) rfl hQ
          · have c17 : ¬ (y < 0) := c17
            refine r_iload_n (q149 (i := 10) rfl) rfl ?_
            refine r_iconst (v := 2) (q149 (i := 11) rfl) (by decide) ?_
            refine r_icmp 27 (q149 (i := 12) rfl) (by decide) (fun zz => absurd zz (show ¬ (y ≤ 2) from hy c17)) (fun _ => ?_)
            refine r_iconst (v := (-1)) (q149 (i := 13) rfl) (by decide) ?_
            exact r_iret (q149 (i := 14) rfl) rfl hQ
  · rw [if_neg q]
    refine Run.of (d := 7) (Nat.le_of_ble_eq_true rfl) (fun Q hQ => ?_)
    show Wp (Ex 7) 149 Q 0 [(0, .ref 47), (1, .int x), (2, .int y)] [] h 0 0
    refine r_aload_n (q149 (i := 0) rfl) rfl ?_
    refine r_cV (d := _) (q149 (i := 1) rfl) rfl rfl rfl (k_47 S) (Nat.le_of_ble_eq_true rfl) (Nat.zero_le _) (Nat.zero_le _) Rg ?_
    show Wp _ _ _ 4 [(0, .ref 47), (1, .int x), (2, .int y)] [] h1 _ _
    refine r_iload_n (q149 (i := 2) rfl) rfl ?_
    refine r_if 25 (q149 (i := 3) rfl) (by decide) (fun c5 => ?_) (fun c5 => ?_)
    · have c5 : x < 0 := c5
      refine r_iconst (v := (-1)) (q149 (i := 13) rfl) (by decide) ?_
      exact r_iret (q149 (i := 14) rfl) rfl hQ
    · have c5 : ¬ (x < 0) := c5
      refine r_iload_n (q149 (i := 4) rfl) rfl ?_
      refine r_aload_n (q149 (i := 5) rfl) rfl ?_
      refine r_getI (x := nI (gC (zG σ))) (q149 (i := 6) rfl) rfl (by decide) (k_47 S1) (fun _ _ _ => rfl) g1.2.1.1 ?_
      refine r_icmp 25 (q149 (i := 7) rfl) (by decide) (fun _ => ?_) (fun zz => absurd (show nI (gC (zG σ)) ≤ x from Int32.not_lt.mp (fun y => q (decide_eq_true ⟨c5, y⟩))) zz)
      refine r_iconst (v := (-1)) (q149 (i := 13) rfl) (by decide) ?_
      exact r_iret (q149 (i := 14) rfl) rfl hQ
set_option maxHeartbeats 2000000 in
set_option maxRecDepth 10000 in
theorem ms_swept {h : hp} {σ : st8} (M : MI h σ) (Z : zok σ) (x : Int32) : MStep 154 [.ref 47, .int x] h (aSwt σ x) σ := by
  have S := M.1.1
  have hC := zC Z
  have s := M.2.2.2.2.2.2.2
  refine ⟨h, ?_, M, FM.rf h⟩
  unfold aSwt
  unfold MSs at s
  cases e : zs σ with
  | none =>
    rw [e] at s
    have s : hI h 47 18 = 0 := s
    rw [if_neg (fun y => absurd y.1 (by decide))]
    refine Run.of (d := 7) (Nat.le_of_ble_eq_true rfl) (fun Q hQ => ?_)
    show Wp (Ex 7) 154 Q 0 [(0, .ref 47), (1, .int x)] [] h 0 0
    refine r_aload_n (q154 (i := 0) rfl) rfl ?_
    refine r_getI (x := 0) (q154 (i := 1) rfl) rfl (by decide) (k_47 S) (fun _ _ _ => rfl) s ?_
    refine r_if 28 (q154 (i := 2) rfl) (by decide) (fun _ => ?_) (fun zz => absurd (show (0 : Int32) = 0 from by decide) zz)
    refine r_iconst (v := (-1)) (q154 (i := 14) rfl) (by decide) ?_
    exact r_iret (q154 (i := 15) rfl) rfl hQ
  | some w =>
    rw [e] at s
    obtain ⟨s1, s2, _⟩ := s
    by_cases q : okn σ x = true
    · rw [if_pos ⟨rfl, q⟩]
      have hx := of_decide_eq_true q
      obtain ⟨k, hk, ek⟩ := okn_t Z q
      subst ek
      rw [nI_clamp (by omega)]
      refine Run.of (d := 7) (Nat.le_of_ble_eq_true rfl) (fun Q hQ => ?_)
      show Wp (Ex 7) 154 Q 0 [(0, .ref 47), (1, .int (nI k))] [] h 0 0
      refine r_aload_n (q154 (i := 0) rfl) rfl ?_
      refine r_getI (x := 1) (q154 (i := 1) rfl) rfl (by decide) (k_47 S) (fun _ _ _ => rfl) s1 ?_
      refine r_if 28 (q154 (i := 2) rfl) (by decide) (fun zz => absurd zz (show ¬ ((1 : Int32) = 0) from by decide)) (fun _ => ?_)
      refine r_iload_n (q154 (i := 3) rfl) rfl ?_
      refine r_if 28 (q154 (i := 4) rfl) (by decide) (fun zz => absurd zz (show ¬ (nI k < 0) from hx.1)) (fun _ => ?_)
      refine r_iload_n (q154 (i := 5) rfl) rfl ?_
      refine r_aload_n (q154 (i := 6) rfl) rfl ?_
      refine r_getI (x := nI (gC (zG σ))) (q154 (i := 7) rfl) rfl (by decide) (k_47 S) (fun _ _ _ => rfl) s2.2.1.1 ?_
      refine r_icmp 28 (q154 (i := 8) rfl) (by decide) (fun zz => absurd zz (show ¬ (nI (gC (zG σ)) ≤ nI k) from fun y => nlt0 y hx.2)) (fun _ => ?_)
      refine r_aload_n (q154 (i := 9) rfl) rfl ?_
      refine r_getR (b := 1073) (q154 (i := 10) rfl) rfl (by decide) (k_47 S) (fun _ _ _ => rfl) (r_47_19 S) ?_
      refine r_iload_n (q154 (i := 11) rfl) rfl ?_
      refine r_iaN (x := nI (zr σ k)) (q154 (i := 12) rfl) (k_1073 S) (by omega) (by decide) (by rw [M.2.2.2.2.2.1]) ?_
      refine r_goto 29 (q154 (i := 13) rfl) (by decide) ?_
      exact r_iret (q154 (i := 15) rfl) rfl hQ
    · rw [if_neg (fun y => q y.2)]
      refine Run.of (d := 7) (Nat.le_of_ble_eq_true rfl) (fun Q hQ => ?_)
      show Wp (Ex 7) 154 Q 0 [(0, .ref 47), (1, .int x)] [] h 0 0
      refine r_aload_n (q154 (i := 0) rfl) rfl ?_
      refine r_getI (x := 1) (q154 (i := 1) rfl) rfl (by decide) (k_47 S) (fun _ _ _ => rfl) s1 ?_
      refine r_if 28 (q154 (i := 2) rfl) (by decide) (fun zz => absurd zz (show ¬ ((1 : Int32) = 0) from by decide)) (fun _ => ?_)
      refine r_iload_n (q154 (i := 3) rfl) rfl ?_
      refine r_if 28 (q154 (i := 4) rfl) (by decide) (fun c8 => ?_) (fun c8 => ?_)
      · have c8 : x < 0 := c8
        refine r_iconst (v := (-1)) (q154 (i := 14) rfl) (by decide) ?_
        exact r_iret (q154 (i := 15) rfl) rfl hQ
      · have c8 : ¬ (x < 0) := c8
        refine r_iload_n (q154 (i := 5) rfl) rfl ?_
        refine r_aload_n (q154 (i := 6) rfl) rfl ?_
        refine r_getI (x := nI (gC (zG σ))) (q154 (i := 7) rfl) rfl (by decide) (k_47 S) (fun _ _ _ => rfl) s2.2.1.1 ?_
        refine r_icmp 28 (q154 (i := 8) rfl) (by decide) (fun _ => ?_) (fun zz => absurd (show nI (gC (zG σ)) ≤ x from Int32.not_lt.mp (fun y => q (decide_eq_true ⟨c8, y⟩))) zz)
        refine r_iconst (v := (-1)) (q154 (i := 14) rfl) (by decide) ?_
        exact r_iret (q154 (i := 15) rfl) rfl hQ
set_option maxHeartbeats 2000000 in
set_option maxRecDepth 10000 in
theorem ms_told {h : hp} {σ : st8} (M : MI h σ) (x : Int32) : MStep 155 [.ref 47, .int x] h (aTld σ x) σ := by
  have S := M.1.1
  have s := M.2.2.2.2.2.2.2
  refine ⟨h, ?_, M, FM.rf h⟩
  unfold aTld
  unfold MSs at s
  cases e : zs σ with
  | none =>
    rw [e] at s
    have s : hI h 47 18 = 0 := s
    refine Run.of (d := 7) (Nat.le_of_ble_eq_true rfl) (fun Q hQ => ?_)
    show Wp (Ex 7) 155 Q 0 [(0, .ref 47), (1, .int x)] [] h 0 0
    refine r_aload_n (q155 (i := 0) rfl) rfl ?_
    refine r_getI (x := 0) (q155 (i := 1) rfl) rfl (by decide) (k_47 S) (fun _ _ _ => rfl) s ?_
    refine r_if 9 (q155 (i := 2) rfl) (by decide) (fun zz => absurd zz (show ¬ (¬ (0 : Int32) = 0) from by decide)) (fun _ => ?_)
    refine r_iconst (v := (-1)) (q155 (i := 3) rfl) (by decide) ?_
    exact r_iret (q155 (i := 4) rfl) rfl hQ
  | some w =>
    rw [e] at s
    obtain ⟨s1, s2, s3, s4, s5, s6⟩ := s
    refine Run.of (d := 7) (Nat.le_of_ble_eq_true rfl) (fun Q hQ => ?_)
    show Wp (Ex 7) 155 Q 0 [(0, .ref 47), (1, .int x)] [] h 0 0
    have hQ : Q (some (.int (if x = 0 then nI w.1 else if x = 1 then nI w.2.1 else if x = 2 then nI w.2.2.2 else if x = 3 then nI (gC (zG σ)) - nI w.2.2.1 else -1))) h := hQ
    by_cases x0 : x = 0
    · rw [if_pos x0] at hQ
      subst x0
      refine r_aload_n (q155 (i := 0) rfl) rfl ?_
      refine r_getI (x := 1) (q155 (i := 1) rfl) rfl (by decide) (k_47 S) (fun _ _ _ => rfl) s1 ?_
      refine r_if 9 (q155 (i := 2) rfl) (by decide) (fun _ => ?_) (fun zz => absurd (show ¬ (1 : Int32) = 0 from by decide) zz)
      refine r_iload_n (q155 (i := 5) rfl) rfl ?_
      refine r_swIn (off := 30) 40 (q155 (i := 6) rfl) (by decide) (by decide) (by decide) (by decide) ?_
      refine r_aload_n (q155 (i := 7) rfl) rfl ?_
      refine r_getI (x := nI w.1) (q155 (i := 8) rfl) rfl (by decide) (k_47 S) (fun _ _ _ => rfl) s3 ?_
      exact r_iret (q155 (i := 9) rfl) rfl hQ
    rw [if_neg x0] at hQ
    by_cases x1 : x = 1
    · rw [if_pos x1] at hQ
      subst x1
      refine r_aload_n (q155 (i := 0) rfl) rfl ?_
      refine r_getI (x := 1) (q155 (i := 1) rfl) rfl (by decide) (k_47 S) (fun _ _ _ => rfl) s1 ?_
      refine r_if 9 (q155 (i := 2) rfl) (by decide) (fun _ => ?_) (fun zz => absurd (show ¬ (1 : Int32) = 0 from by decide) zz)
      refine r_iload_n (q155 (i := 5) rfl) rfl ?_
      refine r_swIn (off := 35) 45 (q155 (i := 6) rfl) (by decide) (by decide) (by decide) (by decide) ?_
      refine r_aload_n (q155 (i := 10) rfl) rfl ?_
      refine r_getI (x := nI w.2.1) (q155 (i := 11) rfl) rfl (by decide) (k_47 S) (fun _ _ _ => rfl) s4 ?_
      exact r_iret (q155 (i := 12) rfl) rfl hQ
    rw [if_neg x1] at hQ
    by_cases x2 : x = 2
    · rw [if_pos x2] at hQ
      subst x2
      refine r_aload_n (q155 (i := 0) rfl) rfl ?_
      refine r_getI (x := 1) (q155 (i := 1) rfl) rfl (by decide) (k_47 S) (fun _ _ _ => rfl) s1 ?_
      refine r_if 9 (q155 (i := 2) rfl) (by decide) (fun _ => ?_) (fun zz => absurd (show ¬ (1 : Int32) = 0 from by decide) zz)
      refine r_iload_n (q155 (i := 5) rfl) rfl ?_
      refine r_swIn (off := 40) 50 (q155 (i := 6) rfl) (by decide) (by decide) (by decide) (by decide) ?_
      refine r_aload_n (q155 (i := 13) rfl) rfl ?_
      refine r_getI (x := nI w.2.2.2) (q155 (i := 14) rfl) rfl (by decide) (k_47 S) (fun _ _ _ => rfl) s5 ?_
      exact r_iret (q155 (i := 15) rfl) rfl hQ
    rw [if_neg x2] at hQ
    by_cases x3 : x = 3
    · rw [if_pos x3] at hQ
      subst x3
      refine r_aload_n (q155 (i := 0) rfl) rfl ?_
      refine r_getI (x := 1) (q155 (i := 1) rfl) rfl (by decide) (k_47 S) (fun _ _ _ => rfl) s1 ?_
      refine r_if 9 (q155 (i := 2) rfl) (by decide) (fun _ => ?_) (fun zz => absurd (show ¬ (1 : Int32) = 0 from by decide) zz)
      refine r_iload_n (q155 (i := 5) rfl) rfl ?_
      refine r_swIn (off := 45) 55 (q155 (i := 6) rfl) (by decide) (by decide) (by decide) (by decide) ?_
      refine r_aload_n (q155 (i := 16) rfl) rfl ?_
      refine r_getI (x := nI (gC (zG σ)) - nI w.2.2.1) (q155 (i := 17) rfl) rfl (by decide) (k_47 S) (fun _ _ _ => rfl) s6 ?_
      exact r_iret (q155 (i := 18) rfl) rfl hQ
    rw [if_neg x3] at hQ
    have ho := toInt_out (x := x) (m := 3) (by decide) (fun k hk e => by
      rcases (show k = 0 ∨ k = 1 ∨ k = 2 ∨ k = 3 by omega) with y | y | y | y <;> rw [y] at e <;> first | exact x0 e | exact x1 e | exact x2 e | exact x3 e)
    refine r_aload_n (q155 (i := 0) rfl) rfl ?_
    refine r_getI (x := 1) (q155 (i := 1) rfl) rfl (by decide) (k_47 S) (fun _ _ _ => rfl) s1 ?_
    refine r_if 9 (q155 (i := 2) rfl) (by decide) (fun _ => ?_) (fun zz => absurd (show ¬ (1 : Int32) = 0 from by decide) zz)
    refine r_iload_n (q155 (i := 5) rfl) rfl ?_
    refine r_swOut 60 (q155 (i := 6) rfl) (ho) (by decide) ?_
    refine r_iconst (v := (-1)) (q155 (i := 19) rfl) (by decide) ?_
    exact r_iret (q155 (i := 20) rfl) rfl hQ
/-! ===== LIKE, word by word ===== -/
def EA (T : Nat → Nat → Int64) (V : Nat → Int64) (c x : Nat) : Prop := ∀ v, v < 4096 → inV V v = true → lbit T (2 * c) v = lbit T (2 * x) v
def EB (T : Nat → Nat → Int64) (V : Nat → Int64) (c x : Nat) : Prop := ∀ v, v < 4096 → inV V v = true → lbit T (2 * c) v ≠ lbit T (2 * x) v
theorem dV_A {T : Nat → Nat → Int64} {V : Nat → Int64} {c x : Nat} : (∀ w, w < 64 → dV T V c x w = 0) ↔ EA T V c x := by
  constructor
  · intro h v hv hi
    have e := b64_z (T := T) (V := V) (c := c) (x := x) (w := v / 64) (i := v % 64)
    rw [h _ (by omega), b64_0] at e
    rw [lbit_e, lbit_e]
    unfold inV at hi
    rw [hi] at e
    revert e
    cases b64 (T c (v / 64)) (v % 64) <;> cases b64 (T x (v / 64)) (v % 64) <;> simp
  · intro h w hw
    apply b64_ext
    intro i hi
    rw [b64_z, b64_0]
    have := h (64 * w + i) (by omega)
    unfold inV at this
    rw [lbit_e, lbit_e, show (64 * w + i) / 64 = w by omega, show (64 * w + i) % 64 = i by omega] at this
    revert this
    cases b64 (T c w) i <;> cases b64 (T x w) i <;> cases b64 (V w) i <;> simp
theorem dV_B {T : Nat → Nat → Int64} {V : Nat → Int64} {c x : Nat} : (∀ w, w < 64 → dV T V c x w = V w) ↔ EB T V c x := by
  constructor
  · intro h v hv hi
    have e := b64_z (T := T) (V := V) (c := c) (x := x) (w := v / 64) (i := v % 64)
    rw [h _ (by omega)] at e
    rw [lbit_e, lbit_e]
    unfold inV at hi
    rw [hi] at e
    revert e
    cases b64 (T c (v / 64)) (v % 64) <;> cases b64 (T x (v / 64)) (v % 64) <;> simp
  · intro h w hw
    apply b64_ext
    intro i hi
    rw [b64_z]
    have := h (64 * w + i) (by omega)
    unfold inV at this
    rw [lbit_e, lbit_e, show (64 * w + i) / 64 = w by omega, show (64 * w + i) % 64 = i by omega] at this
    revert this
    cases b64 (T c w) i <;> cases b64 (T x w) i <;> cases b64 (V w) i <;> simp
theorem lik_0 {T : Nat → Nat → Int64} {V : Nat → Int64} {c x : Nat} : lik T V c x = 0 ↔ ¬ EA T V c x ∧ ¬ EB T V c x := by
  constructor
  · intro h
    exact ⟨fun a => (lik_ne T V c x).mpr (Or.inl (dV_A.mpr a)) h, fun a => (lik_ne T V c x).mpr (Or.inr (dV_B.mpr a)) h⟩
  · intro h
    rcases Classical.em (lik T V c x = 0) with y | y
    · exact y
    · rcases (lik_ne T V c x).mp y with z | z
      · exact absurd (dV_A.mp z) h.1
      · exact absurd (dV_B.mp z) h.2
theorem inV_up {v : vs} {w i : Nat} (h : inV v.1 i = true) : inV (vadd v w).1 i = true := by rw [inV_add, h]; rfl
theorem inV_nw (v : vs) (w : Nat) : inV (vadd v w).1 w = true := by rw [inV_add, decide_eq_true rfl, Bool.or_true]
theorem EA_up {T : Nat → Nat → Int64} {v : vs} {w c x : Nat} (h : ¬ EA T v.1 c x) : ¬ EA T (vadd v w).1 c x := fun y => h (fun i hi a => y i hi (inV_up a))
theorem EB_up {T : Nat → Nat → Int64} {v : vs} {w c x : Nat} (h : ¬ EB T v.1 c x) : ¬ EB T (vadd v w).1 c x := fun y => h (fun i hi a => y i hi (inV_up a))
theorem lik_up {T : Nat → Nat → Int64} {v : vs} {w c x : Nat} (h : lik T v.1 c x = 0) : lik T (vadd v w).1 c x = 0 := lik_0.mpr ⟨EA_up (lik_0.mp h).1, EB_up (lik_0.mp h).2⟩
/-- how many turns of asking are left at most -/
def AI (T : Nat → Nat → Int64) (V : Nat → Int64) (c x : Nat) : Nat → Prop
  | 0 => ¬ EA T V c x ∧ ¬ EB T V c x
  | 1 => ¬ EA T V c x ∨ ¬ EB T V c x
  | _ => True
theorem AI_s {T : Nat → Nat → Int64} {v : vs} {c x w t : Nat} (ht : t ≤ 1) (h : AI T v.1 c x (t + 1)) (hl : lik T v.1 c x ≠ 0) (hd : dif T (pP T v.1 c x) (2 * x) w = true) (hw : w < 4096) : AI T (vadd v w).1 c x t := by
  unfold dif at hd
  unfold pP at hd
  by_cases q : lik T v.1 c x = 2
  · rw [if_pos q, lbit_o] at hd
    have eb : EB T v.1 c x := dV_B.mp (lik_two q)
    have nb : ¬ EB T (vadd v w).1 c x := fun y => by
      have := y w hw (inV_nw v w)
      rw [lbit_e] at this
      revert hd this
      cases b64 (T c (w / 64)) (w % 64) <;> cases lbit T (2 * x) w <;> simp
    rcases (show t = 0 ∨ t = 1 by omega) with e | e
    · subst e
      rcases h with h | h
      · exact ⟨EA_up h, nb⟩
      · exact absurd eb h
    · subst e
      exact Or.inr nb
  · rw [if_neg q] at hd
    have ea : EA T v.1 c x := dV_A.mp (lik_one hl q)
    have na : ¬ EA T (vadd v w).1 c x := fun y => by
      have := y w hw (inV_nw v w)
      revert hd this
      cases lbit T (2 * c) w <;> cases lbit T (2 * x) w <;> simp
    rcases (show t = 0 ∨ t = 1 by omega) with e | e
    · subst e
      rcases h with h | h
      · exact absurd ea h
      · exact ⟨na, EB_up h⟩
    · subst e
      exact Or.inl na
theorem dif_comm (T : Nat → Nat → Int64) (p q : Nat) : dif T p q = dif T q p := by
  funext w
  unfold dif
  cases lbit T p w <;> cases lbit T q w <;> rfl
set_option maxHeartbeats 2000000 in
set_option maxRecDepth 10000 in
theorem lp_cand {d : Nat} {h : hp} (S : Sh h) {C : Nat} {T : Nat → Nat → Int64} (hT : MT h C T) (hC : C ≤ 1000) {V : Nat → Int64} (hV : hJ h 1071 = V) {x : Nat} (hx : x < C) {rep : Nat → Nat} (hre : ∀ k, k < x → rep k ≤ 2 * k) (hR : ∀ k, k < x → hI h 1073 k = nI (rep k)) {Q : resP} {bc bs : Nat} (hf : ∀ c, c < x → rep c = 2 * c → lik T V c x ≠ 0 → (∀ i, i < c → rep i = 2 * i → lik T V i x = 0) → Q (some (.int (nI c))) h) (hno : (∀ i, i < x → rep i = 2 * i → lik T V i x = 0) → Q (some (.int (-1))) h) : ∀ (m c : Nat), c + m = x → (∀ i, i < c → rep i = 2 * i → lik T V i x = 0) → ∀ ls : List (Nat × Value), ls.lookup 2 = some (.int (nI c)) → ls.lookup 1 = some (.int (nI x)) → ls.lookup 0 = some (.ref 47) → Wp (Ex (d + 1)) 151 Q 2 ls [] h bc bs := by
  intro m
  induction m with
  | zero =>
    intro c hm H ls l2 l1 l0
    have e : c = x := by omega
    subst e
    refine r_iload_n (q151 (i := 2) rfl) l2 ?_
    refine r_iload_n (q151 (i := 3) rfl) l1 ?_
    refine r_icmp 36 (q151 (i := 4) rfl) (by decide) (fun _ => ?_) (fun zz => absurd (show nI c ≤ nI c from Int32.le_refl _) zz)
    refine r_iconst (v := (-1)) (q151 (i := 22) rfl) (by decide) ?_
    exact r_iret (q151 (i := 23) rfl) rfl (hno H)
  | succ m ih =>
    intro c hm H ls l2 l1 l0
    have hrc := hre c (by omega)
    have R1 := sp_like (d := d) S hT hC hV hx (y := c) (by omega)
    rw [lik_comm] at R1
    have nx : (rep c = 2 * c → lik T V c x = 0) → ∀ ls : List (Nat × Value), ls.lookup 2 = some (.int (nI c)) → ls.lookup 1 = some (.int (nI x)) → ls.lookup 0 = some (.ref 47) → Wp (Ex (d + 1)) 151 Q 30 ls [] h bc bs := fun y ls l2 l1 l0 => by
      refine r_iinc (y := nI (c + 1)) (q151 (i := 20) rfl) (Nat.le_of_ble_eq_true rfl) l2 (nI_1 c) rfl ?_
      have l1 := lk1 (k := 2) (v := .int (nI (c + 1))) l1 (by decide) (Or.inl rfl)
      have l0 := lk1 (k := 2) (v := .int (nI (c + 1))) l0 (by decide) (Or.inr (by decide))
      have l2 := lk0 ls 2 (.int (nI (c + 1)))
      generalize lset1 ls 2 (.int (nI (c + 1))) = ls at l2 l1 l0 ⊢
      refine r_goto 2 (q151 (i := 21) rfl) (by decide) ?_
      exact ih (c + 1) (by omega) (fun i hi => by
        by_cases e : i = c
        · rw [e]; exact y
        · exact H i (by omega)) ls l2 l1 l0
    refine r_iload_n (q151 (i := 2) rfl) l2 ?_
    refine r_iload_n (q151 (i := 3) rfl) l1 ?_
    refine r_icmp 36 (q151 (i := 4) rfl) (by decide) (fun zz => absurd zz (show ¬ (nI x ≤ nI c) from nI_ge (by omega) (by omega))) (fun _ => ?_)
    refine r_aload_n (q151 (i := 5) rfl) l0 ?_
    refine r_getR (b := 1073) (q151 (i := 6) rfl) rfl (by decide) (k_47 S) (fun _ _ _ => rfl) (r_47_19 S) ?_
    refine r_iload_n (q151 (i := 7) rfl) l2 ?_
    refine r_iaN (x := nI (rep c)) (q151 (i := 8) rfl) (k_1073 S) (by omega) (by decide) (hR c (by omega)) ?_
    refine r_iconst (v := 2) (q151 (i := 9) rfl) (by decide) ?_
    refine r_iload_n (q151 (i := 10) rfl) l2 ?_
    refine r_imul (q151 (i := 11) rfl) ?_
    rw [show (2 * (nI c) : Int32) = nI (2 * c) from nI_mul 2 c]
    refine r_icmp 30 (q151 (i := 12) rfl) (by decide) (fun c16 => ?_) (fun c16 => ?_)
    · have c16 : ¬ nI (rep c) = nI (2 * c) := c16
      exact nx (fun y => absurd (by rw [y]) c16) ls l2 l1 l0
    · have c16 : ¬ (¬ nI (rep c) = nI (2 * c)) := c16
      refine r_aload_n (q151 (i := 13) rfl) l0 ?_
      refine r_iload_n (q151 (i := 14) rfl) l1 ?_
      refine r_iload_n (q151 (i := 15) rfl) l2 ?_
      refine r_cV (d := _) (q151 (i := 16) rfl) rfl rfl rfl (k_47 S) (Nat.le_of_ble_eq_true rfl) (Nat.zero_le _) (Nat.zero_le _) R1 ?_
      show Wp _ _ _ 25 ls [.int (lik T V c x)] h _ _
      refine r_if 30 (q151 (i := 17) rfl) (by decide) (fun c25 => ?_) (fun c25 => ?_)
      · have c25 : lik T V c x = 0 := c25
        exact nx (fun _ => c25) ls l2 l1 l0
      · have c25 : ¬ (lik T V c x = 0) := c25
        refine r_iload_n (q151 (i := 18) rfl) l2 ?_
        exact r_iret (q151 (i := 19) rfl) rfl (hf c (by omega) ((nI_eq (by omega) (by omega)).mp (Classical.not_not.mp c16)) c25 H)
set_option maxHeartbeats 2000000 in
set_option maxRecDepth 10000 in
theorem sp_cand0 {d : Nat} {h : hp} (S : Sh h) {C : Nat} {T : Nat → Nat → Int64} (hT : MT h C T) (hC : C ≤ 1000) {V : Nat → Int64} (hV : hJ h 1071 = V) {x : Nat} (hx : x < C) {rep : Nat → Nat} (hre : ∀ k, k < x → rep k ≤ 2 * k) (hR : ∀ k, k < x → hI h 1073 k = nI (rep k)) (H : ∀ i, i < x → rep i = 2 * i → lik T V i x = 0) : Run (d + 1 + 1) 151 [.ref 47, .int (nI x)] h 0 0 (some (.int (-1))) h := by
  refine Run.of (Nat.le_of_ble_eq_true rfl) (fun Q hQ => ?_)
  show Wp (Ex (d + 1)) 151 Q 0 [(0, .ref 47), (1, .int (nI x))] [] h 0 0
  refine r_iconst (v := nI 0) (q151 (i := 0) rfl) (by decide) ?_
  refine r_istore_n (ls' := [(2, .int (nI 0)), (0, .ref 47), (1, .int (nI x))]) (q151 (i := 1) rfl) (Nat.le_of_ble_eq_true rfl) rfl ?_
  exact lp_cand S hT hC hV hx hre hR (fun c a b e _ => absurd (H c a b) e) (fun _ => hQ) x 0 (Nat.zero_add _) (fun i hi => absurd hi (Nat.not_lt_zero i)) _ rfl rfl rfl
set_option maxHeartbeats 2000000 in
set_option maxRecDepth 10000 in
theorem sp_cand1 {d : Nat} {h : hp} (S : Sh h) {C : Nat} {T : Nat → Nat → Int64} (hT : MT h C T) (hC : C ≤ 1000) {V : Nat → Int64} (hV : hJ h 1071 = V) {x : Nat} (hx : x < C) {rep : Nat → Nat} (hre : ∀ k, k < x → rep k ≤ 2 * k) (hR : ∀ k, k < x → hI h 1073 k = nI (rep k)) {c : Nat} (hc : c < x) (hc2 : rep c = 2 * c) (hc3 : lik T V c x ≠ 0) (H : ∀ i, i < c → rep i = 2 * i → lik T V i x = 0) : Run (d + 1 + 1) 151 [.ref 47, .int (nI x)] h 0 0 (some (.int (nI c))) h := by
  refine Run.of (Nat.le_of_ble_eq_true rfl) (fun Q hQ => ?_)
  show Wp (Ex (d + 1)) 151 Q 0 [(0, .ref 47), (1, .int (nI x))] [] h 0 0
  refine r_iconst (v := nI 0) (q151 (i := 0) rfl) (by decide) ?_
  refine r_istore_n (ls' := [(2, .int (nI 0)), (0, .ref 47), (1, .int (nI x))]) (q151 (i := 1) rfl) (Nat.le_of_ble_eq_true rfl) rfl ?_
  exact lp_cand S hT hC hV hx hre hR (fun c' a b e H' => by
    rcases Nat.lt_trichotomy c' c with y | y | y
    · exact absurd (H c' y b) e
    · rw [y]; exact hQ
    · exact absurd (H' c y hc2) hc3) (fun y => absurd (y c hc hc2) hc3) x 0 (Nat.zero_add _) (fun i hi => absurd hi (Nat.not_lt_zero i)) _ rfl rfl rfl
/-! ===== the reference sweeps a node ===== -/
def SWM (h : hp) (s : sst) : Prop := MV h s.1 ∧ hI h 47 20 = nI s.2.1 ∧ hI h 47 21 = nI s.2.2 ∧ vok s.1
def XS (h : hp) (n C : Nat) (T : Nat → Nat → Int64) : Prop := Sh h ∧ hI h 47 1 = nI n ∧ hI h 47 11 = nI C ∧ MT h C T
def FrSM (h h' : hp) : Prop := h'.2.2 = h.2.2 ∧ (∀ k, k ≠ 47 → k ≠ 1072 → k ≠ 1073 → hI h' k = hI h k) ∧ (∀ j, j ≠ 17 → j ≠ 20 → j ≠ 21 → hI h' 47 j = hI h 47 j) ∧ ∀ k, k ≠ 1071 → hJ h' k = hJ h k
theorem FrSM.rf (h : hp) : FrSM h h := ⟨rfl, fun _ _ _ _ => rfl, fun _ _ _ _ => rfl, fun _ _ => rfl⟩
theorem FrSM.tr {h h' h'' : hp} (a : FrSM h h') (b : FrSM h' h'') : FrSM h h'' := ⟨b.1.trans a.1, fun k x y z => (b.2.1 k x y z).trans (a.2.1 k x y z), fun j x y z => (b.2.2.1 j x y z).trans (a.2.2.1 j x y z), fun k x => (b.2.2.2 k x).trans (a.2.2.2 k x)⟩
theorem FrSM.X {h h' : hp} {n C : Nat} {T : Nat → Nat → Int64} (F : FrSM h h') (hC : C ≤ 1000) (X : XS h n C T) : XS h' n C T := ⟨X.1.to F.1, (F.2.2.1 1 (by decide) (by decide) (by decide)).trans X.2.1, (F.2.2.1 11 (by decide) (by decide) (by decide)).trans X.2.2.1, fun k hk w hw => by rw [F.2.2.2 (71 + k) (by omega)]; exact X.2.2.2 k hk w hw⟩
theorem FrSM.w47 {h : hp} {j : Nat} (hj : j = 17 ∨ j = 20 ∨ j = 21) (v : Int32) : FrSM h (sI h 47 j v) := ⟨rfl, fun k x _ _ => by
  show u2 h.1 47 _ _ k = _
  rw [u2_n x], fun i x y z => by
  show u2 h.1 47 _ _ 47 i = _
  rw [u2_s, u1_n (by omega)], fun _ _ => rfl⟩
theorem FrSM.wr {h : hp} (i : Nat) (v : Int32) : FrSM h (sI h 1073 i v) := ⟨rfl, fun k _ _ x => by
  show u2 h.1 1073 _ _ k = _
  rw [u2_n x], fun _ _ _ _ => rfl, fun _ _ => rfl⟩
theorem FrSM.giv (h : hp) (w z : Nat) : FrSM h (givM h w z) := ⟨rfl, fun k x y _ => by
  show u2 (u2 h.1 1072 _ _) 47 _ _ k = _
  rw [u2_n x, u2_n y], fun j x _ _ => by
  show u1 (h.1 47) 17 _ j = _
  rw [u1_n x], fun k x => by
  show u2 h.2.1 1071 _ _ k = _
  rw [u2_n x]⟩
theorem FrSM.M {h h' : hp} (F : FrSM h h') : FM h h' := ⟨F.1, fun k hk => ⟨F.2.1 k (by omega) (by omega) (by omega), F.2.2.2 k (by omega)⟩⟩
/-- from the head of the inner loop at the node x to behind it -/
def NS (x : Nat) (h : hp) (s' : sst) (R : Nat → Int32) (res : Nat) : Prop := ∃ h', SWM h' s' ∧ hI h' 1073 = u1 R x (nI res) ∧ FrSM h h' ∧ ∀ (Q : resP) (bc bs o : Nat), (∀ ls : List (Nat × Value), ls.lookup 2 = some (.int (nI x)) → ls.lookup 1 = some (.int (nI (o + if res = 2 * x then 0 else 1))) → ls.lookup 0 = some (.ref 47) → Wp (Ex 7) 152 Q 156 ls [] h' bc bs) → ∀ ls : List (Nat × Value), ls.lookup 2 = some (.int (nI x)) → ls.lookup 1 = some (.int (nI o)) → ls.lookup 0 = some (.ref 47) → Wp (Ex 7) 152 Q 40 ls [] h bc bs
set_option maxHeartbeats 2000000 in
set_option maxRecDepth 10000 in
theorem sw_40 {h : hp} (S : Sh h) {x v : Nat} (hx : x < 1000) (hv : v < 2 ^ 31) (e : hI h 1073 x = nI v) {o : Int32} {Q : resP} {bc bs : Nat} {ls : List (Nat × Value)} (l2 : ls.lookup 2 = some (.int (nI x))) (l1 : ls.lookup 1 = some (.int o)) (l0 : ls.lookup 0 = some (.ref 47)) (k : Wp (Ex 7) 152 Q 156 ls [] h bc bs) : Wp (Ex 7) 152 Q 40 ls [] h bc bs := by
  refine r_aload_n (q152 (i := 26) rfl) l0 ?_
  refine r_getR (b := 1073) (q152 (i := 27) rfl) rfl (by decide) (k_47 S) (fun _ _ _ => rfl) (r_47_19 S) ?_
  refine r_iload_n (q152 (i := 28) rfl) l2 ?_
  refine r_iaN (x := nI v) (q152 (i := 29) rfl) (k_1073 S) (by omega) (by decide) e ?_
  refine r_iconst (v := (-1)) (q152 (i := 30) rfl) (by decide) ?_
  refine r_icmp 156 (q152 (i := 31) rfl) (by decide) (fun _ => ?_) (fun zz => absurd (show ¬ nI v = (-1) from nI_ne1 hv) zz)
  exact k
set_option maxHeartbeats 2000000 in
set_option maxRecDepth 10000 in
theorem NS_none {n C : Nat} {T : Nat → Nat → Int64} (hn : n ≤ 12) (hC : C ≤ 1000) {x : Nat} (hx : x < C) {rep : Nat → Nat} (hre : ∀ k, k < x → rep k ≤ 2 * k) {R : Nat → Int32} (hR : ∀ k, k < x → R k = nI (rep k)) {h : hp} (X : XS h n C T) {s : sst} (W : SWM h s) (e : hI h 1073 = u1 R x (-1)) (H : ∀ i, i < x → rep i = 2 * i → lik T s.1.1 i x = 0) : NS x h s R (2 * x) := by
  have S := X.1
  have hR2 : ∀ k, k < x → hI h 1073 k = nI (rep k) := fun k hk => by rw [e, u1_n (by omega)]; exact hR k hk
  have ex : hI h 1073 x = -1 := by rw [e, u1_s]
  have Rc := sp_cand0 (d := 5) S X.2.2.2 hC W.1.1 hx hre hR2 H
  refine ⟨sI h 1073 x (nI (2 * x)), W, ?_, FrSM.wr _ _, fun Q bc bs o k ls l2 l1 l0 => ?_⟩
  · show u1 (hI h 1073) x _ = _
    rw [e, u1_u1]
  rw [if_pos rfl] at k
  refine r_aload_n (q152 (i := 26) rfl) l0 ?_
  refine r_getR (b := 1073) (q152 (i := 27) rfl) rfl (by decide) (k_47 S) (fun _ _ _ => rfl) (r_47_19 S) ?_
  refine r_iload_n (q152 (i := 28) rfl) l2 ?_
  refine r_iaN (x := (-1)) (q152 (i := 29) rfl) (k_1073 S) (by omega) (by decide) ex ?_
  refine r_iconst (v := (-1)) (q152 (i := 30) rfl) (by decide) ?_
  refine r_icmp 156 (q152 (i := 31) rfl) (by decide) (fun zz => absurd zz (show ¬ (¬ (-1 : Int32) = (-1)) from by decide)) (fun _ => ?_)
  refine r_aload_n (q152 (i := 32) rfl) l0 ?_
  refine r_iload_n (q152 (i := 33) rfl) l2 ?_
  refine r_cV (d := _) (q152 (i := 34) rfl) rfl rfl rfl (k_47 S) (Nat.le_of_ble_eq_true rfl) (Nat.zero_le _) (Nat.zero_le _) Rc ?_
  show Wp _ _ _ 55 ls [.int (-1)] h _ _
  refine r_istore_n (ls' := lset1 ls 3 (.int (-1))) (q152 (i := 35) rfl) (Nat.le_of_ble_eq_true rfl) rfl ?_
  have l2 := lk1 (k := 3) (v := .int (-1)) l2 (by decide) (Or.inl rfl)
  have l1 := lk1 (k := 3) (v := .int (-1)) l1 (by decide) (Or.inr (by decide))
  have l0 := lk1 (k := 3) (v := .int (-1)) l0 (by decide) (Or.inr (by decide))
  have l3 := lk0 ls 3 (.int (-1))
  generalize lset1 ls 3 (.int (-1)) = ls at l3 l2 l1 l0 ⊢
  refine r_iload_n (q152 (i := 36) rfl) l3 ?_
  refine r_iconst (v := (-1)) (q152 (i := 37) rfl) (by decide) ?_
  refine r_icmp 73 (q152 (i := 38) rfl) (by decide) (fun zz => absurd zz (show ¬ (¬ (-1 : Int32) = (-1)) from by decide)) (fun _ => ?_)
  refine r_aload_n (q152 (i := 39) rfl) l0 ?_
  refine r_getR (b := 1073) (q152 (i := 40) rfl) rfl (by decide) (k_47 S) (fun _ _ _ => rfl) (r_47_19 S) ?_
  refine r_iload_n (q152 (i := 41) rfl) l2 ?_
  refine r_iconst (v := 2) (q152 (i := 42) rfl) (by decide) ?_
  refine r_iload_n (q152 (i := 43) rfl) l2 ?_
  refine r_imul (q152 (i := 44) rfl) ?_
  rw [show (2 * (nI x) : Int32) = nI (2 * x) from nI_mul 2 x]
  refine r_iasN (q152 (i := 45) rfl) (k_1073 S) (by omega) (by decide) ?_
  refine r_goto 40 (q152 (i := 46) rfl) (by decide) ?_
  exact sw_40 (h := sI h 1073 x (nI (2 * x))) (S.to rfl) (x := x) (v := 2 * x) (by omega) (by omega) (by show u1 (hI h 1073) x _ x = _; rw [u1_s]) l2 l1 l0 (k ls l2 l1 l0)
set_option maxHeartbeats 2000000 in
set_option maxRecDepth 10000 in
theorem NS_yes {n C : Nat} {T : Nat → Nat → Int64} (hn : n ≤ 12) (hC : C ≤ 1000) {x : Nat} (hx : x < C) {rep : Nat → Nat} (hre : ∀ k, k < x → rep k ≤ 2 * k) {R : Nat → Int32} (hR : ∀ k, k < x → R k = nI (rep k)) {h : hp} (X : XS h n C T) {s : sst} (W : SWM h s) (e : hI h 1073 = u1 R x (-1)) {c : Nat} (hc : c < x) (hc2 : rep c = 2 * c) (hc3 : lik T s.1.1 c x ≠ 0) (H : ∀ i, i < c → rep i = 2 * i → lik T s.1.1 i x = 0) (hw : wdp T n (pP T s.1.1 c x) x = 2 ^ n) : NS x h (s.1, s.2.1, s.2.2 + 1) R (pP T s.1.1 c x) := by
  have S := X.1
  have hR2 : ∀ k, k < x → hI h 1073 k = nI (rep k) := fun k hk => by rw [e, u1_n (by omega)]; exact hR k hk
  have ex : hI h 1073 x = -1 := by rw [e, u1_s]
  have Rc := sp_cand1 (d := 5) S X.2.2.2 hC W.1.1 hx hre hR2 hc hc2 hc3 H
  have S1 : Sh (sI h 47 21 (nI (s.2.2 + 1))) := S.to rfl
  have T1 : MT (sI h 47 21 (nI (s.2.2 + 1))) C T := X.2.2.2
  have Rl := sp_like (d := 6) S1 T1 hC (V := s.1.1) W.1.1 hx (y := c) (by omega)
  rw [lik_comm] at Rl
  have pl2 : lik T s.1.1 c x = 1 ∨ lik T s.1.1 c x = 2 := (lik012 T s.1.1 c x).resolve_left hc3
  have hp := pP_le T s.1.1 c x
  have hN : ¬ pP T s.1.1 c x = 2 * x := by omega
  have Ru := sp_unlike (d := 4) S1 hn (h := sI h 47 21 (nI (s.2.2 + 1))) X.2.1 T1 hC (p := 2 * x) (q := pP T s.1.1 c x) (by omega) (by omega)
  rw [apt_no (by rw [dif_comm]; exact hw)] at Ru
  refine ⟨sI (sI h 47 21 (nI (s.2.2 + 1))) 1073 x (nI (pP T s.1.1 c x)), ⟨W.1, W.2.1, rfl, W.2.2.2⟩, ?_, (FrSM.w47 (by decide) _).tr (FrSM.wr _ _), fun Q bc bs o k ls l2 l1 l0 => ?_⟩
  · show u1 (hI h 1073) x _ = _
    rw [e, u1_u1]
  rw [if_neg hN] at k
  rcases pl2 with q | q
  · have ep : pP T s.1.1 c x = 2 * c := if_neg (by rw [q]; decide)
    rw [q] at Rl
    rw [ep] at Ru k
    refine r_aload_n (q152 (i := 26) rfl) l0 ?_
    refine r_getR (b := 1073) (q152 (i := 27) rfl) rfl (by decide) (k_47 S) (fun _ _ _ => rfl) (r_47_19 S) ?_
    refine r_iload_n (q152 (i := 28) rfl) l2 ?_
    refine r_iaN (x := (-1)) (q152 (i := 29) rfl) (k_1073 S) (by omega) (by decide) ex ?_
    refine r_iconst (v := (-1)) (q152 (i := 30) rfl) (by decide) ?_
    refine r_icmp 156 (q152 (i := 31) rfl) (by decide) (fun zz => absurd zz (show ¬ (¬ (-1 : Int32) = (-1)) from by decide)) (fun _ => ?_)
    refine r_aload_n (q152 (i := 32) rfl) l0 ?_
    refine r_iload_n (q152 (i := 33) rfl) l2 ?_
    refine r_cV (d := _) (q152 (i := 34) rfl) rfl rfl rfl (k_47 S) (Nat.le_of_ble_eq_true rfl) (Nat.zero_le _) (Nat.zero_le _) Rc ?_
    show Wp _ _ _ 55 ls [.int (nI c)] h _ _
    refine r_istore_n (ls' := lset1 ls 3 (.int (nI c))) (q152 (i := 35) rfl) (Nat.le_of_ble_eq_true rfl) rfl ?_
    have l2 := lk1 (k := 3) (v := .int (nI c)) l2 (by decide) (Or.inl rfl)
    have l1 := lk1 (k := 3) (v := .int (nI c)) l1 (by decide) (Or.inr (by decide))
    have l0 := lk1 (k := 3) (v := .int (nI c)) l0 (by decide) (Or.inr (by decide))
    have l3 := lk0 ls 3 (.int (nI c))
    generalize lset1 ls 3 (.int (nI c)) = ls at l3 l2 l1 l0 ⊢
    refine r_iload_n (q152 (i := 36) rfl) l3 ?_
    refine r_iconst (v := (-1)) (q152 (i := 37) rfl) (by decide) ?_
    refine r_icmp 73 (q152 (i := 38) rfl) (by decide) (fun _ => ?_) (fun zz => absurd (show ¬ nI c = (-1) from nI_ne1 (by omega)) zz)
    refine r_aload_n (q152 (i := 47) rfl) l0 ?_
    refine r_dup (q152 (i := 48) rfl) rfl ?_
    refine r_getI (x := nI s.2.2) (q152 (i := 49) rfl) rfl (by decide) (k_47 S) (fun _ _ _ => rfl) W.2.2.1 ?_
    refine r_iconst (v := 1) (q152 (i := 50) rfl) (by decide) ?_
    refine r_iadd (q152 (i := 51) rfl) ?_
    rw [show ((nI s.2.2) + 1 : Int32) = nI (s.2.2 + 1) from nI_1 _]
    refine r_putI (q152 (i := 52) rfl) rfl (by decide) (k_47 S) rfl rfl ?_
    refine r_aload_n (q152 (i := 53) rfl) l0 ?_
    refine r_iload_n (q152 (i := 54) rfl) l2 ?_
    refine r_iload_n (q152 (i := 55) rfl) l3 ?_
    refine r_cV (d := _) (q152 (i := 56) rfl) rfl rfl rfl (k_47 S) (Nat.le_of_ble_eq_true rfl) (Nat.zero_le _) (Nat.zero_le _) Rl ?_
    show Wp _ _ _ 89 ls [.int 1] (sI h 47 21 (nI (s.2.2 + 1))) _ _
    refine r_iconst (v := 1) (q152 (i := 57) rfl) (by decide) ?_
    refine r_icmp 99 (q152 (i := 58) rfl) (by decide) (fun zz => absurd zz (show ¬ (¬ (1 : Int32) = 1) from by decide)) (fun _ => ?_)
    refine r_iconst (v := 2) (q152 (i := 59) rfl) (by decide) ?_
    refine r_iload_n (q152 (i := 60) rfl) l3 ?_
    refine r_imul (q152 (i := 61) rfl) ?_
    rw [show (2 * (nI c) : Int32) = nI (2 * c) from nI_mul 2 c]
    refine r_goto 104 (q152 (i := 62) rfl) (by decide) ?_
    refine r_istore (ls' := lset1 ls 4 (.int (nI (2 * c)))) (q152 (i := 68) rfl) (Nat.le_of_ble_eq_true rfl) rfl ?_
    have l3 := lk1 (k := 4) (v := .int (nI (2 * c))) l3 (by decide) (Or.inl rfl)
    have l2 := lk1 (k := 4) (v := .int (nI (2 * c))) l2 (by decide) (Or.inr (by decide))
    have l1 := lk1 (k := 4) (v := .int (nI (2 * c))) l1 (by decide) (Or.inr (by decide))
    have l0 := lk1 (k := 4) (v := .int (nI (2 * c))) l0 (by decide) (Or.inr (by decide))
    have l4 := lk0 ls 4 (.int (nI (2 * c)))
    generalize lset1 ls 4 (.int (nI (2 * c))) = ls at l4 l3 l2 l1 l0 ⊢
    refine r_aload_n (q152 (i := 69) rfl) l0 ?_
    refine r_iconst (v := 2) (q152 (i := 70) rfl) (by decide) ?_
    refine r_iload_n (q152 (i := 71) rfl) l2 ?_
    refine r_imul (q152 (i := 72) rfl) ?_
    rw [show (2 * (nI x) : Int32) = nI (2 * x) from nI_mul 2 x]
    refine r_iload (q152 (i := 73) rfl) l4 ?_
    refine r_cV (d := _) (q152 (i := 74) rfl) rfl rfl rfl (k_47 S) (Nat.le_of_ble_eq_true rfl) (Nat.zero_le _) (Nat.zero_le _) Ru ?_
    show Wp _ _ _ 115 ls [.int (-1)] (sI h 47 21 (nI (s.2.2 + 1))) _ _
    refine r_istore (ls' := lset1 ls 5 (.int (-1))) (q152 (i := 75) rfl) (Nat.le_of_ble_eq_true rfl) rfl ?_
    have l4 := lk1 (k := 5) (v := .int (-1)) l4 (by decide) (Or.inl rfl)
    have l3 := lk1 (k := 5) (v := .int (-1)) l3 (by decide) (Or.inr (by decide))
    have l2 := lk1 (k := 5) (v := .int (-1)) l2 (by decide) (Or.inr (by decide))
    have l1 := lk1 (k := 5) (v := .int (-1)) l1 (by decide) (Or.inr (by decide))
    have l0 := lk1 (k := 5) (v := .int (-1)) l0 (by decide) (Or.inr (by decide))
    have l5 := lk0 ls 5 (.int (-1))
    generalize lset1 ls 5 (.int (-1)) = ls at l5 l4 l3 l2 l1 l0 ⊢
    refine r_iload (q152 (i := 76) rfl) l5 ?_
    refine r_iconst (v := (-1)) (q152 (i := 77) rfl) (by decide) ?_
    refine r_icmp 137 (q152 (i := 78) rfl) (by decide) (fun zz => absurd zz (show ¬ (¬ (-1 : Int32) = (-1)) from by decide)) (fun _ => ?_)
    refine r_aload_n (q152 (i := 79) rfl) l0 ?_
    refine r_getR (b := 1073) (q152 (i := 80) rfl) rfl (by decide) (k_47 S) (fun _ _ _ => rfl) (r_47_19 S) ?_
    refine r_iload_n (q152 (i := 81) rfl) l2 ?_
    refine r_iload (q152 (i := 82) rfl) l4 ?_
    refine r_iasN (q152 (i := 83) rfl) (k_1073 S) (by omega) (by decide) ?_
    refine r_iinc (y := nI (o + 1)) (q152 (i := 84) rfl) (Nat.le_of_ble_eq_true rfl) l1 (nI_1 o) rfl ?_
    have l5 := lk1 (k := 1) (v := .int (nI (o + 1))) l5 (by decide) (Or.inr (by decide))
    have l4 := lk1 (k := 1) (v := .int (nI (o + 1))) l4 (by decide) (Or.inr (by decide))
    have l3 := lk1 (k := 1) (v := .int (nI (o + 1))) l3 (by decide) (Or.inr (by decide))
    have l2 := lk1 (k := 1) (v := .int (nI (o + 1))) l2 (by decide) (Or.inr (by decide))
    have l0 := lk1 (k := 1) (v := .int (nI (o + 1))) l0 (by decide) (Or.inl rfl)
    have l1 := lk0 ls 1 (.int (nI (o + 1)))
    generalize lset1 ls 1 (.int (nI (o + 1))) = ls at l1 l5 l4 l3 l2 l0 ⊢
    refine r_goto 153 (q152 (i := 85) rfl) (by decide) ?_
    refine r_goto 40 (q152 (i := 95) rfl) (by decide) ?_
    exact sw_40 (h := sI (sI h 47 21 (nI (s.2.2 + 1))) 1073 x (nI (2 * c))) (S.to rfl) (x := x) (v := 2 * c) (by omega) (by omega) (by show u1 (hI h 1073) x _ x = _; rw [u1_s]) l2 l1 l0 (k ls l2 l1 l0)
  · have ep : pP T s.1.1 c x = 2 * c + 1 := if_pos q
    rw [q] at Rl
    rw [ep] at Ru k
    refine r_aload_n (q152 (i := 26) rfl) l0 ?_
    refine r_getR (b := 1073) (q152 (i := 27) rfl) rfl (by decide) (k_47 S) (fun _ _ _ => rfl) (r_47_19 S) ?_
    refine r_iload_n (q152 (i := 28) rfl) l2 ?_
    refine r_iaN (x := (-1)) (q152 (i := 29) rfl) (k_1073 S) (by omega) (by decide) ex ?_
    refine r_iconst (v := (-1)) (q152 (i := 30) rfl) (by decide) ?_
    refine r_icmp 156 (q152 (i := 31) rfl) (by decide) (fun zz => absurd zz (show ¬ (¬ (-1 : Int32) = (-1)) from by decide)) (fun _ => ?_)
    refine r_aload_n (q152 (i := 32) rfl) l0 ?_
    refine r_iload_n (q152 (i := 33) rfl) l2 ?_
    refine r_cV (d := _) (q152 (i := 34) rfl) rfl rfl rfl (k_47 S) (Nat.le_of_ble_eq_true rfl) (Nat.zero_le _) (Nat.zero_le _) Rc ?_
    show Wp _ _ _ 55 ls [.int (nI c)] h _ _
    refine r_istore_n (ls' := lset1 ls 3 (.int (nI c))) (q152 (i := 35) rfl) (Nat.le_of_ble_eq_true rfl) rfl ?_
    have l2 := lk1 (k := 3) (v := .int (nI c)) l2 (by decide) (Or.inl rfl)
    have l1 := lk1 (k := 3) (v := .int (nI c)) l1 (by decide) (Or.inr (by decide))
    have l0 := lk1 (k := 3) (v := .int (nI c)) l0 (by decide) (Or.inr (by decide))
    have l3 := lk0 ls 3 (.int (nI c))
    generalize lset1 ls 3 (.int (nI c)) = ls at l3 l2 l1 l0 ⊢
    refine r_iload_n (q152 (i := 36) rfl) l3 ?_
    refine r_iconst (v := (-1)) (q152 (i := 37) rfl) (by decide) ?_
    refine r_icmp 73 (q152 (i := 38) rfl) (by decide) (fun _ => ?_) (fun zz => absurd (show ¬ nI c = (-1) from nI_ne1 (by omega)) zz)
    refine r_aload_n (q152 (i := 47) rfl) l0 ?_
    refine r_dup (q152 (i := 48) rfl) rfl ?_
    refine r_getI (x := nI s.2.2) (q152 (i := 49) rfl) rfl (by decide) (k_47 S) (fun _ _ _ => rfl) W.2.2.1 ?_
    refine r_iconst (v := 1) (q152 (i := 50) rfl) (by decide) ?_
    refine r_iadd (q152 (i := 51) rfl) ?_
    rw [show ((nI s.2.2) + 1 : Int32) = nI (s.2.2 + 1) from nI_1 _]
    refine r_putI (q152 (i := 52) rfl) rfl (by decide) (k_47 S) rfl rfl ?_
    refine r_aload_n (q152 (i := 53) rfl) l0 ?_
    refine r_iload_n (q152 (i := 54) rfl) l2 ?_
    refine r_iload_n (q152 (i := 55) rfl) l3 ?_
    refine r_cV (d := _) (q152 (i := 56) rfl) rfl rfl rfl (k_47 S) (Nat.le_of_ble_eq_true rfl) (Nat.zero_le _) (Nat.zero_le _) Rl ?_
    show Wp _ _ _ 89 ls [.int 2] (sI h 47 21 (nI (s.2.2 + 1))) _ _
    refine r_iconst (v := 1) (q152 (i := 57) rfl) (by decide) ?_
    refine r_icmp 99 (q152 (i := 58) rfl) (by decide) (fun _ => ?_) (fun zz => absurd (show ¬ (2 : Int32) = 1 from by decide) zz)
    refine r_iconst (v := 2) (q152 (i := 63) rfl) (by decide) ?_
    refine r_iload_n (q152 (i := 64) rfl) l3 ?_
    refine r_imul (q152 (i := 65) rfl) ?_
    rw [show (2 * (nI c) : Int32) = nI (2 * c) from nI_mul 2 c]
    refine r_iconst (v := 1) (q152 (i := 66) rfl) (by decide) ?_
    refine r_iadd (q152 (i := 67) rfl) ?_
    rw [show ((nI (2 * c)) + 1 : Int32) = nI (2 * c + 1) from nI_1 _]
    refine r_istore (ls' := lset1 ls 4 (.int (nI (2 * c + 1)))) (q152 (i := 68) rfl) (Nat.le_of_ble_eq_true rfl) rfl ?_
    have l3 := lk1 (k := 4) (v := .int (nI (2 * c + 1))) l3 (by decide) (Or.inl rfl)
    have l2 := lk1 (k := 4) (v := .int (nI (2 * c + 1))) l2 (by decide) (Or.inr (by decide))
    have l1 := lk1 (k := 4) (v := .int (nI (2 * c + 1))) l1 (by decide) (Or.inr (by decide))
    have l0 := lk1 (k := 4) (v := .int (nI (2 * c + 1))) l0 (by decide) (Or.inr (by decide))
    have l4 := lk0 ls 4 (.int (nI (2 * c + 1)))
    generalize lset1 ls 4 (.int (nI (2 * c + 1))) = ls at l4 l3 l2 l1 l0 ⊢
    refine r_aload_n (q152 (i := 69) rfl) l0 ?_
    refine r_iconst (v := 2) (q152 (i := 70) rfl) (by decide) ?_
    refine r_iload_n (q152 (i := 71) rfl) l2 ?_
    refine r_imul (q152 (i := 72) rfl) ?_
    rw [show (2 * (nI x) : Int32) = nI (2 * x) from nI_mul 2 x]
    refine r_iload (q152 (i := 73) rfl) l4 ?_
    refine r_cV (d := _) (q152 (i := 74) rfl) rfl rfl rfl (k_47 S) (Nat.le_of_ble_eq_true rfl) (Nat.zero_le _) (Nat.zero_le _) Ru ?_
    show Wp _ _ _ 115 ls [.int (-1)] (sI h 47 21 (nI (s.2.2 + 1))) _ _
    refine r_istore (ls' := lset1 ls 5 (.int (-1))) (q152 (i := 75) rfl) (Nat.le_of_ble_eq_true rfl) rfl ?_
    have l4 := lk1 (k := 5) (v := .int (-1)) l4 (by decide) (Or.inl rfl)
    have l3 := lk1 (k := 5) (v := .int (-1)) l3 (by decide) (Or.inr (by decide))
    have l2 := lk1 (k := 5) (v := .int (-1)) l2 (by decide) (Or.inr (by decide))
    have l1 := lk1 (k := 5) (v := .int (-1)) l1 (by decide) (Or.inr (by decide))
    have l0 := lk1 (k := 5) (v := .int (-1)) l0 (by decide) (Or.inr (by decide))
    have l5 := lk0 ls 5 (.int (-1))
    generalize lset1 ls 5 (.int (-1)) = ls at l5 l4 l3 l2 l1 l0 ⊢
    refine r_iload (q152 (i := 76) rfl) l5 ?_
    refine r_iconst (v := (-1)) (q152 (i := 77) rfl) (by decide) ?_
    refine r_icmp 137 (q152 (i := 78) rfl) (by decide) (fun zz => absurd zz (show ¬ (¬ (-1 : Int32) = (-1)) from by decide)) (fun _ => ?_)
    refine r_aload_n (q152 (i := 79) rfl) l0 ?_
    refine r_getR (b := 1073) (q152 (i := 80) rfl) rfl (by decide) (k_47 S) (fun _ _ _ => rfl) (r_47_19 S) ?_
    refine r_iload_n (q152 (i := 81) rfl) l2 ?_
    refine r_iload (q152 (i := 82) rfl) l4 ?_
    refine r_iasN (q152 (i := 83) rfl) (k_1073 S) (by omega) (by decide) ?_
    refine r_iinc (y := nI (o + 1)) (q152 (i := 84) rfl) (Nat.le_of_ble_eq_true rfl) l1 (nI_1 o) rfl ?_
    have l5 := lk1 (k := 1) (v := .int (nI (o + 1))) l5 (by decide) (Or.inr (by decide))
    have l4 := lk1 (k := 1) (v := .int (nI (o + 1))) l4 (by decide) (Or.inr (by decide))
    have l3 := lk1 (k := 1) (v := .int (nI (o + 1))) l3 (by decide) (Or.inr (by decide))
    have l2 := lk1 (k := 1) (v := .int (nI (o + 1))) l2 (by decide) (Or.inr (by decide))
    have l0 := lk1 (k := 1) (v := .int (nI (o + 1))) l0 (by decide) (Or.inl rfl)
    have l1 := lk0 ls 1 (.int (nI (o + 1)))
    generalize lset1 ls 1 (.int (nI (o + 1))) = ls at l1 l5 l4 l3 l2 l0 ⊢
    refine r_goto 153 (q152 (i := 85) rfl) (by decide) ?_
    refine r_goto 40 (q152 (i := 95) rfl) (by decide) ?_
    exact sw_40 (h := sI (sI h 47 21 (nI (s.2.2 + 1))) 1073 x (nI (2 * c + 1))) (S.to rfl) (x := x) (v := 2 * c + 1) (by omega) (by omega) (by show u1 (hI h 1073) x _ x = _; rw [u1_s]) l2 l1 l0 (k ls l2 l1 l0)
set_option maxHeartbeats 2000000 in
set_option maxRecDepth 10000 in
theorem NS_more {n C : Nat} {T : Nat → Nat → Int64} (hn : n ≤ 12) (hC : C ≤ 1000) {x : Nat} (hx : x < C) {rep : Nat → Nat} (hre : ∀ k, k < x → rep k ≤ 2 * k) {R : Nat → Int32} (hR : ∀ k, k < x → R k = nI (rep k)) {h : hp} (X : XS h n C T) {s : sst} (W : SWM h s) (e : hI h 1073 = u1 R x (-1)) {c : Nat} (hc : c < x) (hc2 : rep c = 2 * c) (hc3 : lik T s.1.1 c x ≠ 0) (H : ∀ i, i < c → rep i = 2 * i → lik T s.1.1 i x = 0) (hw : wdp T n (pP T s.1.1 c x) x ≠ 2 ^ n) {s' : sst} {res : Nat} (N : ∀ h1, XS h1 n C T → SWM h1 (vadd s.1 (wdp T n (pP T s.1.1 c x) x), s.2.1 + 1, s.2.2 + 1) → hI h1 1073 = u1 R x (-1) → NS x h1 s' R res) : NS x h s' R res := by
  have S := X.1
  have hR2 : ∀ k, k < x → hI h 1073 k = nI (rep k) := fun k hk => by rw [e, u1_n (by omega)]; exact hR k hk
  have ex : hI h 1073 x = -1 := by rw [e, u1_s]
  have Rc := sp_cand1 (d := 5) S X.2.2.2 hC W.1.1 hx hre hR2 hc hc2 hc3 H
  have S1 : Sh (sI h 47 21 (nI (s.2.2 + 1))) := S.to rfl
  have T1 : MT (sI h 47 21 (nI (s.2.2 + 1))) C T := X.2.2.2
  have Rl := sp_like (d := 6) S1 T1 hC (V := s.1.1) W.1.1 hx (y := c) (by omega)
  rw [lik_comm] at Rl
  have pl2 : lik T s.1.1 c x = 1 ∨ lik T s.1.1 c x = 2 := (lik012 T s.1.1 c x).resolve_left hc3
  have hp := pP_le T s.1.1 c x
  obtain ⟨w1, w2⟩ := wdp_lt T n _ x hw
  have h12 := pow12 hn
  obtain ⟨w, ew⟩ : ∃ w, w = wdp T n (pP T s.1.1 c x) x := ⟨_, rfl⟩
  have Ru := sp_unlike (d := 4) S1 hn (h := sI h 47 21 (nI (s.2.2 + 1))) X.2.1 T1 hC (p := 2 * x) (q := pP T s.1.1 c x) (by omega) (by omega)
  rw [apt_is (by rw [dif_comm]; exact w1), dif_comm, show lst (dif T (pP T s.1.1 c x) (2 * x)) (2 ^ n) = w from ew.symm] at Ru
  rw [← ew] at w1 w2 N
  have hi := ask_new hc3 w2 (by omega)
  have hz := vok_lt W.2.2.2 (by omega) hi
  have Rv := sp_give (d := 6) (h := sI h 47 21 (nI (s.2.2 + 1))) (w := w) S1 (by omega) (z := s.1.2.2) W.1.2.2 hz
  obtain ⟨h1, eh⟩ : ∃ y, y = sI (givM (sI h 47 21 (nI (s.2.2 + 1))) w s.1.2.2) 47 20 (nI (s.2.1 + 1)) := ⟨_, rfl⟩
  have F1 : FrSM h h1 := by rw [eh]; exact ((FrSM.w47 (by decide) _).tr (FrSM.giv _ _ _)).tr (FrSM.w47 (by decide) _)
  have V1 : MV (sI h 47 21 (nI (s.2.2 + 1))) s.1 := W.1
  obtain ⟨h2, W2, e2, F2, K⟩ := N h1 (F1.X hC X) (by rw [eh]; exact ⟨V1.g w, rfl, rfl, vok_add W.2.2.2 (by omega) hi⟩) (by rw [eh]; exact e)
  refine ⟨h2, W2, e2, F1.tr F2, fun Q bc bs o k ls l2 l1 l0 => ?_⟩
  rw [eh] at K
  rcases pl2 with q | q
  · have ep : pP T s.1.1 c x = 2 * c := if_neg (by rw [q]; decide)
    rw [q] at Rl
    rw [ep] at Ru
    refine r_aload_n (q152 (i := 26) rfl) l0 ?_
    refine r_getR (b := 1073) (q152 (i := 27) rfl) rfl (by decide) (k_47 S) (fun _ _ _ => rfl) (r_47_19 S) ?_
    refine r_iload_n (q152 (i := 28) rfl) l2 ?_
    refine r_iaN (x := (-1)) (q152 (i := 29) rfl) (k_1073 S) (by omega) (by decide) ex ?_
    refine r_iconst (v := (-1)) (q152 (i := 30) rfl) (by decide) ?_
    refine r_icmp 156 (q152 (i := 31) rfl) (by decide) (fun zz => absurd zz (show ¬ (¬ (-1 : Int32) = (-1)) from by decide)) (fun _ => ?_)
    refine r_aload_n (q152 (i := 32) rfl) l0 ?_
    refine r_iload_n (q152 (i := 33) rfl) l2 ?_
    refine r_cV (d := _) (q152 (i := 34) rfl) rfl rfl rfl (k_47 S) (Nat.le_of_ble_eq_true rfl) (Nat.zero_le _) (Nat.zero_le _) Rc ?_
    show Wp _ _ _ 55 ls [.int (nI c)] h _ _
    refine r_istore_n (ls' := lset1 ls 3 (.int (nI c))) (q152 (i := 35) rfl) (Nat.le_of_ble_eq_true rfl) rfl ?_
    have l2 := lk1 (k := 3) (v := .int (nI c)) l2 (by decide) (Or.inl rfl)
    have l1 := lk1 (k := 3) (v := .int (nI c)) l1 (by decide) (Or.inr (by decide))
    have l0 := lk1 (k := 3) (v := .int (nI c)) l0 (by decide) (Or.inr (by decide))
    have l3 := lk0 ls 3 (.int (nI c))
    generalize lset1 ls 3 (.int (nI c)) = ls at l3 l2 l1 l0 ⊢
    refine r_iload_n (q152 (i := 36) rfl) l3 ?_
    refine r_iconst (v := (-1)) (q152 (i := 37) rfl) (by decide) ?_
    refine r_icmp 73 (q152 (i := 38) rfl) (by decide) (fun _ => ?_) (fun zz => absurd (show ¬ nI c = (-1) from nI_ne1 (by omega)) zz)
    refine r_aload_n (q152 (i := 47) rfl) l0 ?_
    refine r_dup (q152 (i := 48) rfl) rfl ?_
    refine r_getI (x := nI s.2.2) (q152 (i := 49) rfl) rfl (by decide) (k_47 S) (fun _ _ _ => rfl) W.2.2.1 ?_
    refine r_iconst (v := 1) (q152 (i := 50) rfl) (by decide) ?_
    refine r_iadd (q152 (i := 51) rfl) ?_
    rw [show ((nI s.2.2) + 1 : Int32) = nI (s.2.2 + 1) from nI_1 _]
    refine r_putI (q152 (i := 52) rfl) rfl (by decide) (k_47 S) rfl rfl ?_
    refine r_aload_n (q152 (i := 53) rfl) l0 ?_
    refine r_iload_n (q152 (i := 54) rfl) l2 ?_
    refine r_iload_n (q152 (i := 55) rfl) l3 ?_
    refine r_cV (d := _) (q152 (i := 56) rfl) rfl rfl rfl (k_47 S) (Nat.le_of_ble_eq_true rfl) (Nat.zero_le _) (Nat.zero_le _) Rl ?_
    show Wp _ _ _ 89 ls [.int 1] (sI h 47 21 (nI (s.2.2 + 1))) _ _
    refine r_iconst (v := 1) (q152 (i := 57) rfl) (by decide) ?_
    refine r_icmp 99 (q152 (i := 58) rfl) (by decide) (fun zz => absurd zz (show ¬ (¬ (1 : Int32) = 1) from by decide)) (fun _ => ?_)
    refine r_iconst (v := 2) (q152 (i := 59) rfl) (by decide) ?_
    refine r_iload_n (q152 (i := 60) rfl) l3 ?_
    refine r_imul (q152 (i := 61) rfl) ?_
    rw [show (2 * (nI c) : Int32) = nI (2 * c) from nI_mul 2 c]
    refine r_goto 104 (q152 (i := 62) rfl) (by decide) ?_
    refine r_istore (ls' := lset1 ls 4 (.int (nI (2 * c)))) (q152 (i := 68) rfl) (Nat.le_of_ble_eq_true rfl) rfl ?_
    have l3 := lk1 (k := 4) (v := .int (nI (2 * c))) l3 (by decide) (Or.inl rfl)
    have l2 := lk1 (k := 4) (v := .int (nI (2 * c))) l2 (by decide) (Or.inr (by decide))
    have l1 := lk1 (k := 4) (v := .int (nI (2 * c))) l1 (by decide) (Or.inr (by decide))
    have l0 := lk1 (k := 4) (v := .int (nI (2 * c))) l0 (by decide) (Or.inr (by decide))
    have l4 := lk0 ls 4 (.int (nI (2 * c)))
    generalize lset1 ls 4 (.int (nI (2 * c))) = ls at l4 l3 l2 l1 l0 ⊢
    refine r_aload_n (q152 (i := 69) rfl) l0 ?_
    refine r_iconst (v := 2) (q152 (i := 70) rfl) (by decide) ?_
    refine r_iload_n (q152 (i := 71) rfl) l2 ?_
    refine r_imul (q152 (i := 72) rfl) ?_
    rw [show (2 * (nI x) : Int32) = nI (2 * x) from nI_mul 2 x]
    refine r_iload (q152 (i := 73) rfl) l4 ?_
    refine r_cV (d := _) (q152 (i := 74) rfl) rfl rfl rfl (k_47 S) (Nat.le_of_ble_eq_true rfl) (Nat.zero_le _) (Nat.zero_le _) Ru ?_
    show Wp _ _ _ 115 ls [.int (nI w)] (sI h 47 21 (nI (s.2.2 + 1))) _ _
    refine r_istore (ls' := lset1 ls 5 (.int (nI w))) (q152 (i := 75) rfl) (Nat.le_of_ble_eq_true rfl) rfl ?_
    have l4 := lk1 (k := 5) (v := .int (nI w)) l4 (by decide) (Or.inl rfl)
    have l3 := lk1 (k := 5) (v := .int (nI w)) l3 (by decide) (Or.inr (by decide))
    have l2 := lk1 (k := 5) (v := .int (nI w)) l2 (by decide) (Or.inr (by decide))
    have l1 := lk1 (k := 5) (v := .int (nI w)) l1 (by decide) (Or.inr (by decide))
    have l0 := lk1 (k := 5) (v := .int (nI w)) l0 (by decide) (Or.inr (by decide))
    have l5 := lk0 ls 5 (.int (nI w))
    generalize lset1 ls 5 (.int (nI w)) = ls at l5 l4 l3 l2 l1 l0 ⊢
    refine r_iload (q152 (i := 76) rfl) l5 ?_
    refine r_iconst (v := (-1)) (q152 (i := 77) rfl) (by decide) ?_
    refine r_icmp 137 (q152 (i := 78) rfl) (by decide) (fun _ => ?_) (fun zz => absurd (show ¬ nI w = (-1) from nI_ne1 (by omega)) zz)
    refine r_aload_n (q152 (i := 86) rfl) l0 ?_
    refine r_iload (q152 (i := 87) rfl) l5 ?_
    refine r_cV (d := _) (q152 (i := 88) rfl) rfl rfl rfl (k_47 S) (Nat.le_of_ble_eq_true rfl) (Nat.zero_le _) (Nat.zero_le _) Rv ?_
    show Wp _ _ _ 143 ls [] (givM (sI h 47 21 (nI (s.2.2 + 1))) w s.1.2.2) _ _
    refine r_aload_n (q152 (i := 89) rfl) l0 ?_
    refine r_dup (q152 (i := 90) rfl) rfl ?_
    refine r_getI (x := nI s.2.1) (q152 (i := 91) rfl) rfl (by decide) (k_47 S) (fun _ _ _ => rfl) W.2.1 ?_
    refine r_iconst (v := 1) (q152 (i := 92) rfl) (by decide) ?_
    refine r_iadd (q152 (i := 93) rfl) ?_
    rw [show ((nI s.2.1) + 1 : Int32) = nI (s.2.1 + 1) from nI_1 _]
    refine r_putI (q152 (i := 94) rfl) rfl (by decide) (k_47 S) rfl rfl ?_
    refine r_goto 40 (q152 (i := 95) rfl) (by decide) ?_
    exact K Q bc bs o k ls l2 l1 l0
  · have ep : pP T s.1.1 c x = 2 * c + 1 := if_pos q
    rw [q] at Rl
    rw [ep] at Ru
    refine r_aload_n (q152 (i := 26) rfl) l0 ?_
    refine r_getR (b := 1073) (q152 (i := 27) rfl) rfl (by decide) (k_47 S) (fun _ _ _ => rfl) (r_47_19 S) ?_
    refine r_iload_n (q152 (i := 28) rfl) l2 ?_
    refine r_iaN (x := (-1)) (q152 (i := 29) rfl) (k_1073 S) (by omega) (by decide) ex ?_
    refine r_iconst (v := (-1)) (q152 (i := 30) rfl) (by decide) ?_
    refine r_icmp 156 (q152 (i := 31) rfl) (by decide) (fun zz => absurd zz (show ¬ (¬ (-1 : Int32) = (-1)) from by decide)) (fun _ => ?_)
    refine r_aload_n (q152 (i := 32) rfl) l0 ?_
    refine r_iload_n (q152 (i := 33) rfl) l2 ?_
    refine r_cV (d := _) (q152 (i := 34) rfl) rfl rfl rfl (k_47 S) (Nat.le_of_ble_eq_true rfl) (Nat.zero_le _) (Nat.zero_le _) Rc ?_
    show Wp _ _ _ 55 ls [.int (nI c)] h _ _
    refine r_istore_n (ls' := lset1 ls 3 (.int (nI c))) (q152 (i := 35) rfl) (Nat.le_of_ble_eq_true rfl) rfl ?_
    have l2 := lk1 (k := 3) (v := .int (nI c)) l2 (by decide) (Or.inl rfl)
    have l1 := lk1 (k := 3) (v := .int (nI c)) l1 (by decide) (Or.inr (by decide))
    have l0 := lk1 (k := 3) (v := .int (nI c)) l0 (by decide) (Or.inr (by decide))
    have l3 := lk0 ls 3 (.int (nI c))
    generalize lset1 ls 3 (.int (nI c)) = ls at l3 l2 l1 l0 ⊢
    refine r_iload_n (q152 (i := 36) rfl) l3 ?_
    refine r_iconst (v := (-1)) (q152 (i := 37) rfl) (by decide) ?_
    refine r_icmp 73 (q152 (i := 38) rfl) (by decide) (fun _ => ?_) (fun zz => absurd (show ¬ nI c = (-1) from nI_ne1 (by omega)) zz)
    refine r_aload_n (q152 (i := 47) rfl) l0 ?_
    refine r_dup (q152 (i := 48) rfl) rfl ?_
    refine r_getI (x := nI s.2.2) (q152 (i := 49) rfl) rfl (by decide) (k_47 S) (fun _ _ _ => rfl) W.2.2.1 ?_
    refine r_iconst (v := 1) (q152 (i := 50) rfl) (by decide) ?_
    refine r_iadd (q152 (i := 51) rfl) ?_
    rw [show ((nI s.2.2) + 1 : Int32) = nI (s.2.2 + 1) from nI_1 _]
    refine r_putI (q152 (i := 52) rfl) rfl (by decide) (k_47 S) rfl rfl ?_
    refine r_aload_n (q152 (i := 53) rfl) l0 ?_
    refine r_iload_n (q152 (i := 54) rfl) l2 ?_
    refine r_iload_n (q152 (i := 55) rfl) l3 ?_
    refine r_cV (d := _) (q152 (i := 56) rfl) rfl rfl rfl (k_47 S) (Nat.le_of_ble_eq_true rfl) (Nat.zero_le _) (Nat.zero_le _) Rl ?_
    show Wp _ _ _ 89 ls [.int 2] (sI h 47 21 (nI (s.2.2 + 1))) _ _
    refine r_iconst (v := 1) (q152 (i := 57) rfl) (by decide) ?_
    refine r_icmp 99 (q152 (i := 58) rfl) (by decide) (fun _ => ?_) (fun zz => absurd (show ¬ (2 : Int32) = 1 from by decide) zz)
    refine r_iconst (v := 2) (q152 (i := 63) rfl) (by decide) ?_
    refine r_iload_n (q152 (i := 64) rfl) l3 ?_
    refine r_imul (q152 (i := 65) rfl) ?_
    rw [show (2 * (nI c) : Int32) = nI (2 * c) from nI_mul 2 c]
    refine r_iconst (v := 1) (q152 (i := 66) rfl) (by decide) ?_
    refine r_iadd (q152 (i := 67) rfl) ?_
    rw [show ((nI (2 * c)) + 1 : Int32) = nI (2 * c + 1) from nI_1 _]
    refine r_istore (ls' := lset1 ls 4 (.int (nI (2 * c + 1)))) (q152 (i := 68) rfl) (Nat.le_of_ble_eq_true rfl) rfl ?_
    have l3 := lk1 (k := 4) (v := .int (nI (2 * c + 1))) l3 (by decide) (Or.inl rfl)
    have l2 := lk1 (k := 4) (v := .int (nI (2 * c + 1))) l2 (by decide) (Or.inr (by decide))
    have l1 := lk1 (k := 4) (v := .int (nI (2 * c + 1))) l1 (by decide) (Or.inr (by decide))
    have l0 := lk1 (k := 4) (v := .int (nI (2 * c + 1))) l0 (by decide) (Or.inr (by decide))
    have l4 := lk0 ls 4 (.int (nI (2 * c + 1)))
    generalize lset1 ls 4 (.int (nI (2 * c + 1))) = ls at l4 l3 l2 l1 l0 ⊢
    refine r_aload_n (q152 (i := 69) rfl) l0 ?_
    refine r_iconst (v := 2) (q152 (i := 70) rfl) (by decide) ?_
    refine r_iload_n (q152 (i := 71) rfl) l2 ?_
    refine r_imul (q152 (i := 72) rfl) ?_
    rw [show (2 * (nI x) : Int32) = nI (2 * x) from nI_mul 2 x]
    refine r_iload (q152 (i := 73) rfl) l4 ?_
    refine r_cV (d := _) (q152 (i := 74) rfl) rfl rfl rfl (k_47 S) (Nat.le_of_ble_eq_true rfl) (Nat.zero_le _) (Nat.zero_le _) Ru ?_
    show Wp _ _ _ 115 ls [.int (nI w)] (sI h 47 21 (nI (s.2.2 + 1))) _ _
    refine r_istore (ls' := lset1 ls 5 (.int (nI w))) (q152 (i := 75) rfl) (Nat.le_of_ble_eq_true rfl) rfl ?_
    have l4 := lk1 (k := 5) (v := .int (nI w)) l4 (by decide) (Or.inl rfl)
    have l3 := lk1 (k := 5) (v := .int (nI w)) l3 (by decide) (Or.inr (by decide))
    have l2 := lk1 (k := 5) (v := .int (nI w)) l2 (by decide) (Or.inr (by decide))
    have l1 := lk1 (k := 5) (v := .int (nI w)) l1 (by decide) (Or.inr (by decide))
    have l0 := lk1 (k := 5) (v := .int (nI w)) l0 (by decide) (Or.inr (by decide))
    have l5 := lk0 ls 5 (.int (nI w))
    generalize lset1 ls 5 (.int (nI w)) = ls at l5 l4 l3 l2 l1 l0 ⊢
    refine r_iload (q152 (i := 76) rfl) l5 ?_
    refine r_iconst (v := (-1)) (q152 (i := 77) rfl) (by decide) ?_
    refine r_icmp 137 (q152 (i := 78) rfl) (by decide) (fun _ => ?_) (fun zz => absurd (show ¬ nI w = (-1) from nI_ne1 (by omega)) zz)
    refine r_aload_n (q152 (i := 86) rfl) l0 ?_
    refine r_iload (q152 (i := 87) rfl) l5 ?_
    refine r_cV (d := _) (q152 (i := 88) rfl) rfl rfl rfl (k_47 S) (Nat.le_of_ble_eq_true rfl) (Nat.zero_le _) (Nat.zero_le _) Rv ?_
    show Wp _ _ _ 143 ls [] (givM (sI h 47 21 (nI (s.2.2 + 1))) w s.1.2.2) _ _
    refine r_aload_n (q152 (i := 89) rfl) l0 ?_
    refine r_dup (q152 (i := 90) rfl) rfl ?_
    refine r_getI (x := nI s.2.1) (q152 (i := 91) rfl) rfl (by decide) (k_47 S) (fun _ _ _ => rfl) W.2.1 ?_
    refine r_iconst (v := 1) (q152 (i := 92) rfl) (by decide) ?_
    refine r_iadd (q152 (i := 93) rfl) ?_
    rw [show ((nI s.2.1) + 1 : Int32) = nI (s.2.1 + 1) from nI_1 _]
    refine r_putI (q152 (i := 94) rfl) rfl (by decide) (k_47 S) rfl rfl ?_
    refine r_goto 40 (q152 (i := 95) rfl) (by decide) ?_
    exact K Q bc bs o k ls l2 l1 l0
/-- what the class does at the candidate c -/
noncomputable def XT2 (T : Nat → Nat → Int64) (n x : Nat) (rep : Nat → Nat) (m c t : Nat) (s : sst) : Nat × sst := match (askT T n c x t s).1 with
  | some p => (p, (askT T n c x t s).2)
  | none => repT T n x rep m (c + 1) (askT T n c x t s).2
theorem NS_ask {n C : Nat} {T : Nat → Nat → Int64} (hn : n ≤ 12) (hC : C ≤ 1000) {x : Nat} (hx : x < C) {rep : Nat → Nat} (hre : ∀ k, k < x → rep k ≤ 2 * k) {R : Nat → Int32} (hR : ∀ k, k < x → R k = nI (rep k)) {m c : Nat} (hc : c < x) (hc2 : rep c = 2 * c) (N : ∀ (s : sst) (h : hp), (∀ i, i < c + 1 → rep i = 2 * i → lik T s.1.1 i x = 0) → XS h n C T → SWM h s → hI h 1073 = u1 R x (-1) → NS x h (repT T n x rep m (c + 1) s).2 R (repT T n x rep m (c + 1) s).1) : ∀ (t : Nat) (s : sst) (h : hp), t ≤ 2 → AI T s.1.1 c x t → (∀ i, i < c → rep i = 2 * i → lik T s.1.1 i x = 0) → XS h n C T → SWM h s → hI h 1073 = u1 R x (-1) → NS x h (XT2 T n x rep m c t s).2 R (XT2 T n x rep m c t s).1 := by
  have h12 := pow12 hn
  have up : ∀ s : sst, (∀ i, i < c → rep i = 2 * i → lik T s.1.1 i x = 0) → lik T s.1.1 c x = 0 → ∀ i, i < c + 1 → rep i = 2 * i → lik T s.1.1 i x = 0 := fun s H hl i hi hr => by
    by_cases e : i = c
    · rw [e]; exact hl
    · exact H i (by omega) hr
  intro t
  induction t with
  | zero =>
    intro s h _ ai H X W e
    exact N s h (up s H (lik_0.mpr ai)) X W e
  | succ t ih =>
    intro s h ht ai H X W e
    by_cases hl : lik T s.1.1 c x = 0
    · have ea : askT T n c x (t + 1) s = (none, s) := if_pos hl
      unfold XT2
      rw [ea]
      exact N s h (up s H hl) X W e
    · by_cases hw : wdp T n (pP T s.1.1 c x) x = 2 ^ n
      · have ea : askT T n c x (t + 1) s = (some (pP T s.1.1 c x), (s.1, s.2.1, s.2.2 + 1)) := by
          show (if _ then _ else _) = _
          rw [if_neg hl, if_pos hw]
        unfold XT2
        rw [ea]
        exact NS_yes hn hC hx hre hR X W e hc hc2 hl H hw
      · have ea : askT T n c x (t + 1) s = askT T n c x t (vadd s.1 (wdp T n (pP T s.1.1 c x) x), s.2.1 + 1, s.2.2 + 1) := by
          show (if _ then _ else _) = _
          rw [if_neg hl, if_neg hw]
        have ex : XT2 T n x rep m c (t + 1) s = XT2 T n x rep m c t (vadd s.1 (wdp T n (pP T s.1.1 c x) x), s.2.1 + 1, s.2.2 + 1) := by
          unfold XT2
          rw [ea]
        rw [ex]
        obtain ⟨w1, w2⟩ := wdp_lt T n _ x hw
        exact NS_more hn hC hx hre hR X W e hc hc2 hl H hw (fun h1 X1 W1 e1 => ih _ h1 (by omega) (AI_s (by omega) ai hl w2 (by omega)) (fun i hi hr => lik_up (H i hi hr)) X1 W1 e1)
theorem NS_all {n C : Nat} {T : Nat → Nat → Int64} (hn : n ≤ 12) (hC : C ≤ 1000) {x : Nat} (hx : x < C) {rep : Nat → Nat} (hre : ∀ k, k < x → rep k ≤ 2 * k) {R : Nat → Int32} (hR : ∀ k, k < x → R k = nI (rep k)) : ∀ (m c : Nat) (s : sst) (h : hp), c + m = x → (∀ i, i < c → rep i = 2 * i → lik T s.1.1 i x = 0) → XS h n C T → SWM h s → hI h 1073 = u1 R x (-1) → NS x h (repT T n x rep m c s).2 R (repT T n x rep m c s).1 := by
  intro m
  induction m with
  | zero =>
    intro c s h hm H X W e
    exact NS_none hn hC hx hre hR X W e (fun i hi => H i (by omega))
  | succ m ih =>
    intro c s h hm H X W e
    by_cases hc : rep c = 2 * c
    · have er : repT T n x rep (m + 1) c s = XT2 T n x rep m c 2 s := by
        show (if rep c = 2 * c then _ else _) = _
        rw [if_pos hc]
        rfl
      rw [er]
      exact NS_ask hn hC hx hre hR (by omega) hc (fun s h H X W e => ih (c + 1) s h (by omega) H X W e) 2 s h (Nat.le_refl _) True.intro H X W e
    · have er : repT T n x rep (m + 1) c s = repT T n x rep m (c + 1) s := by
        show (if rep c = 2 * c then _ else _) = _
        rw [if_neg hc]
      rw [er]
      exact ih (c + 1) s h (by omega) (fun i hi hr => by
        by_cases y : i = c
        · rw [y] at hr; exact absurd hr hc
        · exact H i (by omega) hr) X W e
