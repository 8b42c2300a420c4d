/-! ===== what the graph is asked ===== -/
noncomputable def aCnt (σ : st8) (x : Int32) : Int32 := if x = 0 then nI (gC (zG σ)) else if x = 1 then nI (zn σ) else if x = 2 then nI (za σ).2.1 else if x = 3 then nI (zb σ).2.1 else if x = 4 then nI (za σ).2.2.2 else if x = 5 then nI (zb σ).2.2.2 else if x = 6 then nI (zv σ).2.2 else if x = 7 then nI (cntB (lead (gW (zG σ)) (zv σ).1) (gC (zG σ))) else if x = 8 then nI (zt σ).2 else -1
theorem toInt_out {x : Int32} {m : Nat} (hm : m < 2 ^ 31) (h : ∀ k : Nat, k ≤ m → x ≠ nI k) : x.toInt < 0 ∨ (m : Int) < x.toInt := by
  rcases Int.lt_or_le x.toInt 0 with y | y
  · exact Or.inl y
  · right
    obtain ⟨w, hw, e⟩ := nI_of (x := x) (fun q => by rw [Int32.lt_iff_toInt_lt] at q; exact absurd q (by have : (0 : Int32).toInt = 0 := rfl; omega))
    have : ¬ w ≤ m := fun q => h w q e
    rw [e, nI_toInt hw]
    omega
set_option maxHeartbeats 2000000 in
set_option maxRecDepth 10000 in
theorem xs_count {h : hp} {ρ e : Nat} {σ : st8} (C : CI h ρ e σ) (Z : zok σ) (x : Int32) : CStep 87 [.ref 2, .int x] h e (aCnt σ x) σ := by
  have S := C.1.1
  unfold aCnt
  by_cases x0 : x = 0
  · rw [if_pos x0]
    subst x0
    obtain ⟨h1, ρ1, e1, mc, ms, R1, C1, B1, y, F1⟩ := C.up Z
    have S1 := C1.1.1
    refine ⟨h1, ρ1, e1, mc, ms, ?_, C1, y, F1.C⟩
    refine Run.of (d := 7) (Nat.le_of_ble_eq_true rfl) (fun Q hQ => ?_)
    show Wp (Ex 7) 87 Q 0 [(0, .ref 2), (1, .int 0)] [] h mc ms
    refine r_iload_n (q87 (i := 0) rfl) rfl ?_
    refine r_swIn (off := 51) 52 (q87 (i := 1) rfl) (by decide) (by decide) (by decide) (by decide) ?_
    refine r_aload_n (q87 (i := 2) rfl) rfl ?_
    refine r_getR (b := 21) (q87 (i := 3) rfl) rfl (by decide) (k_2 S) (fun _ _ _ => rfl) (r_2_3 S) ?_
    refine r_cV (d := _) (q87 (i := 4) rfl) rfl rfl rfl (k_21 S) (Nat.le_of_ble_eq_true rfl) (Nat.le_refl _) (Nat.le_refl _) R1 ?_
    show Wp _ _ _ 59 [(0, .ref 2), (1, .int 0)] [] h1 _ _
    refine r_aload_n (q87 (i := 5) rfl) rfl ?_
    refine r_getR (b := 21) (q87 (i := 6) rfl) rfl (by decide) (k_2 S1) (fun _ _ _ => rfl) (r_2_3 S1) ?_
    refine r_getI (x := nI (gC (zG σ))) (q87 (i := 7) rfl) rfl (by decide) (k_21 S1) (fun _ _ _ => rfl) B1.1.2.1.2.2.1 ?_
    exact r_iret (q87 (i := 8) rfl) rfl hQ
  rw [if_neg x0]
  by_cases x1 : x = 1
  · rw [if_pos x1]
    subst x1
    refine CStep.of (?_ : Run (7 + 1) 87 _ h 0 0 _ h) C (FC.rf h)
    refine Run.of (Nat.le_of_ble_eq_true rfl) (fun Q hQ => ?_)
    show Wp (Ex 7) 87 Q 0 [(0, .ref 2), (1, .int 1)] [] h 0 0
    refine r_iload_n (q87 (i := 0) rfl) rfl ?_
    refine r_swIn (off := 66) 67 (q87 (i := 1) rfl) (by decide) (by decide) (by decide) (by decide) ?_
    refine r_aload_n (q87 (i := 9) rfl) rfl ?_
    refine r_getI (x := nI (zn σ)) (q87 (i := 10) rfl) rfl (by decide) (k_2 S) (fun _ _ _ => rfl) C.2.1.1 ?_
    exact r_iret (q87 (i := 11) rfl) rfl hQ
  rw [if_neg x1]
  by_cases x2 : x = 2
  · rw [if_pos x2]
    subst x2
    refine CStep.of (?_ : Run (7 + 1) 87 _ h 0 0 _ h) C (FC.rf h)
    refine Run.of (Nat.le_of_ble_eq_true rfl) (fun Q hQ => ?_)
    show Wp (Ex 7) 87 Q 0 [(0, .ref 2), (1, .int 2)] [] h 0 0
    refine r_iload_n (q87 (i := 0) rfl) rfl ?_
    refine r_swIn (off := 71) 72 (q87 (i := 1) rfl) (by decide) (by decide) (by decide) (by decide) ?_
    refine r_aload_n (q87 (i := 12) rfl) rfl ?_
    refine r_getR (b := 3) (q87 (i := 13) rfl) rfl (by decide) (k_2 S) (fun _ _ _ => rfl) (r_2_0 S) ?_
    refine r_getI (x := nI (za σ).2.1) (q87 (i := 14) rfl) rfl (by decide) (k_3 S) (fun _ _ _ => rfl) C.2.2.1.1.2.1 ?_
    exact r_iret (q87 (i := 15) rfl) rfl hQ
  rw [if_neg x2]
  by_cases x3 : x = 3
  · rw [if_pos x3]
    subst x3
    refine CStep.of (?_ : Run (7 + 1) 87 _ h 0 0 _ h) C (FC.rf h)
    refine Run.of (Nat.le_of_ble_eq_true rfl) (fun Q hQ => ?_)
    show Wp (Ex 7) 87 Q 0 [(0, .ref 2), (1, .int 3)] [] h 0 0
    refine r_iload_n (q87 (i := 0) rfl) rfl ?_
    refine r_swIn (off := 79) 80 (q87 (i := 1) rfl) (by decide) (by decide) (by decide) (by decide) ?_
    refine r_aload_n (q87 (i := 16) rfl) rfl ?_
    refine r_getR (b := 10) (q87 (i := 17) rfl) rfl (by decide) (k_2 S) (fun _ _ _ => rfl) (r_2_1 S) ?_
    refine r_getI (x := nI (zb σ).2.1) (q87 (i := 18) rfl) rfl (by decide) (k_10 S) (fun _ _ _ => rfl) C.2.2.2.1.1.2.1 ?_
    exact r_iret (q87 (i := 19) rfl) rfl hQ
  rw [if_neg x3]
  by_cases x4 : x = 4
  · rw [if_pos x4]
    subst x4
    refine CStep.of (?_ : Run (7 + 1) 87 _ h 0 0 _ h) C (FC.rf h)
    refine Run.of (Nat.le_of_ble_eq_true rfl) (fun Q hQ => ?_)
    show Wp (Ex 7) 87 Q 0 [(0, .ref 2), (1, .int 4)] [] h 0 0
    refine r_iload_n (q87 (i := 0) rfl) rfl ?_
    refine r_swIn (off := 87) 88 (q87 (i := 1) rfl) (by decide) (by decide) (by decide) (by decide) ?_
    refine r_aload_n (q87 (i := 20) rfl) rfl ?_
    refine r_getR (b := 3) (q87 (i := 21) rfl) rfl (by decide) (k_2 S) (fun _ _ _ => rfl) (r_2_0 S) ?_
    refine r_getI (x := nI (za σ).2.2.2) (q87 (i := 22) rfl) rfl (by decide) (k_3 S) (fun _ _ _ => rfl) C.2.2.1.1.2.2.2 ?_
    exact r_iret (q87 (i := 23) rfl) rfl hQ
  rw [if_neg x4]
  by_cases x5 : x = 5
  · rw [if_pos x5]
    subst x5
    refine CStep.of (?_ : Run (7 + 1) 87 _ h 0 0 _ h) C (FC.rf h)
    refine Run.of (Nat.le_of_ble_eq_true rfl) (fun Q hQ => ?_)
    show Wp (Ex 7) 87 Q 0 [(0, .ref 2), (1, .int 5)] [] h 0 0
    refine r_iload_n (q87 (i := 0) rfl) rfl ?_
    refine r_swIn (off := 95) 96 (q87 (i := 1) rfl) (by decide) (by decide) (by decide) (by decide) ?_
    refine r_aload_n (q87 (i := 24) rfl) rfl ?_
    refine r_getR (b := 10) (q87 (i := 25) rfl) rfl (by decide) (k_2 S) (fun _ _ _ => rfl) (r_2_1 S) ?_
    refine r_getI (x := nI (zb σ).2.2.2) (q87 (i := 26) rfl) rfl (by decide) (k_10 S) (fun _ _ _ => rfl) C.2.2.2.1.1.2.2.2 ?_
    exact r_iret (q87 (i := 27) rfl) rfl hQ
  rw [if_neg x5]
  by_cases x6 : x = 6
  · rw [if_pos x6]
    subst x6
    refine CStep.of (?_ : Run (7 + 1) 87 _ h 0 0 _ h) C (FC.rf h)
    refine Run.of (Nat.le_of_ble_eq_true rfl) (fun Q hQ => ?_)
    show Wp (Ex 7) 87 Q 0 [(0, .ref 2), (1, .int 6)] [] h 0 0
    refine r_iload_n (q87 (i := 0) rfl) rfl ?_
    refine r_swIn (off := 103) 104 (q87 (i := 1) rfl) (by decide) (by decide) (by decide) (by decide) ?_
    refine r_aload_n (q87 (i := 28) rfl) rfl ?_
    refine r_getR (b := 17) (q87 (i := 29) rfl) rfl (by decide) (k_2 S) (fun _ _ _ => rfl) (r_2_2 S) ?_
    refine r_getI (x := nI (zv σ).2.2) (q87 (i := 30) rfl) rfl (by decide) (k_17 S) (fun _ _ _ => rfl) C.2.2.2.2.1.2.2.1 ?_
    exact r_iret (q87 (i := 31) rfl) rfl hQ
  rw [if_neg x6]
  by_cases x7 : x = 7
  · rw [if_pos x7]
    subst x7
    obtain ⟨h1, ρ1, e1, mc, ms, R1, C1, B1, y, F1⟩ := C.up Z
    have S1 := C1.1.1
    obtain ⟨h2, R2, C2, B2, D2, F2⟩ := sp_bug C1 B1
    have S2 := C2.1.1
    refine ⟨h2, ρ1, e1, mc, ms, ?_, C2, y, F1.C.tr F2⟩
    refine Run.of (d := 7) (Nat.le_of_ble_eq_true rfl) (fun Q hQ => ?_)
    show Wp (Ex 7) 87 Q 0 [(0, .ref 2), (1, .int 7)] [] h mc ms
    refine r_iload_n (q87 (i := 0) rfl) rfl ?_
    refine r_swIn (off := 111) 112 (q87 (i := 1) rfl) (by decide) (by decide) (by decide) (by decide) ?_
    refine r_aload_n (q87 (i := 32) rfl) rfl ?_
    refine r_getR (b := 21) (q87 (i := 33) rfl) rfl (by decide) (k_2 S) (fun _ _ _ => rfl) (r_2_3 S) ?_
    refine r_cV (d := _) (q87 (i := 34) rfl) rfl rfl rfl (k_21 S) (Nat.le_of_ble_eq_true rfl) (Nat.le_refl _) (Nat.le_refl _) R1 ?_
    show Wp _ _ _ 119 [(0, .ref 2), (1, .int 7)] [] h1 _ _
    refine r_aload_n (q87 (i := 35) rfl) rfl ?_
    refine r_cV (d := _) (q87 (i := 36) rfl) rfl rfl rfl (k_2 S1) (Nat.le_of_ble_eq_true rfl) (Nat.zero_le _) (Nat.zero_le _) R2 ?_
    show Wp _ _ _ 123 [(0, .ref 2), (1, .int 7)] [] h2 _ _
    refine r_aload_n (q87 (i := 37) rfl) rfl ?_
    refine r_getR (b := 27) (q87 (i := 38) rfl) rfl (by decide) (k_2 S2) (fun _ _ _ => rfl) (r_2_4 S2) ?_
    refine r_getI (x := nI (cntB (lead (gW (zG σ)) (zv σ).1) (gC (zG σ)))) (q87 (i := 39) rfl) rfl (by decide) (k_27 S2) (fun _ _ _ => rfl) D2.1 ?_
    exact r_iret (q87 (i := 40) rfl) rfl hQ
  rw [if_neg x7]
  by_cases x8 : x = 8
  · rw [if_pos x8]
    subst x8
    refine CStep.of (?_ : Run (7 + 1) 87 _ h 0 0 _ h) C (FC.rf h)
    refine Run.of (Nat.le_of_ble_eq_true rfl) (fun Q hQ => ?_)
    show Wp (Ex 7) 87 Q 0 [(0, .ref 2), (1, .int 8)] [] h 0 0
    refine r_iload_n (q87 (i := 0) rfl) rfl ?_
    refine r_swIn (off := 130) 131 (q87 (i := 1) rfl) (by decide) (by decide) (by decide) (by decide) ?_
    refine r_aload_n (q87 (i := 41) rfl) rfl ?_
    refine r_getR (b := 33) (q87 (i := 42) rfl) rfl (by decide) (k_2 S) (fun _ _ _ => rfl) (r_2_6 S) ?_
    refine r_getI (x := nI (zt σ).2) (q87 (i := 43) rfl) rfl (by decide) (k_33 S) (fun _ _ _ => rfl) C.2.2.2.2.2.1.2.1 ?_
    exact r_iret (q87 (i := 44) rfl) rfl hQ
  rw [if_neg x8]
  refine CStep.of (?_ : Run (7 + 1) 87 _ h 0 0 _ h) C (FC.rf h)
  refine Run.of (Nat.le_of_ble_eq_true rfl) (fun Q hQ => ?_)
  show Wp (Ex 7) 87 Q 0 [(0, .ref 2), (1, .int x)] [] h 0 0
  have ho := toInt_out (x := x) (m := 8) (by decide) (fun k hk => by
    have : k = 0 ∨ k = 1 ∨ k = 2 ∨ k = 3 ∨ k = 4 ∨ k = 5 ∨ k = 6 ∨ k = 7 ∨ k = 8 := by omega
    rcases this with rfl | rfl | rfl | rfl | rfl | rfl | rfl | rfl | rfl
    · exact x0
    · exact x1
    · exact x2
    · exact x3
    · exact x4
    · exact x5
    · exact x6
    · exact x7
    · exact x8)
  refine r_iload_n (q87 (i := 0) rfl) rfl ?_
  refine r_swOut 139 (q87 (i := 1) rfl) (ho) (by decide) ?_
  refine r_iconst (v := (-1)) (q87 (i := 45) rfl) (by decide) ?_
  exact r_iret (q87 (i := 46) rfl) rfl hQ
def okn (σ : st8) (x : Int32) : Bool := decide (¬ x < 0 ∧ x < nI (gC (zG σ)))
theorem zC {σ : st8} (Z : zok σ) : gC (zG σ) ≤ 973 := by
  obtain ⟨⟨x1, x2⟩, y, w, _⟩ := Z
  have := (gB_ok (s := (zb σ).2.1) x2 y.1 w.1 y.2.2.1 w.2.2.1).2
  have := y.1
  have := w.1
  show gC (gB (zn σ) (za σ).1 (zb σ).1 (za σ).2.1 (zb σ).2.1).1 ≤ 973
  omega
theorem okn_t {σ : st8} (Z : zok σ) {x : Int32} (h : okn σ x = true) : ∃ k, k < gC (zG σ) ∧ x = nI k := by
  have h := of_decide_eq_true h
  obtain ⟨w, hw, e⟩ := nI_of h.1
  have hC := zC Z
  have := h.2
  rw [e, nI_ltI hw (by omega)] at this
  exact ⟨w, this, e⟩
noncomputable def aNod (σ : st8) (x y : Int32) : Int32 := if okn σ x then (if y = 2 then nI (ll (gW (zG σ)) (zv σ).1 x.toNatClampNeg) else if x.toNatClampNeg ≤ zn σ then -1 else if y = 0 then nI (gL (zG σ) x.toNatClampNeg) else if y = 1 then nI (gR (zG σ) x.toNatClampNeg) else -1) else -1
set_option maxHeartbeats 2000000 in
set_option maxRecDepth 10000 in
theorem xs_node {h : hp} {ρ e : Nat} {σ : st8} (C : CI h ρ e σ) (Z : zok σ) (x y : Int32) : CStep 88 [.ref 2, .int x, .int y] h e (aNod σ x y) σ := by
  have S := C.1.1
  have hC := zC Z
  obtain ⟨h1, ρ1, e1, mc, ms, R1, C1, B1, yb, F1⟩ := C.up Z
  have S1 := C1.1.1
  have g9 := B1.1.2.1.2.2.1
  have g8 := B1.1.2.1.2.1
  have hn := Z.1.2
  unfold aNod
  by_cases q : okn σ x = true
  · rw [if_pos q]
    have hx := of_decide_eq_true q
    obtain ⟨k, hk, ek⟩ := okn_t Z q
    subst ek
    rw [nI_clamp (by omega)]
    by_cases y2 : y = 2
    · rw [if_pos y2]
      subst y2
      obtain ⟨h2, R2, C2, B2, D2, F2⟩ := sp_bug C1 B1
      have S2 := C2.1.1
      refine ⟨h2, ρ1, e1, mc, ms, ?_, C2, yb, F1.C.tr F2⟩
      refine Run.of (d := 7) (Nat.le_of_ble_eq_true rfl) (fun Q hQ => ?_)
      show Wp (Ex 7) 88 Q 0 [(0, .ref 2), (1, .int (nI k)), (2, .int 2)] [] h mc ms
      refine r_aload_n (q88 (i := 0) rfl) rfl ?_
      refine r_getR (b := 21) (q88 (i := 1) rfl) rfl (by decide) (k_2 S) (fun _ _ _ => rfl) (r_2_3 S) ?_
      refine r_cV (d := _) (q88 (i := 2) rfl) rfl rfl rfl (k_21 S) (Nat.le_of_ble_eq_true rfl) (Nat.le_refl _) (Nat.le_refl _) R1 ?_
      show Wp _ _ _ 7 [(0, .ref 2), (1, .int (nI k)), (2, .int 2)] [] h1 _ _
      refine r_iload_n (q88 (i := 3) rfl) rfl ?_
      refine r_if 22 (q88 (i := 4) rfl) (by decide) (fun zz => absurd zz (show ¬ (nI k < 0) from hx.1)) (fun _ => ?_)
      refine r_iload_n (q88 (i := 5) rfl) rfl ?_
      refine r_aload_n (q88 (i := 6) rfl) rfl ?_
      refine r_getR (b := 21) (q88 (i := 7) rfl) rfl (by decide) (k_2 S1) (fun _ _ _ => rfl) (r_2_3 S1) ?_
      refine r_getI (x := nI (gC (zG σ))) (q88 (i := 8) rfl) rfl (by decide) (k_21 S1) (fun _ _ _ => rfl) g9 ?_
      refine r_icmp 24 (q88 (i := 9) rfl) (by decide) (fun _ => ?_) (fun zz => absurd (show nI k < nI (gC (zG σ)) from hx.2) zz)
      refine r_iload_n (q88 (i := 12) rfl) rfl ?_
      refine r_iconst (v := 2) (q88 (i := 13) rfl) (by decide) ?_
      refine r_icmp 43 (q88 (i := 14) rfl) (by decide) (fun zz => absurd zz (show ¬ (¬ (2 : Int32) = 2) from by decide)) (fun _ => ?_)
      refine r_aload_n (q88 (i := 15) rfl) rfl ?_
      refine r_cV (d := _) (q88 (i := 16) rfl) rfl rfl rfl (k_2 S1) (Nat.le_of_ble_eq_true rfl) (Nat.zero_le _) (Nat.zero_le _) R2 ?_
      show Wp _ _ _ 33 [(0, .ref 2), (1, .int (nI k)), (2, .int 2)] [] h2 _ _
      refine r_aload_n (q88 (i := 17) rfl) rfl ?_
      refine r_getR (b := 27) (q88 (i := 18) rfl) rfl (by decide) (k_2 S2) (fun _ _ _ => rfl) (r_2_4 S2) ?_
      refine r_getR (b := 28) (q88 (i := 19) rfl) rfl (by decide) (k_27 S2) (fun _ _ _ => rfl) (r_27_0 S2) ?_
      refine r_iload_n (q88 (i := 20) rfl) rfl ?_
      refine r_iaN (x := nI (ll (gW (zG σ)) (zv σ).1 k)) (q88 (i := 21) rfl) (k_28 S2) (by omega) (by decide) (D2.2.2 k hk) ?_
      exact r_iret (q88 (i := 22) rfl) rfl hQ
    · rw [if_neg y2]
      obtain ⟨l1, l2⟩ := B1.1.2.2.1 k hk
      have R2 := sp_isAnd (d := 6) S1 (nI k)
      rw [g8, g9] at R2
      refine ⟨h1, ρ1, e1, mc, ms, ?_, C1, yb, F1.C⟩
      refine Run.of (d := 7) (Nat.le_of_ble_eq_true rfl) (fun Q hQ => ?_)
      show Wp (Ex 7) 88 Q 0 [(0, .ref 2), (1, .int (nI k)), (2, .int y)] [] h mc ms
      by_cases kn : k ≤ zn σ
      · rw [if_pos kn] at hQ
        rw [if_pos (nI_le kn (by omega))] at R2
        refine r_aload_n (q88 (i := 0) rfl) rfl ?_
        refine r_getR (b := 21) (q88 (i := 1) rfl) rfl (by decide) (k_2 S) (fun _ _ _ => rfl) (r_2_3 S) ?_
        refine r_cV (d := _) (q88 (i := 2) rfl) rfl rfl rfl (k_21 S) (Nat.le_of_ble_eq_true rfl) (Nat.le_refl _) (Nat.le_refl _) R1 ?_
        show Wp _ _ _ 7 [(0, .ref 2), (1, .int (nI k)), (2, .int y)] [] h1 _ _
        refine r_iload_n (q88 (i := 3) rfl) rfl ?_
        refine r_if 22 (q88 (i := 4) rfl) (by decide) (fun zz => absurd zz (show ¬ (nI k < 0) from hx.1)) (fun _ => ?_)
        refine r_iload_n (q88 (i := 5) rfl) rfl ?_
        refine r_aload_n (q88 (i := 6) rfl) rfl ?_
        refine r_getR (b := 21) (q88 (i := 7) rfl) rfl (by decide) (k_2 S1) (fun _ _ _ => rfl) (r_2_3 S1) ?_
        refine r_getI (x := nI (gC (zG σ))) (q88 (i := 8) rfl) rfl (by decide) (k_21 S1) (fun _ _ _ => rfl) g9 ?_
        refine r_icmp 24 (q88 (i := 9) rfl) (by decide) (fun _ => ?_) (fun zz => absurd (show nI k < nI (gC (zG σ)) from hx.2) zz)
        refine r_iload_n (q88 (i := 12) rfl) rfl ?_
        refine r_iconst (v := 2) (q88 (i := 13) rfl) (by decide) ?_
        refine r_icmp 43 (q88 (i := 14) rfl) (by decide) (fun _ => ?_) (fun zz => absurd (show ¬ y = 2 from y2) zz)
        refine r_aload_n (q88 (i := 23) rfl) rfl ?_
        refine r_getR (b := 21) (q88 (i := 24) rfl) rfl (by decide) (k_2 S1) (fun _ _ _ => rfl) (r_2_3 S1) ?_
        refine r_iload_n (q88 (i := 25) rfl) rfl ?_
        refine r_cV (d := _) (q88 (i := 26) rfl) rfl rfl rfl (k_21 S1) (Nat.le_of_ble_eq_true rfl) (Nat.zero_le _) (Nat.zero_le _) R2 ?_
        show Wp _ _ _ 51 [(0, .ref 2), (1, .int (nI k)), (2, .int y)] [.int 0] h1 _ _
        refine r_if 56 (q88 (i := 27) rfl) (by decide) (fun zz => absurd zz (show ¬ (¬ (0 : Int32) = 0) from by decide)) (fun _ => ?_)
        refine r_iconst (v := (-1)) (q88 (i := 28) rfl) (by decide) ?_
        exact r_iret (q88 (i := 29) rfl) rfl hQ
      · rw [if_neg kn] at hQ
        rw [if_neg (nI_ge (by omega) (by omega)), if_neg (nI_ge hk (by omega))] at R2
        by_cases y0 : y = 0
        · rw [if_pos y0] at hQ
          subst y0
          refine r_aload_n (q88 (i := 0) rfl) rfl ?_
          refine r_getR (b := 21) (q88 (i := 1) rfl) rfl (by decide) (k_2 S) (fun _ _ _ => rfl) (r_2_3 S) ?_
          refine r_cV (d := _) (q88 (i := 2) rfl) rfl rfl rfl (k_21 S) (Nat.le_of_ble_eq_true rfl) (Nat.le_refl _) (Nat.le_refl _) R1 ?_
          show Wp _ _ _ 7 [(0, .ref 2), (1, .int (nI k)), (2, .int 0)] [] h1 _ _
          refine r_iload_n (q88 (i := 3) rfl) rfl ?_
          refine r_if 22 (q88 (i := 4) rfl) (by decide) (fun zz => absurd zz (show ¬ (nI k < 0) from hx.1)) (fun _ => ?_)
          refine r_iload_n (q88 (i := 5) rfl) rfl ?_
          refine r_aload_n (q88 (i := 6) rfl) rfl ?_
          refine r_getR (b := 21) (q88 (i := 7) rfl) rfl (by decide) (k_2 S1) (fun _ _ _ => rfl) (r_2_3 S1) ?_
          refine r_getI (x := nI (gC (zG σ))) (q88 (i := 8) rfl) rfl (by decide) (k_21 S1) (fun _ _ _ => rfl) g9 ?_
          refine r_icmp 24 (q88 (i := 9) rfl) (by decide) (fun _ => ?_) (fun zz => absurd (show nI k < nI (gC (zG σ)) from hx.2) zz)
          refine r_iload_n (q88 (i := 12) rfl) rfl ?_
          refine r_iconst (v := 2) (q88 (i := 13) rfl) (by decide) ?_
          refine r_icmp 43 (q88 (i := 14) rfl) (by decide) (fun _ => ?_) (fun zz => absurd (show ¬ (0 : Int32) = 2 from by decide) zz)
          refine r_aload_n (q88 (i := 23) rfl) rfl ?_
          refine r_getR (b := 21) (q88 (i := 24) rfl) rfl (by decide) (k_2 S1) (fun _ _ _ => rfl) (r_2_3 S1) ?_
          refine r_iload_n (q88 (i := 25) rfl) rfl ?_
          refine r_cV (d := _) (q88 (i := 26) rfl) rfl rfl rfl (k_21 S1) (Nat.le_of_ble_eq_true rfl) (Nat.zero_le _) (Nat.zero_le _) R2 ?_
          show Wp _ _ _ 51 [(0, .ref 2), (1, .int (nI k)), (2, .int 0)] [.int 1] h1 _ _
          refine r_if 56 (q88 (i := 27) rfl) (by decide) (fun _ => ?_) (fun zz => absurd (show ¬ (1 : Int32) = 0 from by decide) zz)
          refine r_iload_n (q88 (i := 30) rfl) rfl ?_
          refine r_if 70 (q88 (i := 31) rfl) (by decide) (fun zz => absurd zz (show ¬ (¬ (0 : Int32) = 0) from by decide)) (fun _ => ?_)
          refine r_aload_n (q88 (i := 32) rfl) rfl ?_
          refine r_getR (b := 21) (q88 (i := 33) rfl) rfl (by decide) (k_2 S1) (fun _ _ _ => rfl) (r_2_3 S1) ?_
          refine r_getR (b := 22) (q88 (i := 34) rfl) rfl (by decide) (k_21 S1) (fun _ _ _ => rfl) (r_21_2 S1) ?_
          refine r_iload_n (q88 (i := 35) rfl) rfl ?_
          refine r_iaN (x := nI (gL (zG σ) k)) (q88 (i := 36) rfl) (k_22 S1) (by omega) (by decide) l1 ?_
          exact r_iret (q88 (i := 37) rfl) rfl hQ
        · rw [if_neg y0] at hQ
          by_cases y1 : y = 1
          · rw [if_pos y1] at hQ
            subst y1
            refine r_aload_n (q88 (i := 0) rfl) rfl ?_
            refine r_getR (b := 21) (q88 (i := 1) rfl) rfl (by decide) (k_2 S) (fun _ _ _ => rfl) (r_2_3 S) ?_
            refine r_cV (d := _) (q88 (i := 2) rfl) rfl rfl rfl (k_21 S) (Nat.le_of_ble_eq_true rfl) (Nat.le_refl _) (Nat.le_refl _) R1 ?_
            show Wp _ _ _ 7 [(0, .ref 2), (1, .int (nI k)), (2, .int 1)] [] h1 _ _
            refine r_iload_n (q88 (i := 3) rfl) rfl ?_
            refine r_if 22 (q88 (i := 4) rfl) (by decide) (fun zz => absurd zz (show ¬ (nI k < 0) from hx.1)) (fun _ => ?_)
            refine r_iload_n (q88 (i := 5) rfl) rfl ?_
            refine r_aload_n (q88 (i := 6) rfl) rfl ?_
            refine r_getR (b := 21) (q88 (i := 7) rfl) rfl (by decide) (k_2 S1) (fun _ _ _ => rfl) (r_2_3 S1) ?_
            refine r_getI (x := nI (gC (zG σ))) (q88 (i := 8) rfl) rfl (by decide) (k_21 S1) (fun _ _ _ => rfl) g9 ?_
            refine r_icmp 24 (q88 (i := 9) rfl) (by decide) (fun _ => ?_) (fun zz => absurd (show nI k < nI (gC (zG σ)) from hx.2) zz)
            refine r_iload_n (q88 (i := 12) rfl) rfl ?_
            refine r_iconst (v := 2) (q88 (i := 13) rfl) (by decide) ?_
            refine r_icmp 43 (q88 (i := 14) rfl) (by decide) (fun _ => ?_) (fun zz => absurd (show ¬ (1 : Int32) = 2 from by decide) zz)
            refine r_aload_n (q88 (i := 23) rfl) rfl ?_
            refine r_getR (b := 21) (q88 (i := 24) rfl) rfl (by decide) (k_2 S1) (fun _ _ _ => rfl) (r_2_3 S1) ?_
            refine r_iload_n (q88 (i := 25) rfl) rfl ?_
            refine r_cV (d := _) (q88 (i := 26) rfl) rfl rfl rfl (k_21 S1) (Nat.le_of_ble_eq_true rfl) (Nat.zero_le _) (Nat.zero_le _) R2 ?_
            show Wp _ _ _ 51 [(0, .ref 2), (1, .int (nI k)), (2, .int 1)] [.int 1] h1 _ _
            refine r_if 56 (q88 (i := 27) rfl) (by decide) (fun _ => ?_) (fun zz => absurd (show ¬ (1 : Int32) = 0 from by decide) zz)
            refine r_iload_n (q88 (i := 30) rfl) rfl ?_
            refine r_if 70 (q88 (i := 31) rfl) (by decide) (fun _ => ?_) (fun zz => absurd (show ¬ (1 : Int32) = 0 from by decide) zz)
            refine r_iload_n (q88 (i := 38) rfl) rfl ?_
            refine r_iconst (v := 1) (q88 (i := 39) rfl) (by decide) ?_
            refine r_icmp 87 (q88 (i := 40) rfl) (by decide) (fun zz => absurd zz (show ¬ (¬ (1 : Int32) = 1) from by decide)) (fun _ => ?_)
            refine r_aload_n (q88 (i := 41) rfl) rfl ?_
            refine r_getR (b := 21) (q88 (i := 42) rfl) rfl (by decide) (k_2 S1) (fun _ _ _ => rfl) (r_2_3 S1) ?_
            refine r_getR (b := 23) (q88 (i := 43) rfl) rfl (by decide) (k_21 S1) (fun _ _ _ => rfl) (r_21_3 S1) ?_
            refine r_iload_n (q88 (i := 44) rfl) rfl ?_
            refine r_iaN (x := nI (gR (zG σ) k)) (q88 (i := 45) rfl) (k_23 S1) (by omega) (by decide) l2 ?_
            refine r_goto 88 (q88 (i := 46) rfl) (by decide) ?_
            exact r_iret (q88 (i := 48) rfl) rfl hQ
          · rw [if_neg y1] at hQ
            refine r_aload_n (q88 (i := 0) rfl) rfl ?_
            refine r_getR (b := 21) (q88 (i := 1) rfl) rfl (by decide) (k_2 S) (fun _ _ _ => rfl) (r_2_3 S) ?_
            refine r_cV (d := _) (q88 (i := 2) rfl) rfl rfl rfl (k_21 S) (Nat.le_of_ble_eq_true rfl) (Nat.le_refl _) (Nat.le_refl _) R1 ?_
            show Wp _ _ _ 7 [(0, .ref 2), (1, .int (nI k)), (2, .int y)] [] h1 _ _
            refine r_iload_n (q88 (i := 3) rfl) rfl ?_
            refine r_if 22 (q88 (i := 4) rfl) (by decide) (fun zz => absurd zz (show ¬ (nI k < 0) from hx.1)) (fun _ => ?_)
            refine r_iload_n (q88 (i := 5) rfl) rfl ?_
            refine r_aload_n (q88 (i := 6) rfl) rfl ?_
            refine r_getR (b := 21) (q88 (i := 7) rfl) rfl (by decide) (k_2 S1) (fun _ _ _ => rfl) (r_2_3 S1) ?_
            refine r_getI (x := nI (gC (zG σ))) (q88 (i := 8) rfl) rfl (by decide) (k_21 S1) (fun _ _ _ => rfl) g9 ?_
            refine r_icmp 24 (q88 (i := 9) rfl) (by decide) (fun _ => ?_) (fun zz => absurd (show nI k < nI (gC (zG σ)) from hx.2) zz)
            refine r_iload_n (q88 (i := 12) rfl) rfl ?_
            refine r_iconst (v := 2) (q88 (i := 13) rfl) (by decide) ?_
            refine r_icmp 43 (q88 (i := 14) rfl) (by decide) (fun _ => ?_) (fun zz => absurd (show ¬ y = 2 from y2) zz)
            refine r_aload_n (q88 (i := 23) rfl) rfl ?_
            refine r_getR (b := 21) (q88 (i := 24) rfl) rfl (by decide) (k_2 S1) (fun _ _ _ => rfl) (r_2_3 S1) ?_
            refine r_iload_n (q88 (i := 25) rfl) rfl ?_
            refine r_cV (d := _) (q88 (i := 26) rfl) rfl rfl rfl (k_21 S1) (Nat.le_of_ble_eq_true rfl) (Nat.zero_le _) (Nat.zero_le _) R2 ?_
            show Wp _ _ _ 51 [(0, .ref 2), (1, .int (nI k)), (2, .int y)] [.int 1] h1 _ _
            refine r_if 56 (q88 (i := 27) rfl) (by decide) (fun _ => ?_) (fun zz => absurd (show ¬ (1 : Int32) = 0 from by decide) zz)
            refine r_iload_n (q88 (i := 30) rfl) rfl ?_
            refine r_if 70 (q88 (i := 31) rfl) (by decide) (fun _ => ?_) (fun zz => absurd (show ¬ y = 0 from y0) zz)
            refine r_iload_n (q88 (i := 38) rfl) rfl ?_
            refine r_iconst (v := 1) (q88 (i := 39) rfl) (by decide) ?_
            refine r_icmp 87 (q88 (i := 40) rfl) (by decide) (fun _ => ?_) (fun zz => absurd (show ¬ y = 1 from y1) zz)
            refine r_iconst (v := (-1)) (q88 (i := 47) rfl) (by decide) ?_
            exact r_iret (q88 (i := 48) rfl) rfl hQ
  · rw [if_neg q]
    have hx := of_decide_eq_false (Bool.eq_false_iff.mpr q)
    refine ⟨h1, ρ1, e1, mc, ms, ?_, C1, yb, F1.C⟩
    refine Run.of (d := 7) (Nat.le_of_ble_eq_true rfl) (fun Q hQ => ?_)
    show Wp (Ex 7) 88 Q 0 [(0, .ref 2), (1, .int x), (2, .int y)] [] h mc ms
    by_cases q1 : x < 0
    · skip
      refine r_aload_n (q88 (i := 0) rfl) rfl ?_
      refine r_getR (b := 21) (q88 (i := 1) rfl) rfl (by decide) (k_2 S) (fun _ _ _ => rfl) (r_2_3 S) ?_
      refine r_cV (d := _) (q88 (i := 2) rfl) rfl rfl rfl (k_21 S) (Nat.le_of_ble_eq_true rfl) (Nat.le_refl _) (Nat.le_refl _) R1 ?_
      show Wp _ _ _ 7 [(0, .ref 2), (1, .int x), (2, .int y)] [] h1 _ _
      refine r_iload_n (q88 (i := 3) rfl) rfl ?_
      refine r_if 22 (q88 (i := 4) rfl) (by decide) (fun _ => ?_) (fun zz => absurd (show x < 0 from q1) zz)
      refine r_iconst (v := (-1)) (q88 (i := 10) rfl) (by decide) ?_
      exact r_iret (q88 (i := 11) rfl) rfl hQ
    · have q2 : ¬ x < nI (gC (zG σ)) := fun z => hx ⟨q1, z⟩
      refine r_aload_n (q88 (i := 0) rfl) rfl ?_
      refine r_getR (b := 21) (q88 (i := 1) rfl) rfl (by decide) (k_2 S) (fun _ _ _ => rfl) (r_2_3 S) ?_
      refine r_cV (d := _) (q88 (i := 2) rfl) rfl rfl rfl (k_21 S) (Nat.le_of_ble_eq_true rfl) (Nat.le_refl _) (Nat.le_refl _) R1 ?_
      show Wp _ _ _ 7 [(0, .ref 2), (1, .int x), (2, .int y)] [] h1 _ _
      refine r_iload_n (q88 (i := 3) rfl) rfl ?_
      refine r_if 22 (q88 (i := 4) rfl) (by decide) (fun zz => absurd zz (show ¬ (x < 0) from q1)) (fun _ => ?_)
      refine r_iload_n (q88 (i := 5) rfl) rfl ?_
      refine r_aload_n (q88 (i := 6) rfl) rfl ?_
      refine r_getR (b := 21) (q88 (i := 7) rfl) rfl (by decide) (k_2 S1) (fun _ _ _ => rfl) (r_2_3 S1) ?_
      refine r_getI (x := nI (gC (zG σ))) (q88 (i := 8) rfl) rfl (by decide) (k_21 S1) (fun _ _ _ => rfl) g9 ?_
      refine r_icmp 24 (q88 (i := 9) rfl) (by decide) (fun zz => absurd zz (show ¬ (x < nI (gC (zG σ))) from q2)) (fun _ => ?_)
      refine r_iconst (v := (-1)) (q88 (i := 10) rfl) (by decide) ?_
      exact r_iret (q88 (i := 11) rfl) rfl hQ
/-- the SWEEP -/
noncomputable def swR (σ : st8) : swt := swT (gW (zG σ)) (zn σ) (zv σ) (zr σ) (gC (zG σ) - 1)
noncomputable def swN (σ : st8) : Nat := needT (zG σ) (swR σ).2.1 (zn σ) (fun i => sd (zn σ) (z0 σ) ((za σ).2.2.1 i)) (fun i => sd (zn σ) (z1 σ) ((zb σ).2.2.1 i)) (za σ).2.2.2 (zb σ).2.2.2
noncomputable def nSwp (σ : st8) : st8 := (σ.1, σ.2.1, σ.2.2.1, (swR σ).1.1, σ.2.2.2.2.1, σ.2.2.2.2.2.1, (swR σ).2.1, some ((swR σ).1.2.1, (swR σ).1.2.2, (swR σ).2.2, swN σ))
set_option maxHeartbeats 2000000 in
set_option maxRecDepth 10000 in
theorem xs_sweep {h : hp} {ρ e : Nat} {σ : st8} (C : CI h ρ e σ) (Z : zok σ) : CStep 90 [.ref 2] h e (nI (swR σ).2.2) (nSwp σ) ∧ zok (nSwp σ) := by
  have S := C.1.1
  have hC := zC Z
  have W := zwf Z
  have hn := Z.1.2
  obtain ⟨h1, ρ1, e1, mc, ms, R1, C1, B1, yb, F1⟩ := C.up Z
  have S1 := C1.1.1
  have hρ := Rw_19 C1.2.2.2.2.2.2.2.1.1
  obtain ⟨h2, R2, W2, F2⟩ := sp_run (d := 2) hρ (fun p q hp hq => apt_per (zper Z) hp hq) (fun w hw => w_rw Z.1.2 hw) (show 1 ≤ gC (zG σ) by have := W.1; omega) S1 B1.1 C1.2.2.2.2.1 Z.2.2.2.1 C1.2.2.2.2.2.2.1
  have S2 := F2.S S1
  have i2 : ∀ k, k ≠ 17 → k ≠ 18 → k ≠ 20 → k ≠ 30 → k ≠ 31 → k ≠ 32 → hI h2 k = hI h1 k := F2.2.1
  have B2 : zBU h2 ρ1 σ := B1.to (fun k hk => i2 k (by omega) (by omega) (by omega) (by omega) (by omega) (by omega)) (F2.2.2 ρ1 hρ) F2.1
  obtain ⟨c1, c2, c3, c4, c5, c6, c7, c8, c9, c10⟩ := id C1
  have W2 : SWR h2 (2 ^ (zn σ - 6)) (swR σ) := W2
  obtain ⟨h3, R3, N3, F3⟩ := sp_findNeeded (d := 2) (γ := zG σ) (rep := (swR σ).2.1) (l0 := z0 σ) (l1 := z1 σ) (f0 := fun i => sd (zn σ) (z0 σ) ((za σ).2.2.1 i)) (f1 := fun i => sd (zn σ) (z1 σ) ((zb σ).2.2.1 i)) W (by have := Z.2.1.1; omega : zn σ + (za σ).2.1 ≤ 132) (by have := Z.2.2.1.1; omega : zn σ + (zb σ).2.1 ≤ 132) Z.2.1.2.1 Z.2.2.1.2.1 (fun x hx => swT_le _ _ _ _ _ _ (by omega)) S2 B2.1 W2.2.1 (by rw [i2 3 (by decide) (by decide) (by decide) (by decide) (by decide) (by decide)]; exact c3.2) (by rw [i2 3 (by decide) (by decide) (by decide) (by decide) (by decide) (by decide)]; exact c3.1.2.1) (by rw [i2 3 (by decide) (by decide) (by decide) (by decide) (by decide) (by decide)]; exact c3.1.2.2.2) B2.2.2.1 (by
      rw [i2 8 (by decide) (by decide) (by decide) (by decide) (by decide) (by decide), c3.1.2.2.1]
      exact fun j hj => ⟨Z.2.1.2.2.2 j hj, rfl, zlt0 Z (Z.2.1.2.2.2 j hj)⟩) (by rw [i2 10 (by decide) (by decide) (by decide) (by decide) (by decide) (by decide)]; exact c4.2) (by rw [i2 10 (by decide) (by decide) (by decide) (by decide) (by decide) (by decide)]; exact c4.1.2.1) (by rw [i2 10 (by decide) (by decide) (by decide) (by decide) (by decide) (by decide)]; exact c4.1.2.2.2) B2.2.2.2 (by
      rw [i2 15 (by decide) (by decide) (by decide) (by decide) (by decide) (by decide), c4.1.2.2.1]
      exact fun j hj => ⟨Z.2.2.1.2.2.2 j hj, rfl, zlt1 Z (Z.2.2.1.2.2.2 j hj)⟩)
  have S3 := F3.S S2
  have ej : hJ h3 = hJ h2 := by unfold hJ; rw [F3.1]
  have i3 : ∀ k, k ≠ 17 → k ≠ 18 → k ≠ 20 → k ≠ 30 → k ≠ 31 → k ≠ 32 → hI h3 k = hI h1 k := fun k a b c d x y => (F3.2.1 k y d).trans (i2 k a b c d x y)
  have e22 : h3.2.2 = h1.2.2 := by rw [F3.1]; exact F2.1
  have B3 : zBU h3 ρ1 σ := B2.to (fun k hk => F3.2.1 k (by omega) (by omega)) (by rw [ej]) (by rw [F3.1])
  have V3 : VC h3 (2 ^ (zn σ - 6)) (swR σ).1.1 := W2.1.1.to (fun k _ _ => F3.2.1 k (by omega) (by omega)) (by rw [ej])
  refine ⟨⟨sI (sI h3 2 11 0) 2 12 1, ρ1, e1, mc, ms, ?_, ?_, yb, F1.C.tr ((FC.of e22 (fun k hk => i3 k (by omega) (by omega) (by omega) (by omega) (by omega) (by omega)) (fun k hk => by rw [ej]; exact F2.2.2 k (by omega))).tr ((FC.w (by decide) _ _).tr (FC.w (by decide) _ _)))⟩, Z.1, Z.2.1, Z.2.2.1, W2.1.2.2.2, Z.2.2.2.2⟩
  · refine Run.of (d := 7) (Nat.le_of_ble_eq_true rfl) (fun Q hQ => ?_)
    show Wp (Ex 7) 90 Q 0 [(0, .ref 2)] [] h mc ms
    have m4 : hI h3 30 4 = nI (swR σ).2.2 := (F3.2.2 4 (by decide)).trans W2.2.2
    refine r_aload_n (q90 (i := 0) rfl) rfl ?_
    refine r_getR (b := 21) (q90 (i := 1) rfl) rfl (by decide) (k_2 S) (fun _ _ _ => rfl) (r_2_3 S) ?_
    refine r_cV (d := _) (q90 (i := 2) rfl) rfl rfl rfl (k_21 S) (Nat.le_of_ble_eq_true rfl) (Nat.le_refl _) (Nat.le_refl _) R1 ?_
    show Wp _ _ _ 7 [(0, .ref 2)] [] h1 _ _
    refine r_aload_n (q90 (i := 3) rfl) rfl ?_
    refine r_getR (b := 30) (q90 (i := 4) rfl) rfl (by decide) (k_2 S1) (fun _ _ _ => rfl) (r_2_5 S1) ?_
    refine r_aload_n (q90 (i := 5) rfl) rfl ?_
    refine r_getR (b := 21) (q90 (i := 6) rfl) rfl (by decide) (k_2 S1) (fun _ _ _ => rfl) (r_2_3 S1) ?_
    refine r_aload_n (q90 (i := 7) rfl) rfl ?_
    refine r_getR (b := 17) (q90 (i := 8) rfl) rfl (by decide) (k_2 S1) (fun _ _ _ => rfl) (r_2_2 S1) ?_
    refine r_cV (d := _) (q90 (i := 9) rfl) rfl rfl rfl (k_30 S1) (Nat.le_of_ble_eq_true rfl) (Nat.zero_le _) (Nat.zero_le _) R2 ?_
    show Wp _ _ _ 22 [(0, .ref 2)] [] h2 _ _
    refine r_aload_n (q90 (i := 10) rfl) rfl ?_
    refine r_getR (b := 30) (q90 (i := 11) rfl) rfl (by decide) (k_2 S2) (fun _ _ _ => rfl) (r_2_5 S2) ?_
    refine r_aload_n (q90 (i := 12) rfl) rfl ?_
    refine r_getR (b := 21) (q90 (i := 13) rfl) rfl (by decide) (k_2 S2) (fun _ _ _ => rfl) (r_2_3 S2) ?_
    refine r_aload_n (q90 (i := 14) rfl) rfl ?_
    refine r_getR (b := 3) (q90 (i := 15) rfl) rfl (by decide) (k_2 S2) (fun _ _ _ => rfl) (r_2_0 S2) ?_
    refine r_aload_n (q90 (i := 16) rfl) rfl ?_
    refine r_getR (b := 10) (q90 (i := 17) rfl) rfl (by decide) (k_2 S2) (fun _ _ _ => rfl) (r_2_1 S2) ?_
    refine r_cV (d := _) (q90 (i := 18) rfl) rfl rfl rfl (k_30 S2) (Nat.le_of_ble_eq_true rfl) (Nat.zero_le _) (Nat.zero_le _) R3 ?_
    show Wp _ _ _ 41 [(0, .ref 2)] [] h3 _ _
    refine r_aload_n (q90 (i := 19) rfl) rfl ?_
    refine r_iconst (v := 0) (q90 (i := 20) rfl) (by decide) ?_
    refine r_putZ (q90 (i := 21) rfl) rfl (by decide) (k_2 S3) rfl rfl (by decide) ?_
    refine r_aload_n (q90 (i := 22) rfl) rfl ?_
    refine r_iconst (v := 1) (q90 (i := 23) rfl) (by decide) ?_
    refine r_putZ (q90 (i := 24) rfl) rfl (by decide) (k_2 S3) rfl rfl (by decide) ?_
    refine r_aload_n (q90 (i := 25) rfl) rfl ?_
    refine r_getR (b := 30) (q90 (i := 26) rfl) rfl (by decide) (k_2 S3) (fun _ _ _ => rfl) (r_2_5 S3) ?_
    refine r_getI (x := nI (swR σ).2.2) (q90 (i := 27) rfl) rfl (by decide) (k_30 S3) (fun _ _ _ => rfl) m4 ?_
    exact r_iret (q90 (i := 28) rfl) rfl hQ
  · refine ⟨⟨(c1.1.to e22).to rfl, ?_, by show 1327 ≤ h3.2.2.2.2; rw [e22]; exact c1.2.2⟩, ?_, ⟨c3.1.to (h' := h3) (fun k _ _ => i3 k (by omega) (by omega) (by omega) (by omega) (by omega) (by omega)), ?_⟩, ⟨c4.1.to (h' := h3) (fun k _ _ => i3 k (by omega) (by omega) (by omega) (by omega) (by omega) (by omega)), ?_⟩, V3, ?_, ?_, ⟨c8.1 |> (fun q => by unfold Rw hR hK at *; rw [show (sI (sI h3 2 11 0) 2 12 1).2.2 = h1.2.2 from e22]; exact q), c8.2.1, Or.inr ⟨_, _, Nat.le_refl _, Nat.le_refl _, B3⟩⟩, Or.inl rfl, ?_⟩
    · have q1 : hK h3 1 = hK h1 1 := by unfold hK; rw [e22]
      have q2 : hJ h3 1 = hJ h1 1 := by rw [ej]; exact F2.2.2 1 (by decide)
      exact ⟨q1.trans c1.2.1.1, q2.trans c1.2.1.2⟩
    · show hI h3 2 9 = _ ∧ hI h3 2 10 = _
      rw [i3 2 (by decide) (by decide) (by decide) (by decide) (by decide) (by decide)]; exact c2
    · show hI h3 3 6 = _
      rw [i3 3 (by decide) (by decide) (by decide) (by decide) (by decide) (by decide)]; exact c3.2
    · show hI h3 10 6 = _
      rw [i3 10 (by decide) (by decide) (by decide) (by decide) (by decide) (by decide)]; exact c4.2
    · show TC h3 _ _
      unfold TC
      rw [i3 33 (by decide) (by decide) (by decide) (by decide) (by decide) (by decide), i3 34 (by decide) (by decide) (by decide) (by decide) (by decide) (by decide)]; exact c6
    · show hI h3 31 = _
      rw [F3.2.1 31 (by decide) (by decide)]; exact W2.2.1
    · refine ⟨rfl, B3, ?_, ?_, ?_, N3⟩
      · exact (F3.2.2 2 (by decide)).trans W2.1.2.1
      · exact (F3.2.2 3 (by decide)).trans W2.1.2.2.1
      · exact (F3.2.2 4 (by decide)).trans W2.2.2
noncomputable def aSwt (σ : st8) (x : Int32) : Int32 := if (zs σ).isSome = true ∧ okn σ x = true then nI (zr σ x.toNatClampNeg) else -1
def aTld (σ : st8) (x : Int32) : Int32 := match zs σ with
  | none => -1
  | some q => if x = 0 then nI q.1 else if x = 1 then nI q.2.1 else if x = 2 then nI q.2.2.2 else if x = 3 then nI (gC (zG σ)) - nI q.2.2.1 else -1
set_option maxHeartbeats 2000000 in
set_option maxRecDepth 10000 in
theorem xs_swept {h : hp} {ρ e : Nat} {σ : st8} (C : CI h ρ e σ) (Z : zok σ) (x : Int32) : CStep 91 [.ref 2, .int x] h e (aSwt σ x) σ := by
  have S := C.1.1
  have hC := zC Z
  have c10 := C.2.2.2.2.2.2.2.2.2
  have c7 := C.2.2.2.2.2.2.1
  refine CStep.of (?_ : Run (7 + 1) 91 _ h 0 0 _ h) C (FC.rf h)
  refine Run.of (Nat.le_of_ble_eq_true rfl) (fun Q hQ => ?_)
  show Wp (Ex 7) 91 Q 0 [(0, .ref 2), (1, .int x)] [] h 0 0
  unfold aSwt at hQ
  unfold SSt at c10
  cases g : zs σ with
  | none =>
    rw [g] at c10 hQ
    have c10 : hI h 2 12 = 0 := c10
    rw [if_neg (fun y => absurd y.1 (by decide))] at hQ
    refine r_aload_n (q91 (i := 0) rfl) rfl ?_
    refine r_getI (x := 0) (q91 (i := 1) rfl) rfl (by decide) (k_2 S) (fun _ _ _ => rfl) c10 ?_
    refine r_if 22 (q91 (i := 2) rfl) (by decide) (fun _ => ?_) (fun zz => absurd (show (0 : Int32) = 0 from by decide) zz)
    refine r_iconst (v := (-1)) (q91 (i := 10) rfl) (by decide) ?_
    exact r_iret (q91 (i := 11) rfl) rfl hQ
  | some w =>
    rw [g] at c10 hQ
    obtain ⟨s1, s2, s3⟩ := c10
    have g9 := s2.1.2.1.2.2.1
    by_cases q : okn σ x = true
    · rw [if_pos ⟨rfl, q⟩] at hQ
      have hx := of_decide_eq_true q
      obtain ⟨k, hk, ek⟩ := okn_t Z q
      subst ek
      rw [nI_clamp (by omega)] at hQ
      refine r_aload_n (q91 (i := 0) rfl) rfl ?_
      refine r_getI (x := 1) (q91 (i := 1) rfl) rfl (by decide) (k_2 S) (fun _ _ _ => rfl) s1 ?_
      refine r_if 22 (q91 (i := 2) rfl) (by decide) (fun zz => absurd zz (show ¬ ((1 : Int32) = 0) from by decide)) (fun _ => ?_)
      refine r_iload_n (q91 (i := 3) rfl) rfl ?_
      refine r_if 22 (q91 (i := 4) rfl) (by decide) (fun zz => absurd zz (show ¬ (nI k < 0) from hx.1)) (fun _ => ?_)
      refine r_iload_n (q91 (i := 5) rfl) rfl ?_
      refine r_aload_n (q91 (i := 6) rfl) rfl ?_
      refine r_getR (b := 21) (q91 (i := 7) rfl) rfl (by decide) (k_2 S) (fun _ _ _ => rfl) (r_2_3 S) ?_
      refine r_getI (x := nI (gC (zG σ))) (q91 (i := 8) rfl) rfl (by decide) (k_21 S) (fun _ _ _ => rfl) g9 ?_
      refine r_icmp 24 (q91 (i := 9) rfl) (by decide) (fun _ => ?_) (fun zz => absurd (show nI k < nI (gC (zG σ)) from hx.2) zz)
      refine r_aload_n (q91 (i := 12) rfl) rfl ?_
      refine r_getR (b := 30) (q91 (i := 13) rfl) rfl (by decide) (k_2 S) (fun _ _ _ => rfl) (r_2_5 S) ?_
      refine r_getR (b := 31) (q91 (i := 14) rfl) rfl (by decide) (k_30 S) (fun _ _ _ => rfl) (r_30_0 S) ?_
      refine r_iload_n (q91 (i := 15) rfl) rfl ?_
      refine r_iaN (x := nI (zr σ k)) (q91 (i := 16) rfl) (k_31 S) (by omega) (by decide) (congrFun c7 k) ?_
      exact r_iret (q91 (i := 17) rfl) rfl hQ
    · rw [if_neg (fun y => q y.2)] at hQ
      have hx := of_decide_eq_false (Bool.eq_false_iff.mpr q)
      by_cases q1 : x < 0
      · skip
        refine r_aload_n (q91 (i := 0) rfl) rfl ?_
        refine r_getI (x := 1) (q91 (i := 1) rfl) rfl (by decide) (k_2 S) (fun _ _ _ => rfl) s1 ?_
        refine r_if 22 (q91 (i := 2) rfl) (by decide) (fun zz => absurd zz (show ¬ ((1 : Int32) = 0) from by decide)) (fun _ => ?_)
        refine r_iload_n (q91 (i := 3) rfl) rfl ?_
        refine r_if 22 (q91 (i := 4) rfl) (by decide) (fun _ => ?_) (fun zz => absurd (show x < 0 from q1) zz)
        refine r_iconst (v := (-1)) (q91 (i := 10) rfl) (by decide) ?_
        exact r_iret (q91 (i := 11) rfl) rfl hQ
      · have q2 : ¬ x < nI (gC (zG σ)) := fun z => hx ⟨q1, z⟩
        refine r_aload_n (q91 (i := 0) rfl) rfl ?_
        refine r_getI (x := 1) (q91 (i := 1) rfl) rfl (by decide) (k_2 S) (fun _ _ _ => rfl) s1 ?_
        refine r_if 22 (q91 (i := 2) rfl) (by decide) (fun zz => absurd zz (show ¬ ((1 : Int32) = 0) from by decide)) (fun _ => ?_)
        refine r_iload_n (q91 (i := 3) rfl) rfl ?_
        refine r_if 22 (q91 (i := 4) rfl) (by decide) (fun zz => absurd zz (show ¬ (x < 0) from q1)) (fun _ => ?_)
        refine r_iload_n (q91 (i := 5) rfl) rfl ?_
        refine r_aload_n (q91 (i := 6) rfl) rfl ?_
        refine r_getR (b := 21) (q91 (i := 7) rfl) rfl (by decide) (k_2 S) (fun _ _ _ => rfl) (r_2_3 S) ?_
        refine r_getI (x := nI (gC (zG σ))) (q91 (i := 8) rfl) rfl (by decide) (k_21 S) (fun _ _ _ => rfl) g9 ?_
        refine r_icmp 24 (q91 (i := 9) rfl) (by decide) (fun zz => absurd zz (show ¬ (x < nI (gC (zG σ))) from q2)) (fun _ => ?_)
        refine r_iconst (v := (-1)) (q91 (i := 10) rfl) (by decide) ?_
        exact r_iret (q91 (i := 11) rfl) rfl hQ
set_option maxHeartbeats 2000000 in
set_option maxRecDepth 10000 in
theorem xs_told {h : hp} {ρ e : Nat} {σ : st8} (C : CI h ρ e σ) (x : Int32) : CStep 92 [.ref 2, .int x] h e (aTld σ x) σ := by
  have S := C.1.1
  have c10 := C.2.2.2.2.2.2.2.2.2
  refine CStep.of (?_ : Run (7 + 1) 92 _ h 0 0 _ h) C (FC.rf h)
  refine Run.of (Nat.le_of_ble_eq_true rfl) (fun Q hQ => ?_)
  show Wp (Ex 7) 92 Q 0 [(0, .ref 2), (1, .int x)] [] h 0 0
  unfold aTld at hQ
  unfold SSt at c10
  cases g : zs σ with
  | none =>
    rw [g] at c10 hQ
    have c10 : hI h 2 12 = 0 := c10
    have hQ : Q (some (.int (-1))) h := hQ
    refine r_aload_n (q92 (i := 0) rfl) rfl ?_
    refine r_getI (x := 0) (q92 (i := 1) rfl) rfl (by decide) (k_2 S) (fun _ _ _ => rfl) c10 ?_
    refine r_if 9 (q92 (i := 2) rfl) (by decide) (fun zz => absurd zz (show ¬ (¬ (0 : Int32) = 0) from by decide)) (fun _ => ?_)
    refine r_iconst (v := (-1)) (q92 (i := 3) rfl) (by decide) ?_
    exact r_iret (q92 (i := 4) rfl) rfl hQ
  | some w =>
    rw [g] at c10 hQ
    obtain ⟨s1, s2, s3, s4, s5, s6⟩ := c10
    have g9 := s2.1.2.1.2.2.1
    have hQ : Q (some (.int (if x = 0 then nI w.1 else if x = 1 then nI w.2.1 else if x = 2 then nI w.2.2.2 else if x = 3 then nI (gC (zG σ)) - nI w.2.2.1 else -1))) h := hQ
    by_cases x0 : x = 0
    · rw [if_pos x0] at hQ
      subst x0
      refine r_aload_n (q92 (i := 0) rfl) rfl ?_
      refine r_getI (x := 1) (q92 (i := 1) rfl) rfl (by decide) (k_2 S) (fun _ _ _ => rfl) s1 ?_
      refine r_if 9 (q92 (i := 2) rfl) (by decide) (fun _ => ?_) (fun zz => absurd (show ¬ (1 : Int32) = 0 from by decide) zz)
      refine r_iload_n (q92 (i := 5) rfl) rfl ?_
      refine r_swIn (off := 30) 40 (q92 (i := 6) rfl) (by decide) (by decide) (by decide) (by decide) ?_
      refine r_aload_n (q92 (i := 7) rfl) rfl ?_
      refine r_getR (b := 30) (q92 (i := 8) rfl) rfl (by decide) (k_2 S) (fun _ _ _ => rfl) (r_2_5 S) ?_
      refine r_getI (x := nI w.1) (q92 (i := 9) rfl) rfl (by decide) (k_30 S) (fun _ _ _ => rfl) s3 ?_
      exact r_iret (q92 (i := 10) rfl) rfl hQ
    rw [if_neg x0] at hQ
    by_cases x1 : x = 1
    · rw [if_pos x1] at hQ
      subst x1
      refine r_aload_n (q92 (i := 0) rfl) rfl ?_
      refine r_getI (x := 1) (q92 (i := 1) rfl) rfl (by decide) (k_2 S) (fun _ _ _ => rfl) s1 ?_
      refine r_if 9 (q92 (i := 2) rfl) (by decide) (fun _ => ?_) (fun zz => absurd (show ¬ (1 : Int32) = 0 from by decide) zz)
      refine r_iload_n (q92 (i := 5) rfl) rfl ?_
      refine r_swIn (off := 38) 48 (q92 (i := 6) rfl) (by decide) (by decide) (by decide) (by decide) ?_
      refine r_aload_n (q92 (i := 11) rfl) rfl ?_
      refine r_getR (b := 30) (q92 (i := 12) rfl) rfl (by decide) (k_2 S) (fun _ _ _ => rfl) (r_2_5 S) ?_
      refine r_getI (x := nI w.2.1) (q92 (i := 13) rfl) rfl (by decide) (k_30 S) (fun _ _ _ => rfl) s4 ?_
      exact r_iret (q92 (i := 14) rfl) rfl hQ
    rw [if_neg x1] at hQ
    by_cases x2 : x = 2
    · rw [if_pos x2] at hQ
      subst x2
      refine r_aload_n (q92 (i := 0) rfl) rfl ?_
      refine r_getI (x := 1) (q92 (i := 1) rfl) rfl (by decide) (k_2 S) (fun _ _ _ => rfl) s1 ?_
      refine r_if 9 (q92 (i := 2) rfl) (by decide) (fun _ => ?_) (fun zz => absurd (show ¬ (1 : Int32) = 0 from by decide) zz)
      refine r_iload_n (q92 (i := 5) rfl) rfl ?_
      refine r_swIn (off := 46) 56 (q92 (i := 6) rfl) (by decide) (by decide) (by decide) (by decide) ?_
      refine r_aload_n (q92 (i := 15) rfl) rfl ?_
      refine r_getR (b := 30) (q92 (i := 16) rfl) rfl (by decide) (k_2 S) (fun _ _ _ => rfl) (r_2_5 S) ?_
      refine r_getI (x := nI w.2.2.2) (q92 (i := 17) rfl) rfl (by decide) (k_30 S) (fun _ _ _ => rfl) s6 ?_
      exact r_iret (q92 (i := 18) rfl) rfl hQ
    rw [if_neg x2] at hQ
    by_cases x3 : x = 3
    · rw [if_pos x3] at hQ
      subst x3
      refine r_aload_n (q92 (i := 0) rfl) rfl ?_
      refine r_getI (x := 1) (q92 (i := 1) rfl) rfl (by decide) (k_2 S) (fun _ _ _ => rfl) s1 ?_
      refine r_if 9 (q92 (i := 2) rfl) (by decide) (fun _ => ?_) (fun zz => absurd (show ¬ (1 : Int32) = 0 from by decide) zz)
      refine r_iload_n (q92 (i := 5) rfl) rfl ?_
      refine r_swIn (off := 54) 64 (q92 (i := 6) rfl) (by decide) (by decide) (by decide) (by decide) ?_
      refine r_aload_n (q92 (i := 19) rfl) rfl ?_
      refine r_getR (b := 21) (q92 (i := 20) rfl) rfl (by decide) (k_2 S) (fun _ _ _ => rfl) (r_2_3 S) ?_
      refine r_getI (x := nI (gC (zG σ))) (q92 (i := 21) rfl) rfl (by decide) (k_21 S) (fun _ _ _ => rfl) g9 ?_
      refine r_aload_n (q92 (i := 22) rfl) rfl ?_
      refine r_getR (b := 30) (q92 (i := 23) rfl) rfl (by decide) (k_2 S) (fun _ _ _ => rfl) (r_2_5 S) ?_
      refine r_getI (x := nI w.2.2.1) (q92 (i := 24) rfl) rfl (by decide) (k_30 S) (fun _ _ _ => rfl) s5 ?_
      refine r_isub (q92 (i := 25) rfl) ?_
      exact r_iret (q92 (i := 26) rfl) rfl hQ
    rw [if_neg x3] at hQ
    have ho := toInt_out (x := x) (m := 3) (by decide) (fun k hk => by
      have : k = 0 ∨ k = 1 ∨ k = 2 ∨ k = 3 := by omega
      rcases this with rfl | rfl | rfl | rfl
      · exact x0
      · exact x1
      · exact x2
      · exact x3)
    refine r_aload_n (q92 (i := 0) rfl) rfl ?_
    refine r_getI (x := 1) (q92 (i := 1) rfl) rfl (by decide) (k_2 S) (fun _ _ _ => rfl) s1 ?_
    refine r_if 9 (q92 (i := 2) rfl) (by decide) (fun _ => ?_) (fun zz => absurd (show ¬ (1 : Int32) = 0 from by decide) zz)
    refine r_iload_n (q92 (i := 5) rfl) rfl ?_
    refine r_swOut 80 (q92 (i := 6) rfl) (ho) (by decide) ?_
    refine r_iconst (v := (-1)) (q92 (i := 27) rfl) (by decide) ?_
    exact r_iret (q92 (i := 28) rfl) rfl hQ
def aDif (σ : st8) (x : Int32) : Int32 := if both (za σ).2.2.2 (zb σ).2.2.2 x then wdo σ x.toNatClampNeg else -1
def aSam (σ : st8) (x : Int32) : Int32 := if both (za σ).2.2.2 (zb σ).2.2.2 x then (if wdo σ x.toNatClampNeg = -1 then 1 else 0) else -1
/-- whether all OUTPUTs up to k are the same -/
def vrd (σ : st8) : Nat → Nat → Bool
  | 0, _ => true
  | m + 1, i => if wdo σ i = -1 then vrd σ m (i + 1) else false
def aVrd (σ : st8) : Int32 := if (za σ).2.2.2 = (zb σ).2.2.2 then (if vrd σ (za σ).2.2.2 0 then 1 else 0) else -1
set_option maxHeartbeats 2000000 in
set_option maxRecDepth 10000 in
theorem xs_differs {h : hp} {ρ e : Nat} {σ : st8} (C : CI h ρ e σ) (Z : zok σ) (x : Int32) : CStep 94 [.ref 2, .int x] h e (aDif σ x) σ := by
  have S := C.1.1
  have R0 := sp_both (d := 6) S C.2.2.1.1.2.2.2 C.2.2.2.1.1.2.2.2 x
  unfold aDif
  by_cases q : both (za σ).2.2.2 (zb σ).2.2.2 x = true
  · rw [if_pos q]
    rw [q] at R0
    obtain ⟨i, i0, i1, ei⟩ := both_t Z.2.1.2.1 Z.2.2.1.2.1 q
    have hk := Z.2.1.2.1
    subst ei
    rw [nI_clamp (by omega)]
    obtain ⟨h1, ρ1, e1, mc, ms, R1, C1, B1, yb, F1⟩ := C.up Z
    have S1 := C1.1.1
    have R2 := sp_fwo (d := 3) C1 Z B1 i0 i1
    refine ⟨h1, ρ1, e1, mc, ms, ?_, C1, yb, F1.C⟩
    refine Run.of (d := 7) (Nat.le_of_ble_eq_true rfl) (fun Q hQ => ?_)
    show Wp (Ex 7) 94 Q 0 [(0, .ref 2), (1, .int (nI i))] [] h mc ms
    refine r_aload_n (q94 (i := 0) rfl) rfl ?_
    refine r_iload_n (q94 (i := 1) rfl) rfl ?_
    refine r_cV (d := _) (q94 (i := 2) rfl) rfl rfl rfl (k_2 S) (Nat.le_of_ble_eq_true rfl) (Nat.zero_le _) (Nat.zero_le _) R0 ?_
    show Wp _ _ _ 5 [(0, .ref 2), (1, .int (nI i))] [.int 1] h _ _
    refine r_if 10 (q94 (i := 3) rfl) (by decide) (fun _ => ?_) (fun zz => absurd (show ¬ (1 : Int32) = 0 from by decide) zz)
    refine r_aload_n (q94 (i := 6) rfl) rfl ?_
    refine r_getR (b := 21) (q94 (i := 7) rfl) rfl (by decide) (k_2 S) (fun _ _ _ => rfl) (r_2_3 S) ?_
    refine r_cV (d := _) (q94 (i := 8) rfl) rfl rfl rfl (k_21 S) (Nat.le_of_ble_eq_true rfl) (Nat.le_refl _) (Nat.le_refl _) R1 ?_
    show Wp _ _ _ 17 [(0, .ref 2), (1, .int (nI i))] [] h1 _ _
    refine r_aload_n (q94 (i := 9) rfl) rfl ?_
    refine r_iload_n (q94 (i := 10) rfl) rfl ?_
    refine r_cV (d := _) (q94 (i := 11) rfl) rfl rfl rfl (k_2 S1) (Nat.le_of_ble_eq_true rfl) (Nat.zero_le _) (Nat.zero_le _) R2 ?_
    show Wp _ _ _ 22 [(0, .ref 2), (1, .int (nI i))] [.int (wdo σ i)] h1 _ _
    exact r_iret (q94 (i := 12) rfl) rfl hQ
  · rw [if_neg q]
    rw [if_neg q] at R0
    refine CStep.of (?_ : Run (7 + 1) 94 _ h 0 0 _ h) C (FC.rf h)
    refine Run.of (Nat.le_of_ble_eq_true rfl) (fun Q hQ => ?_)
    show Wp (Ex 7) 94 Q 0 [(0, .ref 2), (1, .int x)] [] h 0 0
    refine r_aload_n (q94 (i := 0) rfl) rfl ?_
    refine r_iload_n (q94 (i := 1) rfl) rfl ?_
    refine r_cV (d := _) (q94 (i := 2) rfl) rfl rfl rfl (k_2 S) (Nat.le_of_ble_eq_true rfl) (Nat.zero_le _) (Nat.zero_le _) R0 ?_
    show Wp _ _ _ 5 [(0, .ref 2), (1, .int x)] [.int 0] h _ _
    refine r_if 10 (q94 (i := 3) rfl) (by decide) (fun zz => absurd zz (show ¬ (¬ (0 : Int32) = 0) from by decide)) (fun _ => ?_)
    refine r_iconst (v := (-1)) (q94 (i := 4) rfl) (by decide) ?_
    exact r_iret (q94 (i := 5) rfl) rfl hQ
set_option maxHeartbeats 2000000 in
set_option maxRecDepth 10000 in
theorem xs_same {h : hp} {ρ e : Nat} {σ : st8} (C : CI h ρ e σ) (Z : zok σ) (x : Int32) : CStep 93 [.ref 2, .int x] h e (aSam σ x) σ := by
  have S := C.1.1
  have R0 := sp_both (d := 6) S C.2.2.1.1.2.2.2 C.2.2.2.1.1.2.2.2 x
  unfold aSam
  by_cases q : both (za σ).2.2.2 (zb σ).2.2.2 x = true
  · rw [if_pos q]
    rw [q] at R0
    obtain ⟨i, i0, i1, ei⟩ := both_t Z.2.1.2.1 Z.2.2.1.2.1 q
    have hk := Z.2.1.2.1
    subst ei
    rw [nI_clamp (by omega)]
    obtain ⟨h1, ρ1, e1, mc, ms, R1, C1, B1, yb, F1⟩ := C.up Z
    have S1 := C1.1.1
    have R2 := sp_fwo (d := 3) C1 Z B1 i0 i1
    refine ⟨h1, ρ1, e1, mc, ms, ?_, C1, yb, F1.C⟩
    refine Run.of (d := 7) (Nat.le_of_ble_eq_true rfl) (fun Q hQ => ?_)
    show Wp (Ex 7) 93 Q 0 [(0, .ref 2), (1, .int (nI i))] [] h mc ms
    by_cases g : wdo σ i = -1
    · rw [if_pos g] at hQ
      rw [g] at R2
      refine r_aload_n (q93 (i := 0) rfl) rfl ?_
      refine r_iload_n (q93 (i := 1) rfl) rfl ?_
      refine r_cV (d := _) (q93 (i := 2) rfl) rfl rfl rfl (k_2 S) (Nat.le_of_ble_eq_true rfl) (Nat.zero_le _) (Nat.zero_le _) R0 ?_
      show Wp _ _ _ 5 [(0, .ref 2), (1, .int (nI i))] [.int 1] h _ _
      refine r_if 10 (q93 (i := 3) rfl) (by decide) (fun _ => ?_) (fun zz => absurd (show ¬ (1 : Int32) = 0 from by decide) zz)
      refine r_aload_n (q93 (i := 6) rfl) rfl ?_
      refine r_getR (b := 21) (q93 (i := 7) rfl) rfl (by decide) (k_2 S) (fun _ _ _ => rfl) (r_2_3 S) ?_
      refine r_cV (d := _) (q93 (i := 8) rfl) rfl rfl rfl (k_21 S) (Nat.le_of_ble_eq_true rfl) (Nat.le_refl _) (Nat.le_refl _) R1 ?_
      show Wp _ _ _ 17 [(0, .ref 2), (1, .int (nI i))] [] h1 _ _
      refine r_aload_n (q93 (i := 9) rfl) rfl ?_
      refine r_iload_n (q93 (i := 10) rfl) rfl ?_
      refine r_cV (d := _) (q93 (i := 11) rfl) rfl rfl rfl (k_2 S1) (Nat.le_of_ble_eq_true rfl) (Nat.zero_le _) (Nat.zero_le _) R2 ?_
      show Wp _ _ _ 22 [(0, .ref 2), (1, .int (nI i))] [.int (-1)] h1 _ _
      refine r_iconst (v := (-1)) (q93 (i := 12) rfl) (by decide) ?_
      refine r_icmp 30 (q93 (i := 13) rfl) (by decide) (fun zz => absurd zz (show ¬ (¬ (-1 : Int32) = (-1)) from by decide)) (fun _ => ?_)
      refine r_iconst (v := 1) (q93 (i := 14) rfl) (by decide) ?_
      refine r_goto 31 (q93 (i := 15) rfl) (by decide) ?_
      exact r_iret (q93 (i := 17) rfl) rfl hQ
    · rw [if_neg g] at hQ
      refine r_aload_n (q93 (i := 0) rfl) rfl ?_
      refine r_iload_n (q93 (i := 1) rfl) rfl ?_
      refine r_cV (d := _) (q93 (i := 2) rfl) rfl rfl rfl (k_2 S) (Nat.le_of_ble_eq_true rfl) (Nat.zero_le _) (Nat.zero_le _) R0 ?_
      show Wp _ _ _ 5 [(0, .ref 2), (1, .int (nI i))] [.int 1] h _ _
      refine r_if 10 (q93 (i := 3) rfl) (by decide) (fun _ => ?_) (fun zz => absurd (show ¬ (1 : Int32) = 0 from by decide) zz)
      refine r_aload_n (q93 (i := 6) rfl) rfl ?_
      refine r_getR (b := 21) (q93 (i := 7) rfl) rfl (by decide) (k_2 S) (fun _ _ _ => rfl) (r_2_3 S) ?_
      refine r_cV (d := _) (q93 (i := 8) rfl) rfl rfl rfl (k_21 S) (Nat.le_of_ble_eq_true rfl) (Nat.le_refl _) (Nat.le_refl _) R1 ?_
      show Wp _ _ _ 17 [(0, .ref 2), (1, .int (nI i))] [] h1 _ _
      refine r_aload_n (q93 (i := 9) rfl) rfl ?_
      refine r_iload_n (q93 (i := 10) rfl) rfl ?_
      refine r_cV (d := _) (q93 (i := 11) rfl) rfl rfl rfl (k_2 S1) (Nat.le_of_ble_eq_true rfl) (Nat.zero_le _) (Nat.zero_le _) R2 ?_
      show Wp _ _ _ 22 [(0, .ref 2), (1, .int (nI i))] [.int (wdo σ i)] h1 _ _
      refine r_iconst (v := (-1)) (q93 (i := 12) rfl) (by decide) ?_
      refine r_icmp 30 (q93 (i := 13) rfl) (by decide) (fun _ => ?_) (fun zz => absurd (show ¬ wdo σ i = (-1) from g) zz)
      refine r_iconst (v := 0) (q93 (i := 16) rfl) (by decide) ?_
      exact r_iret (q93 (i := 17) rfl) rfl hQ
  · rw [if_neg q]
    rw [if_neg q] at R0
    refine CStep.of (?_ : Run (7 + 1) 93 _ h 0 0 _ h) C (FC.rf h)
    refine Run.of (Nat.le_of_ble_eq_true rfl) (fun Q hQ => ?_)
    show Wp (Ex 7) 93 Q 0 [(0, .ref 2), (1, .int x)] [] h 0 0
    refine r_aload_n (q93 (i := 0) rfl) rfl ?_
    refine r_iload_n (q93 (i := 1) rfl) rfl ?_
    refine r_cV (d := _) (q93 (i := 2) rfl) rfl rfl rfl (k_2 S) (Nat.le_of_ble_eq_true rfl) (Nat.zero_le _) (Nat.zero_le _) R0 ?_
    show Wp _ _ _ 5 [(0, .ref 2), (1, .int x)] [.int 0] h _ _
    refine r_if 10 (q93 (i := 3) rfl) (by decide) (fun zz => absurd zz (show ¬ (¬ (0 : Int32) = 0) from by decide)) (fun _ => ?_)
    refine r_iconst (v := (-1)) (q93 (i := 4) rfl) (by decide) ?_
    exact r_iret (q93 (i := 5) rfl) rfl hQ
set_option maxHeartbeats 2000000 in
set_option maxRecDepth 10000 in
theorem lp_vrd {h : hp} {ρ e : Nat} {σ : st8} (C : CI h ρ e σ) (Z : zok σ) (B : zBU h ρ σ) (he : (za σ).2.2.2 = (zb σ).2.2.2) {Q : resP} {bc bs : Nat} : ∀ (m i : Nat), i + m = (za σ).2.2.2 → Q (some (.int (if vrd σ m i then 1 else 0))) h → ∀ ls : List (Nat × Value), ls.lookup 1 = some (.int (nI i)) → ls.lookup 0 = some (.ref 2) → Wp (Ex 7) 95 Q 28 ls [] h bc bs := by
  have S := C.1.1
  have k8 := C.2.2.1.1.2.2.2
  have hk := Z.2.1.2.1
  intro m
  induction m with
  | zero =>
    intro i hi hQ ls l1 l0
    have e : i = (za σ).2.2.2 := by omega
    rw [← e] at k8
    have hQ : Q (some (.int 1)) h := hQ
    refine r_iload_n (q95 (i := 14) rfl) l1 ?_
    refine r_aload_n (q95 (i := 15) rfl) l0 ?_
    refine r_getR (b := 3) (q95 (i := 16) rfl) rfl (by decide) (k_2 S) (fun _ _ _ => rfl) (r_2_0 S) ?_
    refine r_getI (x := nI i) (q95 (i := 17) rfl) rfl (by decide) (k_3 S) (fun _ _ _ => rfl) k8 ?_
    refine r_icmp 56 (q95 (i := 18) rfl) (by decide) (fun _ => ?_) (fun zz => absurd (show nI i ≤ nI i from Int32.le_refl _) zz)
    refine r_iconst (v := 1) (q95 (i := 28) rfl) (by decide) ?_
    exact r_iret (q95 (i := 29) rfl) rfl hQ
  | succ m ih =>
    intro i hi hQ ls l1 l0
    have R1 := sp_fwo (d := 3) C Z B (show i < (za σ).2.2.2 by omega) (by omega)
    by_cases g : wdo σ i = -1
    · have hQ : Q (some (.int (if vrd σ m (i + 1) then 1 else 0))) h := by
        have e : vrd σ (m + 1) i = vrd σ m (i + 1) := if_pos g
        rw [← e]; exact hQ
      rw [g] at R1
      refine r_iload_n (q95 (i := 14) rfl) l1 ?_
      refine r_aload_n (q95 (i := 15) rfl) l0 ?_
      refine r_getR (b := 3) (q95 (i := 16) rfl) rfl (by decide) (k_2 S) (fun _ _ _ => rfl) (r_2_0 S) ?_
      refine r_getI (x := nI (za σ).2.2.2) (q95 (i := 17) rfl) rfl (by decide) (k_3 S) (fun _ _ _ => rfl) k8 ?_
      refine r_icmp 56 (q95 (i := 18) rfl) (by decide) (fun zz => absurd zz (show ¬ (nI (za σ).2.2.2 ≤ nI i) from nI_ge (by omega) (by omega))) (fun _ => ?_)
      refine r_aload_n (q95 (i := 19) rfl) l0 ?_
      refine r_iload_n (q95 (i := 20) rfl) l1 ?_
      refine r_cV (d := _) (q95 (i := 21) rfl) rfl rfl rfl (k_2 S) (Nat.le_of_ble_eq_true rfl) (Nat.zero_le _) (Nat.zero_le _) R1 ?_
      show Wp _ _ _ 44 ls [.int (-1)] h _ _
      refine r_iconst (v := (-1)) (q95 (i := 22) rfl) (by decide) ?_
      refine r_icmp 50 (q95 (i := 23) rfl) (by decide) (fun _ => ?_) (fun zz => absurd (show (-1 : Int32) = (-1) from by decide) zz)
      refine r_iinc (y := nI (i + 1)) (q95 (i := 26) rfl) (Nat.le_of_ble_eq_true rfl) l1 (nI_1 i) rfl ?_
      have l0 := lk1 (k := 1) (v := .int (nI (i + 1))) l0 (by decide) (Or.inl rfl)
      have l1 := lk0 ls 1 (.int (nI (i + 1)))
      generalize lset1 ls 1 (.int (nI (i + 1))) = ls at l1 l0 ⊢
      refine r_goto 28 (q95 (i := 27) rfl) (by decide) ?_
      exact ih (i + 1) (by omega) hQ ls l1 l0
    · have hQ : Q (some (.int 0)) h := by
        have e : vrd σ (m + 1) i = false := if_neg g
        rw [e] at hQ; exact hQ
      refine r_iload_n (q95 (i := 14) rfl) l1 ?_
      refine r_aload_n (q95 (i := 15) rfl) l0 ?_
      refine r_getR (b := 3) (q95 (i := 16) rfl) rfl (by decide) (k_2 S) (fun _ _ _ => rfl) (r_2_0 S) ?_
      refine r_getI (x := nI (za σ).2.2.2) (q95 (i := 17) rfl) rfl (by decide) (k_3 S) (fun _ _ _ => rfl) k8 ?_
      refine r_icmp 56 (q95 (i := 18) rfl) (by decide) (fun zz => absurd zz (show ¬ (nI (za σ).2.2.2 ≤ nI i) from nI_ge (by omega) (by omega))) (fun _ => ?_)
      refine r_aload_n (q95 (i := 19) rfl) l0 ?_
      refine r_iload_n (q95 (i := 20) rfl) l1 ?_
      refine r_cV (d := _) (q95 (i := 21) rfl) rfl rfl rfl (k_2 S) (Nat.le_of_ble_eq_true rfl) (Nat.zero_le _) (Nat.zero_le _) R1 ?_
      show Wp _ _ _ 44 ls [.int (wdo σ i)] h _ _
      refine r_iconst (v := (-1)) (q95 (i := 22) rfl) (by decide) ?_
      refine r_icmp 50 (q95 (i := 23) rfl) (by decide) (fun zz => absurd zz (show ¬ (wdo σ i = (-1)) from g)) (fun _ => ?_)
      refine r_iconst (v := 0) (q95 (i := 24) rfl) (by decide) ?_
      exact r_iret (q95 (i := 25) rfl) rfl hQ
set_option maxHeartbeats 2000000 in
set_option maxRecDepth 10000 in
theorem xs_verdict {h : hp} {ρ e : Nat} {σ : st8} (C : CI h ρ e σ) (Z : zok σ) : CStep 95 [.ref 2] h e (aVrd σ) σ := by
  have S := C.1.1
  have k8 := C.2.2.1.1.2.2.2
  have m8 := C.2.2.2.1.1.2.2.2
  have hk := Z.2.1.2.1
  have hm := Z.2.2.1.2.1
  unfold aVrd
  by_cases q : (za σ).2.2.2 = (zb σ).2.2.2
  · rw [if_pos q]
    obtain ⟨h1, ρ1, e1, mc, ms, R1, C1, B1, yb, F1⟩ := C.up Z
    have S1 := C1.1.1
    refine ⟨h1, ρ1, e1, mc, ms, ?_, C1, yb, F1.C⟩
    refine Run.of (d := 7) (Nat.le_of_ble_eq_true rfl) (fun Q hQ => ?_)
    show Wp (Ex 7) 95 Q 0 [(0, .ref 2)] [] h mc ms
    refine r_aload_n (q95 (i := 0) rfl) rfl ?_
    refine r_getR (b := 3) (q95 (i := 1) rfl) rfl (by decide) (k_2 S) (fun _ _ _ => rfl) (r_2_0 S) ?_
    refine r_getI (x := nI (za σ).2.2.2) (q95 (i := 2) rfl) rfl (by decide) (k_3 S) (fun _ _ _ => rfl) k8 ?_
    refine r_aload_n (q95 (i := 3) rfl) rfl ?_
    refine r_getR (b := 10) (q95 (i := 4) rfl) rfl (by decide) (k_2 S) (fun _ _ _ => rfl) (r_2_1 S) ?_
    refine r_getI (x := nI (zb σ).2.2.2) (q95 (i := 5) rfl) rfl (by decide) (k_10 S) (fun _ _ _ => rfl) m8 ?_
    refine r_icmp 19 (q95 (i := 6) rfl) (by decide) (fun _ => ?_) (fun zz => absurd (show nI (za σ).2.2.2 = nI (zb σ).2.2.2 from congrArg nI q) zz)
    refine r_aload_n (q95 (i := 9) rfl) rfl ?_
    refine r_getR (b := 21) (q95 (i := 10) rfl) rfl (by decide) (k_2 S) (fun _ _ _ => rfl) (r_2_3 S) ?_
    refine r_cV (d := _) (q95 (i := 11) rfl) rfl rfl rfl (k_21 S) (Nat.le_of_ble_eq_true rfl) (Nat.le_refl _) (Nat.le_refl _) R1 ?_
    show Wp _ _ _ 26 [(0, .ref 2)] [] h1 _ _
    refine r_iconst (v := 0) (q95 (i := 12) rfl) (by decide) ?_
    refine r_istore_n (ls' := [(1, .int 0), (0, .ref 2)]) (q95 (i := 13) rfl) (Nat.le_of_ble_eq_true rfl) rfl ?_
    exact lp_vrd C1 Z B1 q _ 0 (Nat.zero_add _) hQ _ rfl rfl
  · rw [if_neg q]
    refine CStep.of (?_ : Run (7 + 1) 95 _ h 0 0 _ h) C (FC.rf h)
    refine Run.of (Nat.le_of_ble_eq_true rfl) (fun Q hQ => ?_)
    show Wp (Ex 7) 95 Q 0 [(0, .ref 2)] [] h 0 0
    refine r_aload_n (q95 (i := 0) rfl) rfl ?_
    refine r_getR (b := 3) (q95 (i := 1) rfl) rfl (by decide) (k_2 S) (fun _ _ _ => rfl) (r_2_0 S) ?_
    refine r_getI (x := nI (za σ).2.2.2) (q95 (i := 2) rfl) rfl (by decide) (k_3 S) (fun _ _ _ => rfl) k8 ?_
    refine r_aload_n (q95 (i := 3) rfl) rfl ?_
    refine r_getR (b := 10) (q95 (i := 4) rfl) rfl (by decide) (k_2 S) (fun _ _ _ => rfl) (r_2_1 S) ?_
    refine r_getI (x := nI (zb σ).2.2.2) (q95 (i := 5) rfl) rfl (by decide) (k_10 S) (fun _ _ _ => rfl) m8 ?_
    refine r_icmp 19 (q95 (i := 6) rfl) (by decide) (fun zz => absurd zz (show ¬ (nI (za σ).2.2.2 = nI (zb σ).2.2.2) from neN (by omega) (by omega) q)) (fun _ => ?_)
    refine r_iconst (v := (-1)) (q95 (i := 7) rfl) (by decide) ?_
    exact r_iret (q95 (i := 8) rfl) rfl hQ
