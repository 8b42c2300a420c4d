set_option maxHeartbeats 2000000 in
set_option maxRecDepth 10000 in
theorem lw_0 {L : Nat} {xs : Nat → Int32} (hL : L ≤ 3072) {h : hp} {bc bs i : Nat} (hi : i + 5 < L) (l : LI L xs h bc bs) {Q : resP} (kk : ∀ h' bc' bs', LI L xs h' bc' bs' → ∀ ls : List (Nat × Value), ls.lookup 3 = some (.int (nI i)) → ls.lookup 2 = some (.ref 47) → ls.lookup 1 = some (.ref 2) → ls.lookup 0 = some (.ref 0) → Wp (Ex 8) 0 Q 705 ls [] h' bc' bs') (ls : List (Nat × Value)) (l3 : ls.lookup 3 = some (.int (nI i))) (l2 : ls.lookup 2 = some (.ref 47)) (l1 : ls.lookup 1 = some (.ref 2)) (l0 : ls.lookup 0 = some (.ref 0)) : Wp (Ex 8) 0 Q 132 ls [] h bc bs := by
  obtain ⟨ρ, e, σ, C, M, Z, X, b1, b2⟩ := l
  have S := C.1.1
  obtain ⟨h1, h2, mc, ms, R1, R2, bb, I2, S1, X1⟩ := LI.step C M Z X b1 b2 (xs_inputs C (xs (i + 1))) (fun h1 M1 => ms_inputs M1 (xs (i + 1))) (inp_ok Z (xs (i + 1)))
  generalize ev : (aInp (xs (i + 1)) : Int32) = v at R1 R2
  refine r_aload_n (q0 (i := 22) rfl) l1 ?_
  refine r_aload_n (q0 (i := 23) rfl) l0 ?_
  refine r_iload_n (q0 (i := 24) rfl) l3 ?_
  refine r_iconst (v := 1) (q0 (i := 25) rfl) (by decide) ?_
  refine r_iadd (q0 (i := 26) rfl) ?_
  rw [show ((nI i) + 1 : Int32) = nI (i + 1) from nI_add i 1]
  refine r_iaload7 (x := xs (i + 1)) (q0 (i := 27) rfl) X.1 (vp_in_nI (by omega) (by omega)) (by rw [X.2, nI_clamp (by omega)]) ?_
  refine r_cV (d := _) (q0 (i := 28) rfl) rfl rfl rfl (k_2 S) (Nat.le_of_ble_eq_true rfl) (bb.1) (bb.2) R1 ?_
  show Wp _ _ _ 141 ls [.int v] h1 _ _
  have X := X1
  refine r_aload_n (q0 (i := 29) rfl) l2 ?_
  refine r_aload_n (q0 (i := 30) rfl) l0 ?_
  refine r_iload_n (q0 (i := 31) rfl) l3 ?_
  refine r_iconst (v := 1) (q0 (i := 32) rfl) (by decide) ?_
  refine r_iadd (q0 (i := 33) rfl) ?_
  rw [show ((nI i) + 1 : Int32) = nI (i + 1) from nI_add i 1]
  refine r_iaload7 (x := xs (i + 1)) (q0 (i := 34) rfl) X.1 (vp_in_nI (by omega) (by omega)) (by rw [X.2, nI_clamp (by omega)]) ?_
  refine r_cV (d := _) (q0 (i := 35) rfl) rfl rfl rfl (k_47 S1) (Nat.le_of_ble_eq_true rfl) (Nat.zero_le _) (Nat.zero_le _) R2 ?_
  show Wp _ _ _ 150 ls [.int v, .int v] h2 _ _
  refine r_icmp 705 (q0 (i := 36) rfl) (by decide) (fun _ => ?_) (fun zz => absurd (show v = v from rfl) zz)
  exact kk h2 _ _ I2 ls l3 l2 l1 l0
set_option maxHeartbeats 2000000 in
set_option maxRecDepth 10000 in
theorem lw_1 {L : Nat} {xs : Nat → Int32} (hL : L ≤ 3072) {h : hp} {bc bs i : Nat} (hi : i + 5 < L) (l : LI L xs h bc bs) {Q : resP} (kk : ∀ h' bc' bs', LI L xs h' bc' bs' → ∀ ls : List (Nat × Value), ls.lookup 3 = some (.int (nI i)) → ls.lookup 2 = some (.ref 47) → ls.lookup 1 = some (.ref 2) → ls.lookup 0 = some (.ref 0) → Wp (Ex 8) 0 Q 705 ls [] h' bc' bs') (ls : List (Nat × Value)) (l3 : ls.lookup 3 = some (.int (nI i))) (l2 : ls.lookup 2 = some (.ref 47)) (l1 : ls.lookup 1 = some (.ref 2)) (l0 : ls.lookup 0 = some (.ref 0)) : Wp (Ex 8) 0 Q 155 ls [] h bc bs := by
  obtain ⟨ρ, e, σ, C, M, Z, X, b1, b2⟩ := l
  have S := C.1.1
  obtain ⟨h1, h2, mc, ms, R1, R2, bb, I2, S1, X1⟩ := LI.step C M Z X b1 b2 (xs_gate C Z (xs (i + 1)) (xs (i + 2)) (xs (i + 3)) (xs (i + 4)) (xs (i + 5))) (fun h1 M1 => ms_gate M1 Z (xs (i + 1)) (xs (i + 2)) (xs (i + 3)) (xs (i + 4)) (xs (i + 5))) (gate_ok Z (xs (i + 1)) (xs (i + 2)) (xs (i + 3)) (xs (i + 4)) (xs (i + 5)))
  generalize ev : (aGate σ (xs (i + 1)) (xs (i + 2)) (xs (i + 3)) (xs (i + 4)) (xs (i + 5)) : Int32) = v at R1 R2
  refine r_aload_n (q0 (i := 39) rfl) l1 ?_
  refine r_aload_n (q0 (i := 40) rfl) l0 ?_
  refine r_iload_n (q0 (i := 41) rfl) l3 ?_
  refine r_iconst (v := 1) (q0 (i := 42) rfl) (by decide) ?_
  refine r_iadd (q0 (i := 43) rfl) ?_
  rw [show ((nI i) + 1 : Int32) = nI (i + 1) from nI_add i 1]
  refine r_iaload7 (x := xs (i + 1)) (q0 (i := 44) rfl) X.1 (vp_in_nI (by omega) (by omega)) (by rw [X.2, nI_clamp (by omega)]) ?_
  refine r_aload_n (q0 (i := 45) rfl) l0 ?_
  refine r_iload_n (q0 (i := 46) rfl) l3 ?_
  refine r_iconst (v := 2) (q0 (i := 47) rfl) (by decide) ?_
  refine r_iadd (q0 (i := 48) rfl) ?_
  rw [show ((nI i) + 2 : Int32) = nI (i + 2) from nI_add i 2]
  refine r_iaload7 (x := xs (i + 2)) (q0 (i := 49) rfl) X.1 (vp_in_nI (by omega) (by omega)) (by rw [X.2, nI_clamp (by omega)]) ?_
  refine r_aload_n (q0 (i := 50) rfl) l0 ?_
  refine r_iload_n (q0 (i := 51) rfl) l3 ?_
  refine r_iconst (v := 3) (q0 (i := 52) rfl) (by decide) ?_
  refine r_iadd (q0 (i := 53) rfl) ?_
  rw [show ((nI i) + 3 : Int32) = nI (i + 3) from nI_add i 3]
  refine r_iaload7 (x := xs (i + 3)) (q0 (i := 54) rfl) X.1 (vp_in_nI (by omega) (by omega)) (by rw [X.2, nI_clamp (by omega)]) ?_
  refine r_aload_n (q0 (i := 55) rfl) l0 ?_
  refine r_iload_n (q0 (i := 56) rfl) l3 ?_
  refine r_iconst (v := 4) (q0 (i := 57) rfl) (by decide) ?_
  refine r_iadd (q0 (i := 58) rfl) ?_
  rw [show ((nI i) + 4 : Int32) = nI (i + 4) from nI_add i 4]
  refine r_iaload7 (x := xs (i + 4)) (q0 (i := 59) rfl) X.1 (vp_in_nI (by omega) (by omega)) (by rw [X.2, nI_clamp (by omega)]) ?_
  refine r_aload_n (q0 (i := 60) rfl) l0 ?_
  refine r_iload_n (q0 (i := 61) rfl) l3 ?_
  refine r_iconst (v := 5) (q0 (i := 62) rfl) (by decide) ?_
  refine r_iadd (q0 (i := 63) rfl) ?_
  rw [show ((nI i) + 5 : Int32) = nI (i + 5) from nI_add i 5]
  refine r_iaload7 (x := xs (i + 5)) (q0 (i := 64) rfl) X.1 (vp_in_nI (by omega) (by omega)) (by rw [X.2, nI_clamp (by omega)]) ?_
  refine r_cV (d := _) (q0 (i := 65) rfl) rfl rfl rfl (k_2 S) (Nat.le_of_ble_eq_true rfl) (bb.1) (bb.2) R1 ?_
  show Wp _ _ _ 184 ls [.int v] h1 _ _
  have X := X1
  refine r_aload_n (q0 (i := 66) rfl) l2 ?_
  refine r_aload_n (q0 (i := 67) rfl) l0 ?_
  refine r_iload_n (q0 (i := 68) rfl) l3 ?_
  refine r_iconst (v := 1) (q0 (i := 69) rfl) (by decide) ?_
  refine r_iadd (q0 (i := 70) rfl) ?_
  rw [show ((nI i) + 1 : Int32) = nI (i + 1) from nI_add i 1]
  refine r_iaload7 (x := xs (i + 1)) (q0 (i := 71) rfl) X.1 (vp_in_nI (by omega) (by omega)) (by rw [X.2, nI_clamp (by omega)]) ?_
  refine r_aload_n (q0 (i := 72) rfl) l0 ?_
  refine r_iload_n (q0 (i := 73) rfl) l3 ?_
  refine r_iconst (v := 2) (q0 (i := 74) rfl) (by decide) ?_
  refine r_iadd (q0 (i := 75) rfl) ?_
  rw [show ((nI i) + 2 : Int32) = nI (i + 2) from nI_add i 2]
  refine r_iaload7 (x := xs (i + 2)) (q0 (i := 76) rfl) X.1 (vp_in_nI (by omega) (by omega)) (by rw [X.2, nI_clamp (by omega)]) ?_
  refine r_aload_n (q0 (i := 77) rfl) l0 ?_
  refine r_iload_n (q0 (i := 78) rfl) l3 ?_
  refine r_iconst (v := 3) (q0 (i := 79) rfl) (by decide) ?_
  refine r_iadd (q0 (i := 80) rfl) ?_
  rw [show ((nI i) + 3 : Int32) = nI (i + 3) from nI_add i 3]
  refine r_iaload7 (x := xs (i + 3)) (q0 (i := 81) rfl) X.1 (vp_in_nI (by omega) (by omega)) (by rw [X.2, nI_clamp (by omega)]) ?_
  refine r_aload_n (q0 (i := 82) rfl) l0 ?_
  refine r_iload_n (q0 (i := 83) rfl) l3 ?_
  refine r_iconst (v := 4) (q0 (i := 84) rfl) (by decide) ?_
  refine r_iadd (q0 (i := 85) rfl) ?_
  rw [show ((nI i) + 4 : Int32) = nI (i + 4) from nI_add i 4]
  refine r_iaload7 (x := xs (i + 4)) (q0 (i := 86) rfl) X.1 (vp_in_nI (by omega) (by omega)) (by rw [X.2, nI_clamp (by omega)]) ?_
  refine r_aload_n (q0 (i := 87) rfl) l0 ?_
  refine r_iload_n (q0 (i := 88) rfl) l3 ?_
  refine r_iconst (v := 5) (q0 (i := 89) rfl) (by decide) ?_
  refine r_iadd (q0 (i := 90) rfl) ?_
  rw [show ((nI i) + 5 : Int32) = nI (i + 5) from nI_add i 5]
  refine r_iaload7 (x := xs (i + 5)) (q0 (i := 91) rfl) X.1 (vp_in_nI (by omega) (by omega)) (by rw [X.2, nI_clamp (by omega)]) ?_
  refine r_cV (d := _) (q0 (i := 92) rfl) rfl rfl rfl (k_47 S1) (Nat.le_of_ble_eq_true rfl) (Nat.zero_le _) (Nat.zero_le _) R2 ?_
  show Wp _ _ _ 213 ls [.int v, .int v] h2 _ _
  refine r_icmp 705 (q0 (i := 93) rfl) (by decide) (fun _ => ?_) (fun zz => absurd (show v = v from rfl) zz)
  exact kk h2 _ _ I2 ls l3 l2 l1 l0
set_option maxHeartbeats 2000000 in
set_option maxRecDepth 10000 in
theorem lw_2 {L : Nat} {xs : Nat → Int32} (hL : L ≤ 3072) {h : hp} {bc bs i : Nat} (hi : i + 5 < L) (l : LI L xs h bc bs) {Q : resP} (kk : ∀ h' bc' bs', LI L xs h' bc' bs' → ∀ ls : List (Nat × Value), ls.lookup 3 = some (.int (nI i)) → ls.lookup 2 = some (.ref 47) → ls.lookup 1 = some (.ref 2) → ls.lookup 0 = some (.ref 0) → Wp (Ex 8) 0 Q 705 ls [] h' bc' bs') (ls : List (Nat × Value)) (l3 : ls.lookup 3 = some (.int (nI i))) (l2 : ls.lookup 2 = some (.ref 47)) (l1 : ls.lookup 1 = some (.ref 2)) (l0 : ls.lookup 0 = some (.ref 0)) : Wp (Ex 8) 0 Q 218 ls [] h bc bs := by
  obtain ⟨ρ, e, σ, C, M, Z, X, b1, b2⟩ := l
  have S := C.1.1
  obtain ⟨h1, h2, mc, ms, R1, R2, bb, I2, S1, X1⟩ := LI.step C M Z X b1 b2 (xs_output C Z (xs (i + 1)) (xs (i + 2))) (fun h1 M1 => ms_output M1 Z (xs (i + 1)) (xs (i + 2))) (out_ok Z (xs (i + 1)) (xs (i + 2)))
  generalize ev : (aOut σ (xs (i + 1)) (xs (i + 2)) : Int32) = v at R1 R2
  refine r_aload_n (q0 (i := 96) rfl) l1 ?_
  refine r_aload_n (q0 (i := 97) rfl) l0 ?_
  refine r_iload_n (q0 (i := 98) rfl) l3 ?_
  refine r_iconst (v := 1) (q0 (i := 99) rfl) (by decide) ?_
  refine r_iadd (q0 (i := 100) rfl) ?_
  rw [show ((nI i) + 1 : Int32) = nI (i + 1) from nI_add i 1]
  refine r_iaload7 (x := xs (i + 1)) (q0 (i := 101) rfl) X.1 (vp_in_nI (by omega) (by omega)) (by rw [X.2, nI_clamp (by omega)]) ?_
  refine r_aload_n (q0 (i := 102) rfl) l0 ?_
  refine r_iload_n (q0 (i := 103) rfl) l3 ?_
  refine r_iconst (v := 2) (q0 (i := 104) rfl) (by decide) ?_
  refine r_iadd (q0 (i := 105) rfl) ?_
  rw [show ((nI i) + 2 : Int32) = nI (i + 2) from nI_add i 2]
  refine r_iaload7 (x := xs (i + 2)) (q0 (i := 106) rfl) X.1 (vp_in_nI (by omega) (by omega)) (by rw [X.2, nI_clamp (by omega)]) ?_
  refine r_cV (d := _) (q0 (i := 107) rfl) rfl rfl rfl (k_2 S) (Nat.le_of_ble_eq_true rfl) (bb.1) (bb.2) R1 ?_
  show Wp _ _ _ 232 ls [.int v] h1 _ _
  have X := X1
  refine r_aload_n (q0 (i := 108) rfl) l2 ?_
  refine r_aload_n (q0 (i := 109) rfl) l0 ?_
  refine r_iload_n (q0 (i := 110) rfl) l3 ?_
  refine r_iconst (v := 1) (q0 (i := 111) rfl) (by decide) ?_
  refine r_iadd (q0 (i := 112) rfl) ?_
  rw [show ((nI i) + 1 : Int32) = nI (i + 1) from nI_add i 1]
  refine r_iaload7 (x := xs (i + 1)) (q0 (i := 113) rfl) X.1 (vp_in_nI (by omega) (by omega)) (by rw [X.2, nI_clamp (by omega)]) ?_
  refine r_aload_n (q0 (i := 114) rfl) l0 ?_
  refine r_iload_n (q0 (i := 115) rfl) l3 ?_
  refine r_iconst (v := 2) (q0 (i := 116) rfl) (by decide) ?_
  refine r_iadd (q0 (i := 117) rfl) ?_
  rw [show ((nI i) + 2 : Int32) = nI (i + 2) from nI_add i 2]
  refine r_iaload7 (x := xs (i + 2)) (q0 (i := 118) rfl) X.1 (vp_in_nI (by omega) (by omega)) (by rw [X.2, nI_clamp (by omega)]) ?_
  refine r_cV (d := _) (q0 (i := 119) rfl) rfl rfl rfl (k_47 S1) (Nat.le_of_ble_eq_true rfl) (Nat.zero_le _) (Nat.zero_le _) R2 ?_
  show Wp _ _ _ 246 ls [.int v, .int v] h2 _ _
  refine r_icmp 705 (q0 (i := 120) rfl) (by decide) (fun _ => ?_) (fun zz => absurd (show v = v from rfl) zz)
  exact kk h2 _ _ I2 ls l3 l2 l1 l0
set_option maxHeartbeats 2000000 in
set_option maxRecDepth 10000 in
theorem lw_3 {L : Nat} {xs : Nat → Int32} (hL : L ≤ 3072) {h : hp} {bc bs i : Nat} (hi : i + 5 < L) (l : LI L xs h bc bs) {Q : resP} (kk : ∀ h' bc' bs', LI L xs h' bc' bs' → ∀ ls : List (Nat × Value), ls.lookup 3 = some (.int (nI i)) → ls.lookup 2 = some (.ref 47) → ls.lookup 1 = some (.ref 2) → ls.lookup 0 = some (.ref 0) → Wp (Ex 8) 0 Q 705 ls [] h' bc' bs') (ls : List (Nat × Value)) (l3 : ls.lookup 3 = some (.int (nI i))) (l2 : ls.lookup 2 = some (.ref 47)) (l1 : ls.lookup 1 = some (.ref 2)) (l0 : ls.lookup 0 = some (.ref 0)) : Wp (Ex 8) 0 Q 251 ls [] h bc bs := by
  obtain ⟨ρ, e, σ, C, M, Z, X, b1, b2⟩ := l
  have S := C.1.1
  obtain ⟨h1, h2, mc, ms, R1, R2, bb, I2, S1, X1⟩ := LI.step C M Z X b1 b2 (xs_clear C (xs (i + 1))) (fun h1 M1 => ms_clear M1 Z (xs (i + 1))) (clr_ok Z (xs (i + 1)))
  generalize ev : (aClr σ (xs (i + 1)) : Int32) = v at R1 R2
  refine r_aload_n (q0 (i := 123) rfl) l1 ?_
  refine r_aload_n (q0 (i := 124) rfl) l0 ?_
  refine r_iload_n (q0 (i := 125) rfl) l3 ?_
  refine r_iconst (v := 1) (q0 (i := 126) rfl) (by decide) ?_
  refine r_iadd (q0 (i := 127) rfl) ?_
  rw [show ((nI i) + 1 : Int32) = nI (i + 1) from nI_add i 1]
  refine r_iaload7 (x := xs (i + 1)) (q0 (i := 128) rfl) X.1 (vp_in_nI (by omega) (by omega)) (by rw [X.2, nI_clamp (by omega)]) ?_
  refine r_cV (d := _) (q0 (i := 129) rfl) rfl rfl rfl (k_2 S) (Nat.le_of_ble_eq_true rfl) (bb.1) (bb.2) R1 ?_
  show Wp _ _ _ 260 ls [.int v] h1 _ _
  have X := X1
  refine r_aload_n (q0 (i := 130) rfl) l2 ?_
  refine r_aload_n (q0 (i := 131) rfl) l0 ?_
  refine r_iload_n (q0 (i := 132) rfl) l3 ?_
  refine r_iconst (v := 1) (q0 (i := 133) rfl) (by decide) ?_
  refine r_iadd (q0 (i := 134) rfl) ?_
  rw [show ((nI i) + 1 : Int32) = nI (i + 1) from nI_add i 1]
  refine r_iaload7 (x := xs (i + 1)) (q0 (i := 135) rfl) X.1 (vp_in_nI (by omega) (by omega)) (by rw [X.2, nI_clamp (by omega)]) ?_
  refine r_cV (d := _) (q0 (i := 136) rfl) rfl rfl rfl (k_47 S1) (Nat.le_of_ble_eq_true rfl) (Nat.zero_le _) (Nat.zero_le _) R2 ?_
  show Wp _ _ _ 269 ls [.int v, .int v] h2 _ _
  refine r_icmp 705 (q0 (i := 137) rfl) (by decide) (fun _ => ?_) (fun zz => absurd (show v = v from rfl) zz)
  exact kk h2 _ _ I2 ls l3 l2 l1 l0
set_option maxHeartbeats 2000000 in
set_option maxRecDepth 10000 in
theorem lw_4 {L : Nat} {xs : Nat → Int32} (hL : L ≤ 3072) {h : hp} {bc bs i : Nat} (hi : i + 5 < L) (l : LI L xs h bc bs) {Q : resP} (kk : ∀ h' bc' bs', LI L xs h' bc' bs' → ∀ ls : List (Nat × Value), ls.lookup 3 = some (.int (nI i)) → ls.lookup 2 = some (.ref 47) → ls.lookup 1 = some (.ref 2) → ls.lookup 0 = some (.ref 0) → Wp (Ex 8) 0 Q 705 ls [] h' bc' bs') (ls : List (Nat × Value)) (l3 : ls.lookup 3 = some (.int (nI i))) (l2 : ls.lookup 2 = some (.ref 47)) (l1 : ls.lookup 1 = some (.ref 2)) (l0 : ls.lookup 0 = some (.ref 0)) : Wp (Ex 8) 0 Q 274 ls [] h bc bs := by
  obtain ⟨ρ, e, σ, C, M, Z, X, b1, b2⟩ := l
  have S := C.1.1
  obtain ⟨h1, h2, mc, ms, R1, R2, bb, I2, S1, X1⟩ := LI.step C M Z X b1 b2 (xs_feed C (xs (i + 1)) (xs (i + 2)) (xs (i + 3)) (xs (i + 4)) (xs (i + 5))) (fun h1 M1 => ms_feed M1 Z (xs (i + 1)) (xs (i + 2)) (xs (i + 3)) (xs (i + 4)) (xs (i + 5))) (feed_ok Z (xs (i + 1)) (xs (i + 2)) (xs (i + 3)) (xs (i + 4)) (xs (i + 5)))
  generalize ev : (aFeed σ : Int32) = v at R1 R2
  refine r_aload_n (q0 (i := 140) rfl) l1 ?_
  refine r_aload_n (q0 (i := 141) rfl) l0 ?_
  refine r_iload_n (q0 (i := 142) rfl) l3 ?_
  refine r_iconst (v := 1) (q0 (i := 143) rfl) (by decide) ?_
  refine r_iadd (q0 (i := 144) rfl) ?_
  rw [show ((nI i) + 1 : Int32) = nI (i + 1) from nI_add i 1]
  refine r_iaload7 (x := xs (i + 1)) (q0 (i := 145) rfl) X.1 (vp_in_nI (by omega) (by omega)) (by rw [X.2, nI_clamp (by omega)]) ?_
  refine r_aload_n (q0 (i := 146) rfl) l0 ?_
  refine r_iload_n (q0 (i := 147) rfl) l3 ?_
  refine r_iconst (v := 2) (q0 (i := 148) rfl) (by decide) ?_
  refine r_iadd (q0 (i := 149) rfl) ?_
  rw [show ((nI i) + 2 : Int32) = nI (i + 2) from nI_add i 2]
  refine r_iaload7 (x := xs (i + 2)) (q0 (i := 150) rfl) X.1 (vp_in_nI (by omega) (by omega)) (by rw [X.2, nI_clamp (by omega)]) ?_
  refine r_aload_n (q0 (i := 151) rfl) l0 ?_
  refine r_iload_n (q0 (i := 152) rfl) l3 ?_
  refine r_iconst (v := 3) (q0 (i := 153) rfl) (by decide) ?_
  refine r_iadd (q0 (i := 154) rfl) ?_
  rw [show ((nI i) + 3 : Int32) = nI (i + 3) from nI_add i 3]
  refine r_iaload7 (x := xs (i + 3)) (q0 (i := 155) rfl) X.1 (vp_in_nI (by omega) (by omega)) (by rw [X.2, nI_clamp (by omega)]) ?_
  refine r_aload_n (q0 (i := 156) rfl) l0 ?_
  refine r_iload_n (q0 (i := 157) rfl) l3 ?_
  refine r_iconst (v := 4) (q0 (i := 158) rfl) (by decide) ?_
  refine r_iadd (q0 (i := 159) rfl) ?_
  rw [show ((nI i) + 4 : Int32) = nI (i + 4) from nI_add i 4]
  refine r_iaload7 (x := xs (i + 4)) (q0 (i := 160) rfl) X.1 (vp_in_nI (by omega) (by omega)) (by rw [X.2, nI_clamp (by omega)]) ?_
  refine r_aload_n (q0 (i := 161) rfl) l0 ?_
  refine r_iload_n (q0 (i := 162) rfl) l3 ?_
  refine r_iconst (v := 5) (q0 (i := 163) rfl) (by decide) ?_
  refine r_iadd (q0 (i := 164) rfl) ?_
  rw [show ((nI i) + 5 : Int32) = nI (i + 5) from nI_add i 5]
  refine r_iaload7 (x := xs (i + 5)) (q0 (i := 165) rfl) X.1 (vp_in_nI (by omega) (by omega)) (by rw [X.2, nI_clamp (by omega)]) ?_
  refine r_cV (d := _) (q0 (i := 166) rfl) rfl rfl rfl (k_2 S) (Nat.le_of_ble_eq_true rfl) (bb.1) (bb.2) R1 ?_
  show Wp _ _ _ 303 ls [.int v] h1 _ _
  have X := X1
  refine r_aload_n (q0 (i := 167) rfl) l2 ?_
  refine r_aload_n (q0 (i := 168) rfl) l0 ?_
  refine r_iload_n (q0 (i := 169) rfl) l3 ?_
  refine r_iconst (v := 1) (q0 (i := 170) rfl) (by decide) ?_
  refine r_iadd (q0 (i := 171) rfl) ?_
  rw [show ((nI i) + 1 : Int32) = nI (i + 1) from nI_add i 1]
  refine r_iaload7 (x := xs (i + 1)) (q0 (i := 172) rfl) X.1 (vp_in_nI (by omega) (by omega)) (by rw [X.2, nI_clamp (by omega)]) ?_
  refine r_aload_n (q0 (i := 173) rfl) l0 ?_
  refine r_iload_n (q0 (i := 174) rfl) l3 ?_
  refine r_iconst (v := 2) (q0 (i := 175) rfl) (by decide) ?_
  refine r_iadd (q0 (i := 176) rfl) ?_
  rw [show ((nI i) + 2 : Int32) = nI (i + 2) from nI_add i 2]
  refine r_iaload7 (x := xs (i + 2)) (q0 (i := 177) rfl) X.1 (vp_in_nI (by omega) (by omega)) (by rw [X.2, nI_clamp (by omega)]) ?_
  refine r_aload_n (q0 (i := 178) rfl) l0 ?_
  refine r_iload_n (q0 (i := 179) rfl) l3 ?_
  refine r_iconst (v := 3) (q0 (i := 180) rfl) (by decide) ?_
  refine r_iadd (q0 (i := 181) rfl) ?_
  rw [show ((nI i) + 3 : Int32) = nI (i + 3) from nI_add i 3]
  refine r_iaload7 (x := xs (i + 3)) (q0 (i := 182) rfl) X.1 (vp_in_nI (by omega) (by omega)) (by rw [X.2, nI_clamp (by omega)]) ?_
  refine r_aload_n (q0 (i := 183) rfl) l0 ?_
  refine r_iload_n (q0 (i := 184) rfl) l3 ?_
  refine r_iconst (v := 4) (q0 (i := 185) rfl) (by decide) ?_
  refine r_iadd (q0 (i := 186) rfl) ?_
  rw [show ((nI i) + 4 : Int32) = nI (i + 4) from nI_add i 4]
  refine r_iaload7 (x := xs (i + 4)) (q0 (i := 187) rfl) X.1 (vp_in_nI (by omega) (by omega)) (by rw [X.2, nI_clamp (by omega)]) ?_
  refine r_aload_n (q0 (i := 188) rfl) l0 ?_
  refine r_iload_n (q0 (i := 189) rfl) l3 ?_
  refine r_iconst (v := 5) (q0 (i := 190) rfl) (by decide) ?_
  refine r_iadd (q0 (i := 191) rfl) ?_
  rw [show ((nI i) + 5 : Int32) = nI (i + 5) from nI_add i 5]
  refine r_iaload7 (x := xs (i + 5)) (q0 (i := 192) rfl) X.1 (vp_in_nI (by omega) (by omega)) (by rw [X.2, nI_clamp (by omega)]) ?_
  refine r_cV (d := _) (q0 (i := 193) rfl) rfl rfl rfl (k_47 S1) (Nat.le_of_ble_eq_true rfl) (Nat.zero_le _) (Nat.zero_le _) R2 ?_
  show Wp _ _ _ 332 ls [.int v, .int v] h2 _ _
  refine r_icmp 705 (q0 (i := 194) rfl) (by decide) (fun _ => ?_) (fun zz => absurd (show v = v from rfl) zz)
  exact kk h2 _ _ I2 ls l3 l2 l1 l0
set_option maxHeartbeats 2000000 in
set_option maxRecDepth 10000 in
theorem lw_5 {L : Nat} {xs : Nat → Int32} (hL : L ≤ 3072) {h : hp} {bc bs i : Nat} (hi : i + 5 < L) (l : LI L xs h bc bs) {Q : resP} (kk : ∀ h' bc' bs', LI L xs h' bc' bs' → ∀ ls : List (Nat × Value), ls.lookup 3 = some (.int (nI i)) → ls.lookup 2 = some (.ref 47) → ls.lookup 1 = some (.ref 2) → ls.lookup 0 = some (.ref 0) → Wp (Ex 8) 0 Q 705 ls [] h' bc' bs') (ls : List (Nat × Value)) (l3 : ls.lookup 3 = some (.int (nI i))) (l2 : ls.lookup 2 = some (.ref 47)) (l1 : ls.lookup 1 = some (.ref 2)) (l0 : ls.lookup 0 = some (.ref 0)) : Wp (Ex 8) 0 Q 337 ls [] h bc bs := by
  obtain ⟨ρ, e, σ, C, M, Z, X, b1, b2⟩ := l
  have S := C.1.1
  obtain ⟨h1, h2, mc, ms, R1, R2, bb, I2, S1, X1⟩ := LI.step C M Z X b1 b2 (xs_end C (xs (i + 1))) (fun h1 M1 => ms_end M1 Z (xs (i + 1))) (end_ok Z (xs (i + 1)))
  generalize ev : (aEnd σ (xs (i + 1)) : Int32) = v at R1 R2
  refine r_aload_n (q0 (i := 197) rfl) l1 ?_
  refine r_aload_n (q0 (i := 198) rfl) l0 ?_
  refine r_iload_n (q0 (i := 199) rfl) l3 ?_
  refine r_iconst (v := 1) (q0 (i := 200) rfl) (by decide) ?_
  refine r_iadd (q0 (i := 201) rfl) ?_
  rw [show ((nI i) + 1 : Int32) = nI (i + 1) from nI_add i 1]
  refine r_iaload7 (x := xs (i + 1)) (q0 (i := 202) rfl) X.1 (vp_in_nI (by omega) (by omega)) (by rw [X.2, nI_clamp (by omega)]) ?_
  refine r_cV (d := _) (q0 (i := 203) rfl) rfl rfl rfl (k_2 S) (Nat.le_of_ble_eq_true rfl) (bb.1) (bb.2) R1 ?_
  show Wp _ _ _ 346 ls [.int v] h1 _ _
  have X := X1
  refine r_aload_n (q0 (i := 204) rfl) l2 ?_
  refine r_aload_n (q0 (i := 205) rfl) l0 ?_
  refine r_iload_n (q0 (i := 206) rfl) l3 ?_
  refine r_iconst (v := 1) (q0 (i := 207) rfl) (by decide) ?_
  refine r_iadd (q0 (i := 208) rfl) ?_
  rw [show ((nI i) + 1 : Int32) = nI (i + 1) from nI_add i 1]
  refine r_iaload7 (x := xs (i + 1)) (q0 (i := 209) rfl) X.1 (vp_in_nI (by omega) (by omega)) (by rw [X.2, nI_clamp (by omega)]) ?_
  refine r_cV (d := _) (q0 (i := 210) rfl) rfl rfl rfl (k_47 S1) (Nat.le_of_ble_eq_true rfl) (Nat.zero_le _) (Nat.zero_le _) R2 ?_
  show Wp _ _ _ 355 ls [.int v, .int v] h2 _ _
  refine r_icmp 705 (q0 (i := 211) rfl) (by decide) (fun _ => ?_) (fun zz => absurd (show v = v from rfl) zz)
  exact kk h2 _ _ I2 ls l3 l2 l1 l0
set_option maxHeartbeats 2000000 in
set_option maxRecDepth 10000 in
theorem lw_6 {L : Nat} {xs : Nat → Int32} (hL : L ≤ 3072) {h : hp} {bc bs i : Nat} (hi : i + 5 < L) (l : LI L xs h bc bs) {Q : resP} (kk : ∀ h' bc' bs', LI L xs h' bc' bs' → ∀ ls : List (Nat × Value), ls.lookup 3 = some (.int (nI i)) → ls.lookup 2 = some (.ref 47) → ls.lookup 1 = some (.ref 2) → ls.lookup 0 = some (.ref 0) → Wp (Ex 8) 0 Q 705 ls [] h' bc' bs') (ls : List (Nat × Value)) (l3 : ls.lookup 3 = some (.int (nI i))) (l2 : ls.lookup 2 = some (.ref 47)) (l1 : ls.lookup 1 = some (.ref 2)) (l0 : ls.lookup 0 = some (.ref 0)) : Wp (Ex 8) 0 Q 360 ls [] h bc bs := by
  obtain ⟨ρ, e, σ, C, M, Z, X, b1, b2⟩ := l
  have S := C.1.1
  obtain ⟨h1, h2, mc, ms, R1, R2, bb, I2, S1, X1⟩ := LI.step C M Z X b1 b2 (xs_read C Z (xs (i + 1))) (fun h1 M1 => ms_read M1 Z (xs (i + 1))) (read_ok Z (xs (i + 1)))
  generalize ev : (aRead σ (xs (i + 1)) : Int32) = v at R1 R2
  refine r_aload_n (q0 (i := 214) rfl) l1 ?_
  refine r_aload_n (q0 (i := 215) rfl) l0 ?_
  refine r_iload_n (q0 (i := 216) rfl) l3 ?_
  refine r_iconst (v := 1) (q0 (i := 217) rfl) (by decide) ?_
  refine r_iadd (q0 (i := 218) rfl) ?_
  rw [show ((nI i) + 1 : Int32) = nI (i + 1) from nI_add i 1]
  refine r_iaload7 (x := xs (i + 1)) (q0 (i := 219) rfl) X.1 (vp_in_nI (by omega) (by omega)) (by rw [X.2, nI_clamp (by omega)]) ?_
  refine r_cV (d := _) (q0 (i := 220) rfl) rfl rfl rfl (k_2 S) (Nat.le_of_ble_eq_true rfl) (bb.1) (bb.2) R1 ?_
  show Wp _ _ _ 369 ls [.int v] h1 _ _
  have X := X1
  refine r_aload_n (q0 (i := 221) rfl) l2 ?_
  refine r_aload_n (q0 (i := 222) rfl) l0 ?_
  refine r_iload_n (q0 (i := 223) rfl) l3 ?_
  refine r_iconst (v := 1) (q0 (i := 224) rfl) (by decide) ?_
  refine r_iadd (q0 (i := 225) rfl) ?_
  rw [show ((nI i) + 1 : Int32) = nI (i + 1) from nI_add i 1]
  refine r_iaload7 (x := xs (i + 1)) (q0 (i := 226) rfl) X.1 (vp_in_nI (by omega) (by omega)) (by rw [X.2, nI_clamp (by omega)]) ?_
  refine r_cV (d := _) (q0 (i := 227) rfl) rfl rfl rfl (k_47 S1) (Nat.le_of_ble_eq_true rfl) (Nat.zero_le _) (Nat.zero_le _) R2 ?_
  show Wp _ _ _ 378 ls [.int v, .int v] h2 _ _
  refine r_icmp 705 (q0 (i := 228) rfl) (by decide) (fun _ => ?_) (fun zz => absurd (show v = v from rfl) zz)
  exact kk h2 _ _ I2 ls l3 l2 l1 l0
set_option maxHeartbeats 2000000 in
set_option maxRecDepth 10000 in
theorem lw_7 {L : Nat} {xs : Nat → Int32} (hL : L ≤ 3072) {h : hp} {bc bs i : Nat} (hi : i + 5 < L) (l : LI L xs h bc bs) {Q : resP} (kk : ∀ h' bc' bs', LI L xs h' bc' bs' → ∀ ls : List (Nat × Value), ls.lookup 3 = some (.int (nI i)) → ls.lookup 2 = some (.ref 47) → ls.lookup 1 = some (.ref 2) → ls.lookup 0 = some (.ref 0) → Wp (Ex 8) 0 Q 705 ls [] h' bc' bs') (ls : List (Nat × Value)) (l3 : ls.lookup 3 = some (.int (nI i))) (l2 : ls.lookup 2 = some (.ref 47)) (l1 : ls.lookup 1 = some (.ref 2)) (l0 : ls.lookup 0 = some (.ref 0)) : Wp (Ex 8) 0 Q 383 ls [] h bc bs := by
  obtain ⟨ρ, e, σ, C, M, Z, X, b1, b2⟩ := l
  have S := C.1.1
  obtain ⟨h1, h2, mc, ms, R1, R2, bb, I2, S1, X1⟩ := LI.step C M Z X b1 b2 (xs_place C) (fun h1 M1 => ms_place M1) (Z)
  generalize ev : (zp σ : Int32) = v at R1 R2
  refine r_aload_n (q0 (i := 231) rfl) l1 ?_
  refine r_cV (d := _) (q0 (i := 232) rfl) rfl rfl rfl (k_2 S) (Nat.le_of_ble_eq_true rfl) (bb.1) (bb.2) R1 ?_
  show Wp _ _ _ 387 ls [.int v] h1 _ _
  have X := X1
  refine r_aload_n (q0 (i := 233) rfl) l2 ?_
  refine r_cV (d := _) (q0 (i := 234) rfl) rfl rfl rfl (k_47 S1) (Nat.le_of_ble_eq_true rfl) (Nat.zero_le _) (Nat.zero_le _) R2 ?_
  show Wp _ _ _ 391 ls [.int v, .int v] h2 _ _
  refine r_icmp 705 (q0 (i := 235) rfl) (by decide) (fun _ => ?_) (fun zz => absurd (show v = v from rfl) zz)
  exact kk h2 _ _ I2 ls l3 l2 l1 l0
set_option maxHeartbeats 2000000 in
set_option maxRecDepth 10000 in
theorem lw_8 {L : Nat} {xs : Nat → Int32} (hL : L ≤ 3072) {h : hp} {bc bs i : Nat} (hi : i + 5 < L) (l : LI L xs h bc bs) {Q : resP} (kk : ∀ h' bc' bs', LI L xs h' bc' bs' → ∀ ls : List (Nat × Value), ls.lookup 3 = some (.int (nI i)) → ls.lookup 2 = some (.ref 47) → ls.lookup 1 = some (.ref 2) → ls.lookup 0 = some (.ref 0) → Wp (Ex 8) 0 Q 705 ls [] h' bc' bs') (ls : List (Nat × Value)) (l3 : ls.lookup 3 = some (.int (nI i))) (l2 : ls.lookup 2 = some (.ref 47)) (l1 : ls.lookup 1 = some (.ref 2)) (l0 : ls.lookup 0 = some (.ref 0)) : Wp (Ex 8) 0 Q 396 ls [] h bc bs := by
  obtain ⟨ρ, e, σ, C, M, Z, X, b1, b2⟩ := l
  have S := C.1.1
  obtain ⟨h1, h2, mc, ms, R1, R2, bb, I2, S1, X1⟩ := LI.step C M Z X b1 b2 (xs_value C Z (xs (i + 1)) (xs (i + 2)) (xs (i + 3))) (fun h1 M1 => ms_value M1 Z (xs (i + 1)) (xs (i + 2)) (xs (i + 3))) (Z)
  generalize ev : (aVal σ (xs (i + 1)) (xs (i + 2)) (xs (i + 3)) : Int32) = v at R1 R2
  refine r_aload_n (q0 (i := 238) rfl) l1 ?_
  refine r_aload_n (q0 (i := 239) rfl) l0 ?_
  refine r_iload_n (q0 (i := 240) rfl) l3 ?_
  refine r_iconst (v := 1) (q0 (i := 241) rfl) (by decide) ?_
  refine r_iadd (q0 (i := 242) rfl) ?_
  rw [show ((nI i) + 1 : Int32) = nI (i + 1) from nI_add i 1]
  refine r_iaload7 (x := xs (i + 1)) (q0 (i := 243) rfl) X.1 (vp_in_nI (by omega) (by omega)) (by rw [X.2, nI_clamp (by omega)]) ?_
  refine r_aload_n (q0 (i := 244) rfl) l0 ?_
  refine r_iload_n (q0 (i := 245) rfl) l3 ?_
  refine r_iconst (v := 2) (q0 (i := 246) rfl) (by decide) ?_
  refine r_iadd (q0 (i := 247) rfl) ?_
  rw [show ((nI i) + 2 : Int32) = nI (i + 2) from nI_add i 2]
  refine r_iaload7 (x := xs (i + 2)) (q0 (i := 248) rfl) X.1 (vp_in_nI (by omega) (by omega)) (by rw [X.2, nI_clamp (by omega)]) ?_
  refine r_aload_n (q0 (i := 249) rfl) l0 ?_
  refine r_iload_n (q0 (i := 250) rfl) l3 ?_
  refine r_iconst (v := 3) (q0 (i := 251) rfl) (by decide) ?_
  refine r_iadd (q0 (i := 252) rfl) ?_
  rw [show ((nI i) + 3 : Int32) = nI (i + 3) from nI_add i 3]
  refine r_iaload7 (x := xs (i + 3)) (q0 (i := 253) rfl) X.1 (vp_in_nI (by omega) (by omega)) (by rw [X.2, nI_clamp (by omega)]) ?_
  refine r_cV (d := _) (q0 (i := 254) rfl) rfl rfl rfl (k_2 S) (Nat.le_of_ble_eq_true rfl) (bb.1) (bb.2) R1 ?_
  show Wp _ _ _ 415 ls [.int v] h1 _ _
  have X := X1
  refine r_aload_n (q0 (i := 255) rfl) l2 ?_
  refine r_aload_n (q0 (i := 256) rfl) l0 ?_
  refine r_iload_n (q0 (i := 257) rfl) l3 ?_
  refine r_iconst (v := 1) (q0 (i := 258) rfl) (by decide) ?_
  refine r_iadd (q0 (i := 259) rfl) ?_
  rw [show ((nI i) + 1 : Int32) = nI (i + 1) from nI_add i 1]
  refine r_iaload7 (x := xs (i + 1)) (q0 (i := 260) rfl) X.1 (vp_in_nI (by omega) (by omega)) (by rw [X.2, nI_clamp (by omega)]) ?_
  refine r_aload_n (q0 (i := 261) rfl) l0 ?_
  refine r_iload_n (q0 (i := 262) rfl) l3 ?_
  refine r_iconst (v := 2) (q0 (i := 263) rfl) (by decide) ?_
  refine r_iadd (q0 (i := 264) rfl) ?_
  rw [show ((nI i) + 2 : Int32) = nI (i + 2) from nI_add i 2]
  refine r_iaload7 (x := xs (i + 2)) (q0 (i := 265) rfl) X.1 (vp_in_nI (by omega) (by omega)) (by rw [X.2, nI_clamp (by omega)]) ?_
  refine r_aload_n (q0 (i := 266) rfl) l0 ?_
  refine r_iload_n (q0 (i := 267) rfl) l3 ?_
  refine r_iconst (v := 3) (q0 (i := 268) rfl) (by decide) ?_
  refine r_iadd (q0 (i := 269) rfl) ?_
  rw [show ((nI i) + 3 : Int32) = nI (i + 3) from nI_add i 3]
  refine r_iaload7 (x := xs (i + 3)) (q0 (i := 270) rfl) X.1 (vp_in_nI (by omega) (by omega)) (by rw [X.2, nI_clamp (by omega)]) ?_
  refine r_cV (d := _) (q0 (i := 271) rfl) rfl rfl rfl (k_47 S1) (Nat.le_of_ble_eq_true rfl) (Nat.zero_le _) (Nat.zero_le _) R2 ?_
  show Wp _ _ _ 434 ls [.int v, .int v] h2 _ _
  refine r_icmp 705 (q0 (i := 272) rfl) (by decide) (fun _ => ?_) (fun zz => absurd (show v = v from rfl) zz)
  exact kk h2 _ _ I2 ls l3 l2 l1 l0
set_option maxHeartbeats 2000000 in
set_option maxRecDepth 10000 in
theorem lw_9 {L : Nat} {xs : Nat → Int32} (hL : L ≤ 3072) {h : hp} {bc bs i : Nat} (hi : i + 5 < L) (l : LI L xs h bc bs) {Q : resP} (kk : ∀ h' bc' bs', LI L xs h' bc' bs' → ∀ ls : List (Nat × Value), ls.lookup 3 = some (.int (nI i)) → ls.lookup 2 = some (.ref 47) → ls.lookup 1 = some (.ref 2) → ls.lookup 0 = some (.ref 0) → Wp (Ex 8) 0 Q 705 ls [] h' bc' bs') (ls : List (Nat × Value)) (l3 : ls.lookup 3 = some (.int (nI i))) (l2 : ls.lookup 2 = some (.ref 47)) (l1 : ls.lookup 1 = some (.ref 2)) (l0 : ls.lookup 0 = some (.ref 0)) : Wp (Ex 8) 0 Q 439 ls [] h bc bs := by
  obtain ⟨ρ, e, σ, C, M, Z, X, b1, b2⟩ := l
  have S := C.1.1
  obtain ⟨h1, h2, mc, ms, R1, R2, bb, I2, S1, X1⟩ := LI.step C M Z X b1 b2 (xs_vector C Z (xs (i + 1))) (fun h1 M1 => ms_vector M1 Z (xs (i + 1))) (vec_ok Z (xs (i + 1)))
  generalize ev : (aVec σ (xs (i + 1)) : Int32) = v at R1 R2
  refine r_aload_n (q0 (i := 275) rfl) l1 ?_
  refine r_aload_n (q0 (i := 276) rfl) l0 ?_
  refine r_iload_n (q0 (i := 277) rfl) l3 ?_
  refine r_iconst (v := 1) (q0 (i := 278) rfl) (by decide) ?_
  refine r_iadd (q0 (i := 279) rfl) ?_
  rw [show ((nI i) + 1 : Int32) = nI (i + 1) from nI_add i 1]
  refine r_iaload7 (x := xs (i + 1)) (q0 (i := 280) rfl) X.1 (vp_in_nI (by omega) (by omega)) (by rw [X.2, nI_clamp (by omega)]) ?_
  refine r_cV (d := _) (q0 (i := 281) rfl) rfl rfl rfl (k_2 S) (Nat.le_of_ble_eq_true rfl) (bb.1) (bb.2) R1 ?_
  show Wp _ _ _ 448 ls [.int v] h1 _ _
  have X := X1
  refine r_aload_n (q0 (i := 282) rfl) l2 ?_
  refine r_aload_n (q0 (i := 283) rfl) l0 ?_
  refine r_iload_n (q0 (i := 284) rfl) l3 ?_
  refine r_iconst (v := 1) (q0 (i := 285) rfl) (by decide) ?_
  refine r_iadd (q0 (i := 286) rfl) ?_
  rw [show ((nI i) + 1 : Int32) = nI (i + 1) from nI_add i 1]
  refine r_iaload7 (x := xs (i + 1)) (q0 (i := 287) rfl) X.1 (vp_in_nI (by omega) (by omega)) (by rw [X.2, nI_clamp (by omega)]) ?_
  refine r_cV (d := _) (q0 (i := 288) rfl) rfl rfl rfl (k_47 S1) (Nat.le_of_ble_eq_true rfl) (Nat.zero_le _) (Nat.zero_le _) R2 ?_
  show Wp _ _ _ 457 ls [.int v, .int v] h2 _ _
  refine r_icmp 705 (q0 (i := 289) rfl) (by decide) (fun _ => ?_) (fun zz => absurd (show v = v from rfl) zz)
  exact kk h2 _ _ I2 ls l3 l2 l1 l0
set_option maxHeartbeats 2000000 in
set_option maxRecDepth 10000 in
theorem lw_10 {L : Nat} {xs : Nat → Int32} (hL : L ≤ 3072) {h : hp} {bc bs i : Nat} (hi : i + 5 < L) (l : LI L xs h bc bs) {Q : resP} (kk : ∀ h' bc' bs', LI L xs h' bc' bs' → ∀ ls : List (Nat × Value), ls.lookup 3 = some (.int (nI i)) → ls.lookup 2 = some (.ref 47) → ls.lookup 1 = some (.ref 2) → ls.lookup 0 = some (.ref 0) → Wp (Ex 8) 0 Q 705 ls [] h' bc' bs') (ls : List (Nat × Value)) (l3 : ls.lookup 3 = some (.int (nI i))) (l2 : ls.lookup 2 = some (.ref 47)) (l1 : ls.lookup 1 = some (.ref 2)) (l0 : ls.lookup 0 = some (.ref 0)) : Wp (Ex 8) 0 Q 462 ls [] h bc bs := by
  obtain ⟨ρ, e, σ, C, M, Z, X, b1, b2⟩ := l
  have S := C.1.1
  obtain ⟨h1, h2, mc, ms, R1, R2, bb, I2, S1, X1⟩ := LI.step C M Z X b1 b2 (xs_forget C) (fun h1 M1 => ms_forget M1 Z) (fgt_ok Z)
  generalize ev : (nI (zv σ).2.2 : Int32) = v at R1 R2
  refine r_aload_n (q0 (i := 292) rfl) l1 ?_
  refine r_cV (d := _) (q0 (i := 293) rfl) rfl rfl rfl (k_2 S) (Nat.le_of_ble_eq_true rfl) (bb.1) (bb.2) R1 ?_
  show Wp _ _ _ 466 ls [.int v] h1 _ _
  have X := X1
  refine r_aload_n (q0 (i := 294) rfl) l2 ?_
  refine r_cV (d := _) (q0 (i := 295) rfl) rfl rfl rfl (k_47 S1) (Nat.le_of_ble_eq_true rfl) (Nat.zero_le _) (Nat.zero_le _) R2 ?_
  show Wp _ _ _ 470 ls [.int v, .int v] h2 _ _
  refine r_icmp 705 (q0 (i := 296) rfl) (by decide) (fun _ => ?_) (fun zz => absurd (show v = v from rfl) zz)
  exact kk h2 _ _ I2 ls l3 l2 l1 l0
set_option maxHeartbeats 2000000 in
set_option maxRecDepth 10000 in
theorem lw_11 {L : Nat} {xs : Nat → Int32} (hL : L ≤ 3072) {h : hp} {bc bs i : Nat} (hi : i + 5 < L) (l : LI L xs h bc bs) {Q : resP} (kk : ∀ h' bc' bs', LI L xs h' bc' bs' → ∀ ls : List (Nat × Value), ls.lookup 3 = some (.int (nI i)) → ls.lookup 2 = some (.ref 47) → ls.lookup 1 = some (.ref 2) → ls.lookup 0 = some (.ref 0) → Wp (Ex 8) 0 Q 705 ls [] h' bc' bs') (ls : List (Nat × Value)) (l3 : ls.lookup 3 = some (.int (nI i))) (l2 : ls.lookup 2 = some (.ref 47)) (l1 : ls.lookup 1 = some (.ref 2)) (l0 : ls.lookup 0 = some (.ref 0)) : Wp (Ex 8) 0 Q 475 ls [] h bc bs := by
  obtain ⟨ρ, e, σ, C, M, Z, X, b1, b2⟩ := l
  have S := C.1.1
  obtain ⟨h1, h2, mc, ms, R1, R2, bb, I2, S1, X1⟩ := LI.step C M Z X b1 b2 (xs_given C Z (xs (i + 1))) (fun h1 M1 => ms_given M1 Z (xs (i + 1))) (Z)
  generalize ev : (aGvn σ (xs (i + 1)) : Int32) = v at R1 R2
  refine r_aload_n (q0 (i := 299) rfl) l1 ?_
  refine r_aload_n (q0 (i := 300) rfl) l0 ?_
  refine r_iload_n (q0 (i := 301) rfl) l3 ?_
  refine r_iconst (v := 1) (q0 (i := 302) rfl) (by decide) ?_
  refine r_iadd (q0 (i := 303) rfl) ?_
  rw [show ((nI i) + 1 : Int32) = nI (i + 1) from nI_add i 1]
  refine r_iaload7 (x := xs (i + 1)) (q0 (i := 304) rfl) X.1 (vp_in_nI (by omega) (by omega)) (by rw [X.2, nI_clamp (by omega)]) ?_
  refine r_cV (d := _) (q0 (i := 305) rfl) rfl rfl rfl (k_2 S) (Nat.le_of_ble_eq_true rfl) (bb.1) (bb.2) R1 ?_
  show Wp _ _ _ 484 ls [.int v] h1 _ _
  have X := X1
  refine r_aload_n (q0 (i := 306) rfl) l2 ?_
  refine r_aload_n (q0 (i := 307) rfl) l0 ?_
  refine r_iload_n (q0 (i := 308) rfl) l3 ?_
  refine r_iconst (v := 1) (q0 (i := 309) rfl) (by decide) ?_
  refine r_iadd (q0 (i := 310) rfl) ?_
  rw [show ((nI i) + 1 : Int32) = nI (i + 1) from nI_add i 1]
  refine r_iaload7 (x := xs (i + 1)) (q0 (i := 311) rfl) X.1 (vp_in_nI (by omega) (by omega)) (by rw [X.2, nI_clamp (by omega)]) ?_
  refine r_cV (d := _) (q0 (i := 312) rfl) rfl rfl rfl (k_47 S1) (Nat.le_of_ble_eq_true rfl) (Nat.zero_le _) (Nat.zero_le _) R2 ?_
  show Wp _ _ _ 493 ls [.int v, .int v] h2 _ _
  refine r_icmp 705 (q0 (i := 313) rfl) (by decide) (fun _ => ?_) (fun zz => absurd (show v = v from rfl) zz)
  exact kk h2 _ _ I2 ls l3 l2 l1 l0
set_option maxHeartbeats 2000000 in
set_option maxRecDepth 10000 in
theorem lw_12 {L : Nat} {xs : Nat → Int32} (hL : L ≤ 3072) {h : hp} {bc bs i : Nat} (hi : i + 5 < L) (l : LI L xs h bc bs) {Q : resP} (kk : ∀ h' bc' bs', LI L xs h' bc' bs' → ∀ ls : List (Nat × Value), ls.lookup 3 = some (.int (nI i)) → ls.lookup 2 = some (.ref 47) → ls.lookup 1 = some (.ref 2) → ls.lookup 0 = some (.ref 0) → Wp (Ex 8) 0 Q 705 ls [] h' bc' bs') (ls : List (Nat × Value)) (l3 : ls.lookup 3 = some (.int (nI i))) (l2 : ls.lookup 2 = some (.ref 47)) (l1 : ls.lookup 1 = some (.ref 2)) (l0 : ls.lookup 0 = some (.ref 0)) : Wp (Ex 8) 0 Q 498 ls [] h bc bs := by
  obtain ⟨ρ, e, σ, C, M, Z, X, b1, b2⟩ := l
  have S := C.1.1
  obtain ⟨h1, h2, mc, ms, R1, R2, bb, I2, S1, X1⟩ := LI.step C M Z X b1 b2 (xs_count C Z (xs (i + 1))) (fun h1 M1 => ms_count M1 Z (xs (i + 1))) (Z)
  generalize ev : (aCnt σ (xs (i + 1)) : Int32) = v at R1 R2
  refine r_aload_n (q0 (i := 316) rfl) l1 ?_
  refine r_aload_n (q0 (i := 317) rfl) l0 ?_
  refine r_iload_n (q0 (i := 318) rfl) l3 ?_
  refine r_iconst (v := 1) (q0 (i := 319) rfl) (by decide) ?_
  refine r_iadd (q0 (i := 320) rfl) ?_
  rw [show ((nI i) + 1 : Int32) = nI (i + 1) from nI_add i 1]
  refine r_iaload7 (x := xs (i + 1)) (q0 (i := 321) rfl) X.1 (vp_in_nI (by omega) (by omega)) (by rw [X.2, nI_clamp (by omega)]) ?_
  refine r_cV (d := _) (q0 (i := 322) rfl) rfl rfl rfl (k_2 S) (Nat.le_of_ble_eq_true rfl) (bb.1) (bb.2) R1 ?_
  show Wp _ _ _ 507 ls [.int v] h1 _ _
  have X := X1
  refine r_aload_n (q0 (i := 323) rfl) l2 ?_
  refine r_aload_n (q0 (i := 324) rfl) l0 ?_
  refine r_iload_n (q0 (i := 325) rfl) l3 ?_
  refine r_iconst (v := 1) (q0 (i := 326) rfl) (by decide) ?_
  refine r_iadd (q0 (i := 327) rfl) ?_
  rw [show ((nI i) + 1 : Int32) = nI (i + 1) from nI_add i 1]
  refine r_iaload7 (x := xs (i + 1)) (q0 (i := 328) rfl) X.1 (vp_in_nI (by omega) (by omega)) (by rw [X.2, nI_clamp (by omega)]) ?_
  refine r_cV (d := _) (q0 (i := 329) rfl) rfl rfl rfl (k_47 S1) (Nat.le_of_ble_eq_true rfl) (Nat.zero_le _) (Nat.zero_le _) R2 ?_
  show Wp _ _ _ 516 ls [.int v, .int v] h2 _ _
  refine r_icmp 705 (q0 (i := 330) rfl) (by decide) (fun _ => ?_) (fun zz => absurd (show v = v from rfl) zz)
  exact kk h2 _ _ I2 ls l3 l2 l1 l0
set_option maxHeartbeats 2000000 in
set_option maxRecDepth 10000 in
theorem lw_13 {L : Nat} {xs : Nat → Int32} (hL : L ≤ 3072) {h : hp} {bc bs i : Nat} (hi : i + 5 < L) (l : LI L xs h bc bs) {Q : resP} (kk : ∀ h' bc' bs', LI L xs h' bc' bs' → ∀ ls : List (Nat × Value), ls.lookup 3 = some (.int (nI i)) → ls.lookup 2 = some (.ref 47) → ls.lookup 1 = some (.ref 2) → ls.lookup 0 = some (.ref 0) → Wp (Ex 8) 0 Q 705 ls [] h' bc' bs') (ls : List (Nat × Value)) (l3 : ls.lookup 3 = some (.int (nI i))) (l2 : ls.lookup 2 = some (.ref 47)) (l1 : ls.lookup 1 = some (.ref 2)) (l0 : ls.lookup 0 = some (.ref 0)) : Wp (Ex 8) 0 Q 521 ls [] h bc bs := by
  obtain ⟨ρ, e, σ, C, M, Z, X, b1, b2⟩ := l
  have S := C.1.1
  obtain ⟨h1, h2, mc, ms, R1, R2, bb, I2, S1, X1⟩ := LI.step C M Z X b1 b2 (xs_node C Z (xs (i + 1)) (xs (i + 2))) (fun h1 M1 => ms_node M1 Z (xs (i + 1)) (xs (i + 2))) (Z)
  generalize ev : (aNod σ (xs (i + 1)) (xs (i + 2)) : Int32) = v at R1 R2
  refine r_aload_n (q0 (i := 333) rfl) l1 ?_
  refine r_aload_n (q0 (i := 334) rfl) l0 ?_
  refine r_iload_n (q0 (i := 335) rfl) l3 ?_
  refine r_iconst (v := 1) (q0 (i := 336) rfl) (by decide) ?_
  refine r_iadd (q0 (i := 337) rfl) ?_
  rw [show ((nI i) + 1 : Int32) = nI (i + 1) from nI_add i 1]
  refine r_iaload7 (x := xs (i + 1)) (q0 (i := 338) rfl) X.1 (vp_in_nI (by omega) (by omega)) (by rw [X.2, nI_clamp (by omega)]) ?_
  refine r_aload_n (q0 (i := 339) rfl) l0 ?_
  refine r_iload_n (q0 (i := 340) rfl) l3 ?_
  refine r_iconst (v := 2) (q0 (i := 341) rfl) (by decide) ?_
  refine r_iadd (q0 (i := 342) rfl) ?_
  rw [show ((nI i) + 2 : Int32) = nI (i + 2) from nI_add i 2]
  refine r_iaload7 (x := xs (i + 2)) (q0 (i := 343) rfl) X.1 (vp_in_nI (by omega) (by omega)) (by rw [X.2, nI_clamp (by omega)]) ?_
  refine r_cV (d := _) (q0 (i := 344) rfl) rfl rfl rfl (k_2 S) (Nat.le_of_ble_eq_true rfl) (bb.1) (bb.2) R1 ?_
  show Wp _ _ _ 535 ls [.int v] h1 _ _
  have X := X1
  refine r_aload_n (q0 (i := 345) rfl) l2 ?_
  refine r_aload_n (q0 (i := 346) rfl) l0 ?_
  refine r_iload_n (q0 (i := 347) rfl) l3 ?_
  refine r_iconst (v := 1) (q0 (i := 348) rfl) (by decide) ?_
  refine r_iadd (q0 (i := 349) rfl) ?_
  rw [show ((nI i) + 1 : Int32) = nI (i + 1) from nI_add i 1]
  refine r_iaload7 (x := xs (i + 1)) (q0 (i := 350) rfl) X.1 (vp_in_nI (by omega) (by omega)) (by rw [X.2, nI_clamp (by omega)]) ?_
  refine r_aload_n (q0 (i := 351) rfl) l0 ?_
  refine r_iload_n (q0 (i := 352) rfl) l3 ?_
  refine r_iconst (v := 2) (q0 (i := 353) rfl) (by decide) ?_
  refine r_iadd (q0 (i := 354) rfl) ?_
  rw [show ((nI i) + 2 : Int32) = nI (i + 2) from nI_add i 2]
  refine r_iaload7 (x := xs (i + 2)) (q0 (i := 355) rfl) X.1 (vp_in_nI (by omega) (by omega)) (by rw [X.2, nI_clamp (by omega)]) ?_
  refine r_cV (d := _) (q0 (i := 356) rfl) rfl rfl rfl (k_47 S1) (Nat.le_of_ble_eq_true rfl) (Nat.zero_le _) (Nat.zero_le _) R2 ?_
  show Wp _ _ _ 549 ls [.int v, .int v] h2 _ _
  refine r_icmp 705 (q0 (i := 357) rfl) (by decide) (fun _ => ?_) (fun zz => absurd (show v = v from rfl) zz)
  exact kk h2 _ _ I2 ls l3 l2 l1 l0
set_option maxHeartbeats 2000000 in
set_option maxRecDepth 10000 in
theorem lw_14 {L : Nat} {xs : Nat → Int32} (hL : L ≤ 3072) {h : hp} {bc bs i : Nat} (hi : i + 5 < L) (l : LI L xs h bc bs) {Q : resP} (kk : ∀ h' bc' bs', LI L xs h' bc' bs' → ∀ ls : List (Nat × Value), ls.lookup 3 = some (.int (nI i)) → ls.lookup 2 = some (.ref 47) → ls.lookup 1 = some (.ref 2) → ls.lookup 0 = some (.ref 0) → Wp (Ex 8) 0 Q 705 ls [] h' bc' bs') (ls : List (Nat × Value)) (l3 : ls.lookup 3 = some (.int (nI i))) (l2 : ls.lookup 2 = some (.ref 47)) (l1 : ls.lookup 1 = some (.ref 2)) (l0 : ls.lookup 0 = some (.ref 0)) : Wp (Ex 8) 0 Q 554 ls [] h bc bs := by
  obtain ⟨ρ, e, σ, C, M, Z, X, b1, b2⟩ := l
  have S := C.1.1
  obtain ⟨h1, h2, mc, ms, R1, R2, bb, I2, S1, X1⟩ := LI.step C M Z X b1 b2 (xs_literal C Z (xs (i + 1)) (xs (i + 2))) (fun h1 M1 => ms_literal M1 Z (xs (i + 1)) (xs (i + 2))) (Z)
  generalize ev : (aLit σ (xs (i + 1)) (xs (i + 2)) : Int32) = v at R1 R2
  refine r_aload_n (q0 (i := 360) rfl) l1 ?_
  refine r_aload_n (q0 (i := 361) rfl) l0 ?_
  refine r_iload_n (q0 (i := 362) rfl) l3 ?_
  refine r_iconst (v := 1) (q0 (i := 363) rfl) (by decide) ?_
  refine r_iadd (q0 (i := 364) rfl) ?_
  rw [show ((nI i) + 1 : Int32) = nI (i + 1) from nI_add i 1]
  refine r_iaload7 (x := xs (i + 1)) (q0 (i := 365) rfl) X.1 (vp_in_nI (by omega) (by omega)) (by rw [X.2, nI_clamp (by omega)]) ?_
  refine r_aload_n (q0 (i := 366) rfl) l0 ?_
  refine r_iload_n (q0 (i := 367) rfl) l3 ?_
  refine r_iconst (v := 2) (q0 (i := 368) rfl) (by decide) ?_
  refine r_iadd (q0 (i := 369) rfl) ?_
  rw [show ((nI i) + 2 : Int32) = nI (i + 2) from nI_add i 2]
  refine r_iaload7 (x := xs (i + 2)) (q0 (i := 370) rfl) X.1 (vp_in_nI (by omega) (by omega)) (by rw [X.2, nI_clamp (by omega)]) ?_
  refine r_cV (d := _) (q0 (i := 371) rfl) rfl rfl rfl (k_2 S) (Nat.le_of_ble_eq_true rfl) (bb.1) (bb.2) R1 ?_
  show Wp _ _ _ 568 ls [.int v] h1 _ _
  have X := X1
  refine r_aload_n (q0 (i := 372) rfl) l2 ?_
  refine r_aload_n (q0 (i := 373) rfl) l0 ?_
  refine r_iload_n (q0 (i := 374) rfl) l3 ?_
  refine r_iconst (v := 1) (q0 (i := 375) rfl) (by decide) ?_
  refine r_iadd (q0 (i := 376) rfl) ?_
  rw [show ((nI i) + 1 : Int32) = nI (i + 1) from nI_add i 1]
  refine r_iaload7 (x := xs (i + 1)) (q0 (i := 377) rfl) X.1 (vp_in_nI (by omega) (by omega)) (by rw [X.2, nI_clamp (by omega)]) ?_
  refine r_aload_n (q0 (i := 378) rfl) l0 ?_
  refine r_iload_n (q0 (i := 379) rfl) l3 ?_
  refine r_iconst (v := 2) (q0 (i := 380) rfl) (by decide) ?_
  refine r_iadd (q0 (i := 381) rfl) ?_
  rw [show ((nI i) + 2 : Int32) = nI (i + 2) from nI_add i 2]
  refine r_iaload7 (x := xs (i + 2)) (q0 (i := 382) rfl) X.1 (vp_in_nI (by omega) (by omega)) (by rw [X.2, nI_clamp (by omega)]) ?_
  refine r_cV (d := _) (q0 (i := 383) rfl) rfl rfl rfl (k_47 S1) (Nat.le_of_ble_eq_true rfl) (Nat.zero_le _) (Nat.zero_le _) R2 ?_
  show Wp _ _ _ 582 ls [.int v, .int v] h2 _ _
  refine r_icmp 705 (q0 (i := 384) rfl) (by decide) (fun _ => ?_) (fun zz => absurd (show v = v from rfl) zz)
  exact kk h2 _ _ I2 ls l3 l2 l1 l0
set_option maxHeartbeats 2000000 in
set_option maxRecDepth 10000 in
theorem lw_15 {L : Nat} {xs : Nat → Int32} (hL : L ≤ 3072) {h : hp} {bc bs i : Nat} (hi : i + 5 < L) (l : LI L xs h bc bs) {Q : resP} (kk : ∀ h' bc' bs', LI L xs h' bc' bs' → ∀ ls : List (Nat × Value), ls.lookup 3 = some (.int (nI i)) → ls.lookup 2 = some (.ref 47) → ls.lookup 1 = some (.ref 2) → ls.lookup 0 = some (.ref 0) → Wp (Ex 8) 0 Q 705 ls [] h' bc' bs') (ls : List (Nat × Value)) (l3 : ls.lookup 3 = some (.int (nI i))) (l2 : ls.lookup 2 = some (.ref 47)) (l1 : ls.lookup 1 = some (.ref 2)) (l0 : ls.lookup 0 = some (.ref 0)) : Wp (Ex 8) 0 Q 587 ls [] h bc bs := by
  obtain ⟨ρ, e, σ, C, M, Z, X, b1, b2⟩ := l
  have S := C.1.1
  obtain ⟨h1, h2, mc, ms, R1, R2, bb, I2, S1, X1⟩ := LI.step C M Z X b1 b2 ((xs_sweep C Z).1) (fun h1 M1 => ms_sweep M1 Z) ((xs_sweep C Z).2)
  generalize ev : (nI (swR σ).2.2 : Int32) = v at R1 R2
  refine r_aload_n (q0 (i := 387) rfl) l1 ?_
  refine r_cV (d := _) (q0 (i := 388) rfl) rfl rfl rfl (k_2 S) (Nat.le_of_ble_eq_true rfl) (bb.1) (bb.2) R1 ?_
  show Wp _ _ _ 591 ls [.int v] h1 _ _
  have X := X1
  refine r_aload_n (q0 (i := 389) rfl) l2 ?_
  refine r_cV (d := _) (q0 (i := 390) rfl) rfl rfl rfl (k_47 S1) (Nat.le_of_ble_eq_true rfl) (Nat.zero_le _) (Nat.zero_le _) R2 ?_
  show Wp _ _ _ 595 ls [.int v, .int v] h2 _ _
  refine r_icmp 705 (q0 (i := 391) rfl) (by decide) (fun _ => ?_) (fun zz => absurd (show v = v from rfl) zz)
  exact kk h2 _ _ I2 ls l3 l2 l1 l0
set_option maxHeartbeats 2000000 in
set_option maxRecDepth 10000 in
theorem lw_16 {L : Nat} {xs : Nat → Int32} (hL : L ≤ 3072) {h : hp} {bc bs i : Nat} (hi : i + 5 < L) (l : LI L xs h bc bs) {Q : resP} (kk : ∀ h' bc' bs', LI L xs h' bc' bs' → ∀ ls : List (Nat × Value), ls.lookup 3 = some (.int (nI i)) → ls.lookup 2 = some (.ref 47) → ls.lookup 1 = some (.ref 2) → ls.lookup 0 = some (.ref 0) → Wp (Ex 8) 0 Q 705 ls [] h' bc' bs') (ls : List (Nat × Value)) (l3 : ls.lookup 3 = some (.int (nI i))) (l2 : ls.lookup 2 = some (.ref 47)) (l1 : ls.lookup 1 = some (.ref 2)) (l0 : ls.lookup 0 = some (.ref 0)) : Wp (Ex 8) 0 Q 600 ls [] h bc bs := by
  obtain ⟨ρ, e, σ, C, M, Z, X, b1, b2⟩ := l
  have S := C.1.1
  obtain ⟨h1, h2, mc, ms, R1, R2, bb, I2, S1, X1⟩ := LI.step C M Z X b1 b2 (xs_swept C Z (xs (i + 1))) (fun h1 M1 => ms_swept M1 Z (xs (i + 1))) (Z)
  generalize ev : (aSwt σ (xs (i + 1)) : Int32) = v at R1 R2
  refine r_aload_n (q0 (i := 394) rfl) l1 ?_
  refine r_aload_n (q0 (i := 395) rfl) l0 ?_
  refine r_iload_n (q0 (i := 396) rfl) l3 ?_
  refine r_iconst (v := 1) (q0 (i := 397) rfl) (by decide) ?_
  refine r_iadd (q0 (i := 398) rfl) ?_
  rw [show ((nI i) + 1 : Int32) = nI (i + 1) from nI_add i 1]
  refine r_iaload7 (x := xs (i + 1)) (q0 (i := 399) rfl) X.1 (vp_in_nI (by omega) (by omega)) (by rw [X.2, nI_clamp (by omega)]) ?_
  refine r_cV (d := _) (q0 (i := 400) rfl) rfl rfl rfl (k_2 S) (Nat.le_of_ble_eq_true rfl) (bb.1) (bb.2) R1 ?_
  show Wp _ _ _ 609 ls [.int v] h1 _ _
  have X := X1
  refine r_aload_n (q0 (i := 401) rfl) l2 ?_
  refine r_aload_n (q0 (i := 402) rfl) l0 ?_
  refine r_iload_n (q0 (i := 403) rfl) l3 ?_
  refine r_iconst (v := 1) (q0 (i := 404) rfl) (by decide) ?_
  refine r_iadd (q0 (i := 405) rfl) ?_
  rw [show ((nI i) + 1 : Int32) = nI (i + 1) from nI_add i 1]
  refine r_iaload7 (x := xs (i + 1)) (q0 (i := 406) rfl) X.1 (vp_in_nI (by omega) (by omega)) (by rw [X.2, nI_clamp (by omega)]) ?_
  refine r_cV (d := _) (q0 (i := 407) rfl) rfl rfl rfl (k_47 S1) (Nat.le_of_ble_eq_true rfl) (Nat.zero_le _) (Nat.zero_le _) R2 ?_
  show Wp _ _ _ 618 ls [.int v, .int v] h2 _ _
  refine r_icmp 705 (q0 (i := 408) rfl) (by decide) (fun _ => ?_) (fun zz => absurd (show v = v from rfl) zz)
  exact kk h2 _ _ I2 ls l3 l2 l1 l0
set_option maxHeartbeats 2000000 in
set_option maxRecDepth 10000 in
theorem lw_17 {L : Nat} {xs : Nat → Int32} (hL : L ≤ 3072) {h : hp} {bc bs i : Nat} (hi : i + 5 < L) (l : LI L xs h bc bs) {Q : resP} (kk : ∀ h' bc' bs', LI L xs h' bc' bs' → ∀ ls : List (Nat × Value), ls.lookup 3 = some (.int (nI i)) → ls.lookup 2 = some (.ref 47) → ls.lookup 1 = some (.ref 2) → ls.lookup 0 = some (.ref 0) → Wp (Ex 8) 0 Q 705 ls [] h' bc' bs') (ls : List (Nat × Value)) (l3 : ls.lookup 3 = some (.int (nI i))) (l2 : ls.lookup 2 = some (.ref 47)) (l1 : ls.lookup 1 = some (.ref 2)) (l0 : ls.lookup 0 = some (.ref 0)) : Wp (Ex 8) 0 Q 623 ls [] h bc bs := by
  obtain ⟨ρ, e, σ, C, M, Z, X, b1, b2⟩ := l
  have S := C.1.1
  obtain ⟨h1, h2, mc, ms, R1, R2, bb, I2, S1, X1⟩ := LI.step C M Z X b1 b2 (xs_told C (xs (i + 1))) (fun h1 M1 => ms_told M1 (xs (i + 1))) (Z)
  generalize ev : (aTld σ (xs (i + 1)) : Int32) = v at R1 R2
  refine r_aload_n (q0 (i := 411) rfl) l1 ?_
  refine r_aload_n (q0 (i := 412) rfl) l0 ?_
  refine r_iload_n (q0 (i := 413) rfl) l3 ?_
  refine r_iconst (v := 1) (q0 (i := 414) rfl) (by decide) ?_
  refine r_iadd (q0 (i := 415) rfl) ?_
  rw [show ((nI i) + 1 : Int32) = nI (i + 1) from nI_add i 1]
  refine r_iaload7 (x := xs (i + 1)) (q0 (i := 416) rfl) X.1 (vp_in_nI (by omega) (by omega)) (by rw [X.2, nI_clamp (by omega)]) ?_
  refine r_cV (d := _) (q0 (i := 417) rfl) rfl rfl rfl (k_2 S) (Nat.le_of_ble_eq_true rfl) (bb.1) (bb.2) R1 ?_
  show Wp _ _ _ 632 ls [.int v] h1 _ _
  have X := X1
  refine r_aload_n (q0 (i := 418) rfl) l2 ?_
  refine r_aload_n (q0 (i := 419) rfl) l0 ?_
  refine r_iload_n (q0 (i := 420) rfl) l3 ?_
  refine r_iconst (v := 1) (q0 (i := 421) rfl) (by decide) ?_
  refine r_iadd (q0 (i := 422) rfl) ?_
  rw [show ((nI i) + 1 : Int32) = nI (i + 1) from nI_add i 1]
  refine r_iaload7 (x := xs (i + 1)) (q0 (i := 423) rfl) X.1 (vp_in_nI (by omega) (by omega)) (by rw [X.2, nI_clamp (by omega)]) ?_
  refine r_cV (d := _) (q0 (i := 424) rfl) rfl rfl rfl (k_47 S1) (Nat.le_of_ble_eq_true rfl) (Nat.zero_le _) (Nat.zero_le _) R2 ?_
  show Wp _ _ _ 641 ls [.int v, .int v] h2 _ _
  refine r_icmp 705 (q0 (i := 425) rfl) (by decide) (fun _ => ?_) (fun zz => absurd (show v = v from rfl) zz)
  exact kk h2 _ _ I2 ls l3 l2 l1 l0
set_option maxHeartbeats 2000000 in
set_option maxRecDepth 10000 in
theorem lw_18 {L : Nat} {xs : Nat → Int32} (hL : L ≤ 3072) {h : hp} {bc bs i : Nat} (hi : i + 5 < L) (l : LI L xs h bc bs) {Q : resP} (kk : ∀ h' bc' bs', LI L xs h' bc' bs' → ∀ ls : List (Nat × Value), ls.lookup 3 = some (.int (nI i)) → ls.lookup 2 = some (.ref 47) → ls.lookup 1 = some (.ref 2) → ls.lookup 0 = some (.ref 0) → Wp (Ex 8) 0 Q 705 ls [] h' bc' bs') (ls : List (Nat × Value)) (l3 : ls.lookup 3 = some (.int (nI i))) (l2 : ls.lookup 2 = some (.ref 47)) (l1 : ls.lookup 1 = some (.ref 2)) (l0 : ls.lookup 0 = some (.ref 0)) : Wp (Ex 8) 0 Q 646 ls [] h bc bs := by
  obtain ⟨ρ, e, σ, C, M, Z, X, b1, b2⟩ := l
  have S := C.1.1
  obtain ⟨h1, h2, mc, ms, R1, R2, bb, I2, S1, X1⟩ := LI.step C M Z X b1 b2 (xs_same C Z (xs (i + 1))) (fun h1 M1 => ms_same M1 Z (xs (i + 1))) (Z)
  generalize ev : (aSam σ (xs (i + 1)) : Int32) = v at R1 R2
  refine r_aload_n (q0 (i := 428) rfl) l1 ?_
  refine r_aload_n (q0 (i := 429) rfl) l0 ?_
  refine r_iload_n (q0 (i := 430) rfl) l3 ?_
  refine r_iconst (v := 1) (q0 (i := 431) rfl) (by decide) ?_
  refine r_iadd (q0 (i := 432) rfl) ?_
  rw [show ((nI i) + 1 : Int32) = nI (i + 1) from nI_add i 1]
  refine r_iaload7 (x := xs (i + 1)) (q0 (i := 433) rfl) X.1 (vp_in_nI (by omega) (by omega)) (by rw [X.2, nI_clamp (by omega)]) ?_
  refine r_cV (d := _) (q0 (i := 434) rfl) rfl rfl rfl (k_2 S) (Nat.le_of_ble_eq_true rfl) (bb.1) (bb.2) R1 ?_
  show Wp _ _ _ 655 ls [.int v] h1 _ _
  have X := X1
  refine r_aload_n (q0 (i := 435) rfl) l2 ?_
  refine r_aload_n (q0 (i := 436) rfl) l0 ?_
  refine r_iload_n (q0 (i := 437) rfl) l3 ?_
  refine r_iconst (v := 1) (q0 (i := 438) rfl) (by decide) ?_
  refine r_iadd (q0 (i := 439) rfl) ?_
  rw [show ((nI i) + 1 : Int32) = nI (i + 1) from nI_add i 1]
  refine r_iaload7 (x := xs (i + 1)) (q0 (i := 440) rfl) X.1 (vp_in_nI (by omega) (by omega)) (by rw [X.2, nI_clamp (by omega)]) ?_
  refine r_cV (d := _) (q0 (i := 441) rfl) rfl rfl rfl (k_47 S1) (Nat.le_of_ble_eq_true rfl) (Nat.zero_le _) (Nat.zero_le _) R2 ?_
  show Wp _ _ _ 664 ls [.int v, .int v] h2 _ _
  refine r_icmp 705 (q0 (i := 442) rfl) (by decide) (fun _ => ?_) (fun zz => absurd (show v = v from rfl) zz)
  exact kk h2 _ _ I2 ls l3 l2 l1 l0
set_option maxHeartbeats 2000000 in
set_option maxRecDepth 10000 in
theorem lw_19 {L : Nat} {xs : Nat → Int32} (hL : L ≤ 3072) {h : hp} {bc bs i : Nat} (hi : i + 5 < L) (l : LI L xs h bc bs) {Q : resP} (kk : ∀ h' bc' bs', LI L xs h' bc' bs' → ∀ ls : List (Nat × Value), ls.lookup 3 = some (.int (nI i)) → ls.lookup 2 = some (.ref 47) → ls.lookup 1 = some (.ref 2) → ls.lookup 0 = some (.ref 0) → Wp (Ex 8) 0 Q 705 ls [] h' bc' bs') (ls : List (Nat × Value)) (l3 : ls.lookup 3 = some (.int (nI i))) (l2 : ls.lookup 2 = some (.ref 47)) (l1 : ls.lookup 1 = some (.ref 2)) (l0 : ls.lookup 0 = some (.ref 0)) : Wp (Ex 8) 0 Q 669 ls [] h bc bs := by
  obtain ⟨ρ, e, σ, C, M, Z, X, b1, b2⟩ := l
  have S := C.1.1
  obtain ⟨h1, h2, mc, ms, R1, R2, bb, I2, S1, X1⟩ := LI.step C M Z X b1 b2 (xs_differs C Z (xs (i + 1))) (fun h1 M1 => ms_differs M1 Z (xs (i + 1))) (Z)
  generalize ev : (aDif σ (xs (i + 1)) : Int32) = v at R1 R2
  refine r_aload_n (q0 (i := 445) rfl) l1 ?_
  refine r_aload_n (q0 (i := 446) rfl) l0 ?_
  refine r_iload_n (q0 (i := 447) rfl) l3 ?_
  refine r_iconst (v := 1) (q0 (i := 448) rfl) (by decide) ?_
  refine r_iadd (q0 (i := 449) rfl) ?_
  rw [show ((nI i) + 1 : Int32) = nI (i + 1) from nI_add i 1]
  refine r_iaload7 (x := xs (i + 1)) (q0 (i := 450) rfl) X.1 (vp_in_nI (by omega) (by omega)) (by rw [X.2, nI_clamp (by omega)]) ?_
  refine r_cV (d := _) (q0 (i := 451) rfl) rfl rfl rfl (k_2 S) (Nat.le_of_ble_eq_true rfl) (bb.1) (bb.2) R1 ?_
  show Wp _ _ _ 678 ls [.int v] h1 _ _
  have X := X1
  refine r_aload_n (q0 (i := 452) rfl) l2 ?_
  refine r_aload_n (q0 (i := 453) rfl) l0 ?_
  refine r_iload_n (q0 (i := 454) rfl) l3 ?_
  refine r_iconst (v := 1) (q0 (i := 455) rfl) (by decide) ?_
  refine r_iadd (q0 (i := 456) rfl) ?_
  rw [show ((nI i) + 1 : Int32) = nI (i + 1) from nI_add i 1]
  refine r_iaload7 (x := xs (i + 1)) (q0 (i := 457) rfl) X.1 (vp_in_nI (by omega) (by omega)) (by rw [X.2, nI_clamp (by omega)]) ?_
  refine r_cV (d := _) (q0 (i := 458) rfl) rfl rfl rfl (k_47 S1) (Nat.le_of_ble_eq_true rfl) (Nat.zero_le _) (Nat.zero_le _) R2 ?_
  show Wp _ _ _ 687 ls [.int v, .int v] h2 _ _
  refine r_icmp 705 (q0 (i := 459) rfl) (by decide) (fun _ => ?_) (fun zz => absurd (show v = v from rfl) zz)
  exact kk h2 _ _ I2 ls l3 l2 l1 l0
set_option maxHeartbeats 2000000 in
set_option maxRecDepth 10000 in
theorem lw_20 {L : Nat} {xs : Nat → Int32} (hL : L ≤ 3072) {h : hp} {bc bs i : Nat} (hi : i + 5 < L) (l : LI L xs h bc bs) {Q : resP} (kk : ∀ h' bc' bs', LI L xs h' bc' bs' → ∀ ls : List (Nat × Value), ls.lookup 3 = some (.int (nI i)) → ls.lookup 2 = some (.ref 47) → ls.lookup 1 = some (.ref 2) → ls.lookup 0 = some (.ref 0) → Wp (Ex 8) 0 Q 705 ls [] h' bc' bs') (ls : List (Nat × Value)) (l3 : ls.lookup 3 = some (.int (nI i))) (l2 : ls.lookup 2 = some (.ref 47)) (l1 : ls.lookup 1 = some (.ref 2)) (l0 : ls.lookup 0 = some (.ref 0)) : Wp (Ex 8) 0 Q 692 ls [] h bc bs := by
  obtain ⟨ρ, e, σ, C, M, Z, X, b1, b2⟩ := l
  have S := C.1.1
  obtain ⟨h1, h2, mc, ms, R1, R2, bb, I2, S1, X1⟩ := LI.step C M Z X b1 b2 (xs_verdict C Z) (fun h1 M1 => ms_verdict M1 Z) (Z)
  generalize ev : (aVrd σ : Int32) = v at R1 R2
  refine r_aload_n (q0 (i := 462) rfl) l1 ?_
  refine r_cV (d := _) (q0 (i := 463) rfl) rfl rfl rfl (k_2 S) (Nat.le_of_ble_eq_true rfl) (bb.1) (bb.2) R1 ?_
  show Wp _ _ _ 696 ls [.int v] h1 _ _
  have X := X1
  refine r_aload_n (q0 (i := 464) rfl) l2 ?_
  refine r_cV (d := _) (q0 (i := 465) rfl) rfl rfl rfl (k_47 S1) (Nat.le_of_ble_eq_true rfl) (Nat.zero_le _) (Nat.zero_le _) R2 ?_
  show Wp _ _ _ 700 ls [.int v, .int v] h2 _ _
  refine r_icmp 705 (q0 (i := 466) rfl) (by decide) (fun _ => ?_) (fun zz => absurd (show v = v from rfl) zz)
  exact kk h2 _ _ I2 ls l3 l2 l1 l0
