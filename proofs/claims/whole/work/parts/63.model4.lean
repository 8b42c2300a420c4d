theorem gop_is {n g k : Nat} {c : cir} {st : gs × (Nat → Nat)} (ek : c.1 g = nI k) (hk : k ≤ 8) : gop n c st g = gkind n st.1 k (if k = 8 then 0 else sd n st.2 (c.2.1 g)) (if k = 8 then 0 else sd n st.2 (c.2.2.1 g)) (if k = 6 ∨ k = 7 then sd n st.2 (c.2.2.2 g) else 0) := by
  have hz : ∀ z : Nat, z < 100 → (nI k = nI z ↔ k = z) := fun z hz => nI_eq (by omega) (by omega)
  have h8 : (nI k = 8) = (k = 8) := propext (hz 8 (by decide))
  have h6 : (nI k = 6) = (k = 6) := propext (hz 6 (by decide))
  have h7 : (nI k = 7) = (k = 7) := propext (hz 7 (by decide))
  unfold gop
  rw [ek, nI_clamp (by omega)]
  simp only [h8, h6, h7]
theorem xor11 (a : Nat) : nI (a ^^^ 1) ^^^ 1 = nI a := by rw [xor1, xx1]
theorem gkind_4 (n : Nat) (γ : gs) (a b c : Nat) : gkind n γ 4 a b c = gand n γ (a ^^^ 1) (b ^^^ 1) := by
  unfold gkind
  rw [if_neg (by decide), if_neg (by decide), if_neg (by decide), if_neg (by decide), if_pos rfl]
set_option maxHeartbeats 2000000 in
set_option maxRecDepth 10000 in
theorem gof0_0 {d : Nat} {h : hp} (S : Sh h) {n g : Nat} {st : gs × (Nat → Nat)} (e1 : hI h 47 1 = nI n) (G : MG h n st.1) (Mk : gmade n g st) (K : cok n (cirA h) g) (hl : ∀ i, i < g → hI h 66 i = nI (st.2 i)) (hn : n ≤ 12) (hg : g < 120) (hC : gC st.1 + 4 < 1000) (hk : (cirA h).1 g = nI 0) : ∃ h', Run (d + 2 + 1) 136 [.ref 47, .int 0, .int (nI g)] h 0 0 (some (.int (nI (gop n (cirA h) st g).1))) h' ∧ MG h' n (gop n (cirA h) st g).2 ∧ FrGM h h' := by
  have hgo := gop_is (n := n) (st := st) hk (by decide)
  have q : (cirA h).1 g ≠ 8 := by rw [hk]; decide
  obtain ⟨a, ea⟩ : ∃ a, a = sd n st.2 (hI h 54 g) := ⟨_, rfl⟩
  obtain ⟨b, eb⟩ : ∃ b, b = sd n st.2 (hI h 57 g) := ⟨_, rfl⟩
  have ha : a < 2 * gC st.1 := by rw [ea]; exact sd_lt Mk (by omega) (K.2.1 q).1
  have hb : b < 2 * gC st.1 := by rw [eb]; exact sd_lt Mk (by omega) (K.2.1 q).2
  have Ra := sp_side0 (d := d + 1) (s := hI h 54 g) S e1 hl hn (by omega) (K.2.1 q).1
  have Rb := sp_side0 (d := d + 1) (s := hI h 57 g) S e1 hl hn (by omega) (K.2.1 q).2
  rw [← ea] at Ra
  rw [← eb] at Rb
  obtain ⟨r1, er1⟩ : ∃ r, r = gand n st.1 (a) (b) := ⟨_, rfl⟩
  obtain ⟨h1, R1, G1, F1, ok1⟩ := sp_mand (d := d) S e1 G (by omega) Mk.1 (by omega) (by omega) er1
  obtain ⟨w1, u1, v1, x1⟩ := ok1
  have S1 := F1.S S
  have e1_1 : hI h1 47 1 = nI n := (F1.2.2.1 1 (by decide)).trans e1
  have hgo2 : gop n (cirA h) st g = r1 := by
    rw [hgo, er1, ea, eb]
    rfl
  refine ⟨h1, ?_, by rw [hgo2]; exact G1, F1⟩
  rw [hgo2]
  refine Run.of (d := d + 2) (Nat.le_of_ble_eq_true rfl) (fun Q hQ => ?_)
  show Wp (Ex (d + 2)) 136 Q 0 [(0, .ref 47), (1, .int 0), (2, .int (nI g))] [] h 0 0
  refine r_aload_n (q136 (i := 0) rfl) rfl ?_
  refine r_getR (b := 50) (q136 (i := 1) rfl) rfl (by decide) (k_47 S) (fun _ _ _ => rfl) (r_47_4 S) ?_
  refine r_iload_n (q136 (i := 2) rfl) rfl ?_
  refine r_aaload5 (q136 (i := 3) rfl) (k_50 S) (vp_in_nI (n := 0) (by decide) (by decide)) (r_50_0 S) ?_
  refine r_iload_n (q136 (i := 4) rfl) rfl ?_
  refine r_iaN (x := 0) (q136 (i := 5) rfl) (k_51 S) (by omega) (by decide) hk ?_
  refine r_istore_n (ls' := [(3, .int 0), (0, .ref 47), (1, .int 0), (2, .int (nI g))]) (q136 (i := 6) rfl) (Nat.le_of_ble_eq_true rfl) rfl ?_
  refine r_iload_n (q136 (i := 7) rfl) rfl ?_
  refine r_bipush (v := 8) (q136 (i := 8) rfl) (by decide) ?_
  refine r_icmp 17 (q136 (i := 9) rfl) (by decide) (fun _ => ?_) (fun zz => absurd (show ¬ (0 : Int32) = 8 from by decide) zz)
  refine r_aload_n (q136 (i := 12) rfl) rfl ?_
  refine r_iload_n (q136 (i := 13) rfl) rfl ?_
  refine r_aload_n (q136 (i := 14) rfl) rfl ?_
  refine r_getR (b := 53) (q136 (i := 15) rfl) rfl (by decide) (k_47 S) (fun _ _ _ => rfl) (r_47_5 S) ?_
  refine r_iload_n (q136 (i := 16) rfl) rfl ?_
  refine r_aaload5 (q136 (i := 17) rfl) (k_53 S) (vp_in_nI (n := 0) (by decide) (by decide)) (r_53_0 S) ?_
  refine r_iload_n (q136 (i := 18) rfl) rfl ?_
  refine r_iaN (x := hI h 54 g) (q136 (i := 19) rfl) (k_54 S) (by omega) (by decide) rfl ?_
  refine r_cV (d := _) (q136 (i := 20) rfl) rfl rfl rfl (k_47 S) (Nat.le_of_ble_eq_true rfl) (Nat.zero_le _) (Nat.zero_le _) Ra ?_
  show Wp _ _ _ 30 [(3, .int 0), (0, .ref 47), (1, .int 0), (2, .int (nI g))] [.int (nI a)] h _ _
  refine r_istore (ls' := [(4, .int (nI a)), (3, .int 0), (0, .ref 47), (1, .int 0), (2, .int (nI g))]) (q136 (i := 21) rfl) (Nat.le_of_ble_eq_true rfl) rfl ?_
  refine r_aload_n (q136 (i := 22) rfl) rfl ?_
  refine r_iload_n (q136 (i := 23) rfl) rfl ?_
  refine r_aload_n (q136 (i := 24) rfl) rfl ?_
  refine r_getR (b := 56) (q136 (i := 25) rfl) rfl (by decide) (k_47 S) (fun _ _ _ => rfl) (r_47_6 S) ?_
  refine r_iload_n (q136 (i := 26) rfl) rfl ?_
  refine r_aaload5 (q136 (i := 27) rfl) (k_56 S) (vp_in_nI (n := 0) (by decide) (by decide)) (r_56_0 S) ?_
  refine r_iload_n (q136 (i := 28) rfl) rfl ?_
  refine r_iaN (x := hI h 57 g) (q136 (i := 29) rfl) (k_57 S) (by omega) (by decide) rfl ?_
  refine r_cV (d := _) (q136 (i := 30) rfl) rfl rfl rfl (k_47 S) (Nat.le_of_ble_eq_true rfl) (Nat.zero_le _) (Nat.zero_le _) Rb ?_
  show Wp _ _ _ 45 [(4, .int (nI a)), (3, .int 0), (0, .ref 47), (1, .int 0), (2, .int (nI g))] [.int (nI b)] h _ _
  refine r_istore (ls' := [(5, .int (nI b)), (4, .int (nI a)), (3, .int 0), (0, .ref 47), (1, .int 0), (2, .int (nI g))]) (q136 (i := 31) rfl) (Nat.le_of_ble_eq_true rfl) rfl ?_
  refine r_iload_n (q136 (i := 32) rfl) rfl ?_
  refine r_if 56 (q136 (i := 33) rfl) (by decide) (fun _ => ?_) (fun zz => absurd (show (0 : Int32) = 0 from by decide) zz)
  refine r_aload_n (q136 (i := 37) rfl) rfl ?_
  refine r_iload (q136 (i := 38) rfl) rfl ?_
  refine r_iload (q136 (i := 39) rfl) rfl ?_
  refine r_cV (d := _) (q136 (i := 40) rfl) rfl rfl rfl (k_47 S) (Nat.le_of_ble_eq_true rfl) (Nat.zero_le _) (Nat.zero_le _) R1 ?_
  show Wp _ _ _ 64 [(5, .int (nI b)), (4, .int (nI a)), (3, .int 0), (0, .ref 47), (1, .int 0), (2, .int (nI g))] [.int (nI r1.1)] h1 _ _
  refine r_istore (ls' := [(6, .int (nI r1.1)), (5, .int (nI b)), (4, .int (nI a)), (3, .int 0), (0, .ref 47), (1, .int 0), (2, .int (nI g))]) (q136 (i := 41) rfl) (Nat.le_of_ble_eq_true rfl) rfl ?_
  refine r_goto 268 (q136 (i := 42) rfl) (by decide) ?_
  refine r_iload_n (q136 (i := 166) rfl) rfl ?_
  refine r_iconst (v := 3) (q136 (i := 167) rfl) (by decide) ?_
  refine r_icmp 285 (q136 (i := 168) rfl) (by decide) (fun _ => ?_) (fun zz => absurd (show (0 : Int32) < 3 from by decide) zz)
  refine r_iload (q136 (i := 176) rfl) rfl ?_
  exact r_iret (q136 (i := 177) rfl) rfl hQ
set_option maxHeartbeats 2000000 in
set_option maxRecDepth 10000 in
theorem gof0_1 {d : Nat} {h : hp} (S : Sh h) {n g : Nat} {st : gs × (Nat → Nat)} (e1 : hI h 47 1 = nI n) (G : MG h n st.1) (Mk : gmade n g st) (K : cok n (cirA h) g) (hl : ∀ i, i < g → hI h 66 i = nI (st.2 i)) (hn : n ≤ 12) (hg : g < 120) (hC : gC st.1 + 4 < 1000) (hk : (cirA h).1 g = nI 1) : ∃ h', Run (d + 2 + 1) 136 [.ref 47, .int 0, .int (nI g)] h 0 0 (some (.int (nI (gop n (cirA h) st g).1))) h' ∧ MG h' n (gop n (cirA h) st g).2 ∧ FrGM h h' := by
  have hgo := gop_is (n := n) (st := st) hk (by decide)
  have q : (cirA h).1 g ≠ 8 := by rw [hk]; decide
  obtain ⟨a, ea⟩ : ∃ a, a = sd n st.2 (hI h 54 g) := ⟨_, rfl⟩
  obtain ⟨b, eb⟩ : ∃ b, b = sd n st.2 (hI h 57 g) := ⟨_, rfl⟩
  have ha : a < 2 * gC st.1 := by rw [ea]; exact sd_lt Mk (by omega) (K.2.1 q).1
  have hb : b < 2 * gC st.1 := by rw [eb]; exact sd_lt Mk (by omega) (K.2.1 q).2
  have Ra := sp_side0 (d := d + 1) (s := hI h 54 g) S e1 hl hn (by omega) (K.2.1 q).1
  have Rb := sp_side0 (d := d + 1) (s := hI h 57 g) S e1 hl hn (by omega) (K.2.1 q).2
  rw [← ea] at Ra
  rw [← eb] at Rb
  obtain ⟨r1, er1⟩ : ∃ r, r = gand n st.1 (a ^^^ 1) (b ^^^ 1) := ⟨_, rfl⟩
  obtain ⟨h1, R1, G1, F1, ok1⟩ := sp_mand (d := d) S e1 G (by omega) Mk.1 (xor1_lt (by omega)) (xor1_lt (by omega)) er1
  obtain ⟨w1, u1, v1, x1⟩ := ok1
  have S1 := F1.S S
  have e1_1 : hI h1 47 1 = nI n := (F1.2.2.1 1 (by decide)).trans e1
  have hgo2 : gop n (cirA h) st g = (r1.1 ^^^ 1, r1.2) := by
    rw [hgo, er1, ea, eb]
    rfl
  refine ⟨h1, ?_, by rw [hgo2]; exact G1, F1⟩
  rw [hgo2]
  refine Run.of (d := d + 2) (Nat.le_of_ble_eq_true rfl) (fun Q hQ => ?_)
  show Wp (Ex (d + 2)) 136 Q 0 [(0, .ref 47), (1, .int 0), (2, .int (nI g))] [] h 0 0
  refine r_aload_n (q136 (i := 0) rfl) rfl ?_
  refine r_getR (b := 50) (q136 (i := 1) rfl) rfl (by decide) (k_47 S) (fun _ _ _ => rfl) (r_47_4 S) ?_
  refine r_iload_n (q136 (i := 2) rfl) rfl ?_
  refine r_aaload5 (q136 (i := 3) rfl) (k_50 S) (vp_in_nI (n := 0) (by decide) (by decide)) (r_50_0 S) ?_
  refine r_iload_n (q136 (i := 4) rfl) rfl ?_
  refine r_iaN (x := 1) (q136 (i := 5) rfl) (k_51 S) (by omega) (by decide) hk ?_
  refine r_istore_n (ls' := [(3, .int 1), (0, .ref 47), (1, .int 0), (2, .int (nI g))]) (q136 (i := 6) rfl) (Nat.le_of_ble_eq_true rfl) rfl ?_
  refine r_iload_n (q136 (i := 7) rfl) rfl ?_
  refine r_bipush (v := 8) (q136 (i := 8) rfl) (by decide) ?_
  refine r_icmp 17 (q136 (i := 9) rfl) (by decide) (fun _ => ?_) (fun zz => absurd (show ¬ (1 : Int32) = 8 from by decide) zz)
  refine r_aload_n (q136 (i := 12) rfl) rfl ?_
  refine r_iload_n (q136 (i := 13) rfl) rfl ?_
  refine r_aload_n (q136 (i := 14) rfl) rfl ?_
  refine r_getR (b := 53) (q136 (i := 15) rfl) rfl (by decide) (k_47 S) (fun _ _ _ => rfl) (r_47_5 S) ?_
  refine r_iload_n (q136 (i := 16) rfl) rfl ?_
  refine r_aaload5 (q136 (i := 17) rfl) (k_53 S) (vp_in_nI (n := 0) (by decide) (by decide)) (r_53_0 S) ?_
  refine r_iload_n (q136 (i := 18) rfl) rfl ?_
  refine r_iaN (x := hI h 54 g) (q136 (i := 19) rfl) (k_54 S) (by omega) (by decide) rfl ?_
  refine r_cV (d := _) (q136 (i := 20) rfl) rfl rfl rfl (k_47 S) (Nat.le_of_ble_eq_true rfl) (Nat.zero_le _) (Nat.zero_le _) Ra ?_
  show Wp _ _ _ 30 [(3, .int 1), (0, .ref 47), (1, .int 0), (2, .int (nI g))] [.int (nI a)] h _ _
  refine r_istore (ls' := [(4, .int (nI a)), (3, .int 1), (0, .ref 47), (1, .int 0), (2, .int (nI g))]) (q136 (i := 21) rfl) (Nat.le_of_ble_eq_true rfl) rfl ?_
  refine r_aload_n (q136 (i := 22) rfl) rfl ?_
  refine r_iload_n (q136 (i := 23) rfl) rfl ?_
  refine r_aload_n (q136 (i := 24) rfl) rfl ?_
  refine r_getR (b := 56) (q136 (i := 25) rfl) rfl (by decide) (k_47 S) (fun _ _ _ => rfl) (r_47_6 S) ?_
  refine r_iload_n (q136 (i := 26) rfl) rfl ?_
  refine r_aaload5 (q136 (i := 27) rfl) (k_56 S) (vp_in_nI (n := 0) (by decide) (by decide)) (r_56_0 S) ?_
  refine r_iload_n (q136 (i := 28) rfl) rfl ?_
  refine r_iaN (x := hI h 57 g) (q136 (i := 29) rfl) (k_57 S) (by omega) (by decide) rfl ?_
  refine r_cV (d := _) (q136 (i := 30) rfl) rfl rfl rfl (k_47 S) (Nat.le_of_ble_eq_true rfl) (Nat.zero_le _) (Nat.zero_le _) Rb ?_
  show Wp _ _ _ 45 [(4, .int (nI a)), (3, .int 1), (0, .ref 47), (1, .int 0), (2, .int (nI g))] [.int (nI b)] h _ _
  refine r_istore (ls' := [(5, .int (nI b)), (4, .int (nI a)), (3, .int 1), (0, .ref 47), (1, .int 0), (2, .int (nI g))]) (q136 (i := 31) rfl) (Nat.le_of_ble_eq_true rfl) rfl ?_
  refine r_iload_n (q136 (i := 32) rfl) rfl ?_
  refine r_if 56 (q136 (i := 33) rfl) (by decide) (fun zz => absurd zz (show ¬ ((1 : Int32) = 0) from by decide)) (fun _ => ?_)
  refine r_iload_n (q136 (i := 34) rfl) rfl ?_
  refine r_iconst (v := 3) (q136 (i := 35) rfl) (by decide) ?_
  refine r_icmp 69 (q136 (i := 36) rfl) (by decide) (fun _ => ?_) (fun zz => absurd (show ¬ (1 : Int32) = 3 from by decide) zz)
  refine r_iload_n (q136 (i := 43) rfl) rfl ?_
  refine r_iconst (v := 1) (q136 (i := 44) rfl) (by decide) ?_
  refine r_icmp 79 (q136 (i := 45) rfl) (by decide) (fun _ => ?_) (fun zz => absurd (show (1 : Int32) = 1 from by decide) zz)
  refine r_aload_n (q136 (i := 49) rfl) rfl ?_
  refine r_iload (q136 (i := 50) rfl) rfl ?_
  refine r_iconst (v := 1) (q136 (i := 51) rfl) (by decide) ?_
  refine r_ixor (q136 (i := 52) rfl) ?_
  rw [show ((nI a) ^^^ 1 : Int32) = nI (a ^^^ 1) from xor1 _]
  refine r_iload (q136 (i := 53) rfl) rfl ?_
  refine r_iconst (v := 1) (q136 (i := 54) rfl) (by decide) ?_
  refine r_ixor (q136 (i := 55) rfl) ?_
  rw [show ((nI b) ^^^ 1 : Int32) = nI (b ^^^ 1) from xor1 _]
  refine r_cV (d := _) (q136 (i := 56) rfl) rfl rfl rfl (k_47 S) (Nat.le_of_ble_eq_true rfl) (Nat.zero_le _) (Nat.zero_le _) R1 ?_
  show Wp _ _ _ 91 [(5, .int (nI b)), (4, .int (nI a)), (3, .int 1), (0, .ref 47), (1, .int 0), (2, .int (nI g))] [.int (nI r1.1)] h1 _ _
  refine r_iconst (v := 1) (q136 (i := 57) rfl) (by decide) ?_
  refine r_ixor (q136 (i := 58) rfl) ?_
  rw [show ((nI r1.1) ^^^ 1 : Int32) = nI (r1.1 ^^^ 1) from xor1 _]
  refine r_istore (ls' := [(6, .int (nI (r1.1 ^^^ 1))), (5, .int (nI b)), (4, .int (nI a)), (3, .int 1), (0, .ref 47), (1, .int 0), (2, .int (nI g))]) (q136 (i := 59) rfl) (Nat.le_of_ble_eq_true rfl) rfl ?_
  refine r_goto 268 (q136 (i := 60) rfl) (by decide) ?_
  refine r_iload_n (q136 (i := 166) rfl) rfl ?_
  refine r_iconst (v := 3) (q136 (i := 167) rfl) (by decide) ?_
  refine r_icmp 285 (q136 (i := 168) rfl) (by decide) (fun _ => ?_) (fun zz => absurd (show (1 : Int32) < 3 from by decide) zz)
  refine r_iload (q136 (i := 176) rfl) rfl ?_
  exact r_iret (q136 (i := 177) rfl) rfl hQ
set_option maxHeartbeats 2000000 in
set_option maxRecDepth 10000 in
theorem gof0_2 {d : Nat} {h : hp} (S : Sh h) {n g : Nat} {st : gs × (Nat → Nat)} (e1 : hI h 47 1 = nI n) (G : MG h n st.1) (Mk : gmade n g st) (K : cok n (cirA h) g) (hl : ∀ i, i < g → hI h 66 i = nI (st.2 i)) (hn : n ≤ 12) (hg : g < 120) (hC : gC st.1 + 4 < 1000) (hk : (cirA h).1 g = nI 2) : ∃ h', Run (d + 2 + 1) 136 [.ref 47, .int 0, .int (nI g)] h 0 0 (some (.int (nI (gop n (cirA h) st g).1))) h' ∧ MG h' n (gop n (cirA h) st g).2 ∧ FrGM h h' := by
  have hgo := gop_is (n := n) (st := st) hk (by decide)
  have q : (cirA h).1 g ≠ 8 := by rw [hk]; decide
  obtain ⟨a, ea⟩ : ∃ a, a = sd n st.2 (hI h 54 g) := ⟨_, rfl⟩
  obtain ⟨b, eb⟩ : ∃ b, b = sd n st.2 (hI h 57 g) := ⟨_, rfl⟩
  have ha : a < 2 * gC st.1 := by rw [ea]; exact sd_lt Mk (by omega) (K.2.1 q).1
  have hb : b < 2 * gC st.1 := by rw [eb]; exact sd_lt Mk (by omega) (K.2.1 q).2
  have Ra := sp_side0 (d := d + 1) (s := hI h 54 g) S e1 hl hn (by omega) (K.2.1 q).1
  have Rb := sp_side0 (d := d + 1) (s := hI h 57 g) S e1 hl hn (by omega) (K.2.1 q).2
  rw [← ea] at Ra
  rw [← eb] at Rb
  obtain ⟨r1, er1⟩ : ∃ r, r = gand n st.1 (a) (b ^^^ 1) := ⟨_, rfl⟩
  obtain ⟨h1, R1, G1, F1, ok1⟩ := sp_mand (d := d) S e1 G (by omega) Mk.1 (by omega) (xor1_lt (by omega)) er1
  obtain ⟨w1, u1, v1, x1⟩ := ok1
  have S1 := F1.S S
  have e1_1 : hI h1 47 1 = nI n := (F1.2.2.1 1 (by decide)).trans e1
  obtain ⟨r2, er2⟩ : ∃ r, r = gand n r1.2 (a ^^^ 1) (b) := ⟨_, rfl⟩
  obtain ⟨h2, R2, G2, F2, ok2⟩ := sp_mand (d := d) S1 e1_1 G1 (by omega) w1 (xor1_lt (by omega)) (by omega) er2
  obtain ⟨w2, u2, v2, x2⟩ := ok2
  have S2 := F2.S S1
  have e1_2 : hI h2 47 1 = nI n := (F2.2.2.1 1 (by decide)).trans e1_1
  obtain ⟨r3, er3⟩ : ∃ r, r = gand n r2.2 (r1.1 ^^^ 1) (r2.1 ^^^ 1) := ⟨_, rfl⟩
  obtain ⟨h3, R3, G3, F3, ok3⟩ := sp_mand (d := d) S2 e1_2 G2 (by omega) w2 (xor1_lt (by omega)) (xor1_lt (by omega)) er3
  obtain ⟨w3, u3, v3, x3⟩ := ok3
  have S3 := F3.S S2
  have e1_3 : hI h3 47 1 = nI n := (F3.2.2.1 1 (by decide)).trans e1_2
  have hgo2 : gop n (cirA h) st g = (r3.1 ^^^ 1, r3.2) := by
    rw [hgo, er3, er2, er1, ea, eb]
    rfl
  refine ⟨h3, ?_, by rw [hgo2]; exact G3, ((F1.tr F2).tr F3)⟩
  rw [hgo2]
  refine Run.of (d := d + 2) (Nat.le_of_ble_eq_true rfl) (fun Q hQ => ?_)
  show Wp (Ex (d + 2)) 136 Q 0 [(0, .ref 47), (1, .int 0), (2, .int (nI g))] [] h 0 0
  refine r_aload_n (q136 (i := 0) rfl) rfl ?_
  refine r_getR (b := 50) (q136 (i := 1) rfl) rfl (by decide) (k_47 S) (fun _ _ _ => rfl) (r_47_4 S) ?_
  refine r_iload_n (q136 (i := 2) rfl) rfl ?_
  refine r_aaload5 (q136 (i := 3) rfl) (k_50 S) (vp_in_nI (n := 0) (by decide) (by decide)) (r_50_0 S) ?_
  refine r_iload_n (q136 (i := 4) rfl) rfl ?_
  refine r_iaN (x := 2) (q136 (i := 5) rfl) (k_51 S) (by omega) (by decide) hk ?_
  refine r_istore_n (ls' := [(3, .int 2), (0, .ref 47), (1, .int 0), (2, .int (nI g))]) (q136 (i := 6) rfl) (Nat.le_of_ble_eq_true rfl) rfl ?_
  refine r_iload_n (q136 (i := 7) rfl) rfl ?_
  refine r_bipush (v := 8) (q136 (i := 8) rfl) (by decide) ?_
  refine r_icmp 17 (q136 (i := 9) rfl) (by decide) (fun _ => ?_) (fun zz => absurd (show ¬ (2 : Int32) = 8 from by decide) zz)
  refine r_aload_n (q136 (i := 12) rfl) rfl ?_
  refine r_iload_n (q136 (i := 13) rfl) rfl ?_
  refine r_aload_n (q136 (i := 14) rfl) rfl ?_
  refine r_getR (b := 53) (q136 (i := 15) rfl) rfl (by decide) (k_47 S) (fun _ _ _ => rfl) (r_47_5 S) ?_
  refine r_iload_n (q136 (i := 16) rfl) rfl ?_
  refine r_aaload5 (q136 (i := 17) rfl) (k_53 S) (vp_in_nI (n := 0) (by decide) (by decide)) (r_53_0 S) ?_
  refine r_iload_n (q136 (i := 18) rfl) rfl ?_
  refine r_iaN (x := hI h 54 g) (q136 (i := 19) rfl) (k_54 S) (by omega) (by decide) rfl ?_
  refine r_cV (d := _) (q136 (i := 20) rfl) rfl rfl rfl (k_47 S) (Nat.le_of_ble_eq_true rfl) (Nat.zero_le _) (Nat.zero_le _) Ra ?_
  show Wp _ _ _ 30 [(3, .int 2), (0, .ref 47), (1, .int 0), (2, .int (nI g))] [.int (nI a)] h _ _
  refine r_istore (ls' := [(4, .int (nI a)), (3, .int 2), (0, .ref 47), (1, .int 0), (2, .int (nI g))]) (q136 (i := 21) rfl) (Nat.le_of_ble_eq_true rfl) rfl ?_
  refine r_aload_n (q136 (i := 22) rfl) rfl ?_
  refine r_iload_n (q136 (i := 23) rfl) rfl ?_
  refine r_aload_n (q136 (i := 24) rfl) rfl ?_
  refine r_getR (b := 56) (q136 (i := 25) rfl) rfl (by decide) (k_47 S) (fun _ _ _ => rfl) (r_47_6 S) ?_
  refine r_iload_n (q136 (i := 26) rfl) rfl ?_
  refine r_aaload5 (q136 (i := 27) rfl) (k_56 S) (vp_in_nI (n := 0) (by decide) (by decide)) (r_56_0 S) ?_
  refine r_iload_n (q136 (i := 28) rfl) rfl ?_
  refine r_iaN (x := hI h 57 g) (q136 (i := 29) rfl) (k_57 S) (by omega) (by decide) rfl ?_
  refine r_cV (d := _) (q136 (i := 30) rfl) rfl rfl rfl (k_47 S) (Nat.le_of_ble_eq_true rfl) (Nat.zero_le _) (Nat.zero_le _) Rb ?_
  show Wp _ _ _ 45 [(4, .int (nI a)), (3, .int 2), (0, .ref 47), (1, .int 0), (2, .int (nI g))] [.int (nI b)] h _ _
  refine r_istore (ls' := [(5, .int (nI b)), (4, .int (nI a)), (3, .int 2), (0, .ref 47), (1, .int 0), (2, .int (nI g))]) (q136 (i := 31) rfl) (Nat.le_of_ble_eq_true rfl) rfl ?_
  refine r_iload_n (q136 (i := 32) rfl) rfl ?_
  refine r_if 56 (q136 (i := 33) rfl) (by decide) (fun zz => absurd zz (show ¬ ((2 : Int32) = 0) from by decide)) (fun _ => ?_)
  refine r_iload_n (q136 (i := 34) rfl) rfl ?_
  refine r_iconst (v := 3) (q136 (i := 35) rfl) (by decide) ?_
  refine r_icmp 69 (q136 (i := 36) rfl) (by decide) (fun _ => ?_) (fun zz => absurd (show ¬ (2 : Int32) = 3 from by decide) zz)
  refine r_iload_n (q136 (i := 43) rfl) rfl ?_
  refine r_iconst (v := 1) (q136 (i := 44) rfl) (by decide) ?_
  refine r_icmp 79 (q136 (i := 45) rfl) (by decide) (fun zz => absurd zz (show ¬ ((2 : Int32) = 1) from by decide)) (fun _ => ?_)
  refine r_iload_n (q136 (i := 46) rfl) rfl ?_
  refine r_iconst (v := 4) (q136 (i := 47) rfl) (by decide) ?_
  refine r_icmp 98 (q136 (i := 48) rfl) (by decide) (fun _ => ?_) (fun zz => absurd (show ¬ (2 : Int32) = 4 from by decide) zz)
  refine r_iload_n (q136 (i := 61) rfl) rfl ?_
  refine r_iconst (v := 2) (q136 (i := 62) rfl) (by decide) ?_
  refine r_icmp 108 (q136 (i := 63) rfl) (by decide) (fun _ => ?_) (fun zz => absurd (show (2 : Int32) = 2 from by decide) zz)
  refine r_aload_n (q136 (i := 67) rfl) rfl ?_
  refine r_iload (q136 (i := 68) rfl) rfl ?_
  refine r_iload (q136 (i := 69) rfl) rfl ?_
  refine r_iconst (v := 1) (q136 (i := 70) rfl) (by decide) ?_
  refine r_ixor (q136 (i := 71) rfl) ?_
  rw [show ((nI b) ^^^ 1 : Int32) = nI (b ^^^ 1) from xor1 _]
  refine r_cV (d := _) (q136 (i := 72) rfl) rfl rfl rfl (k_47 S) (Nat.le_of_ble_eq_true rfl) (Nat.zero_le _) (Nat.zero_le _) R1 ?_
  show Wp _ _ _ 118 [(5, .int (nI b)), (4, .int (nI a)), (3, .int 2), (0, .ref 47), (1, .int 0), (2, .int (nI g))] [.int (nI r1.1)] h1 _ _
  refine r_istore (ls' := [(7, .int (nI r1.1)), (5, .int (nI b)), (4, .int (nI a)), (3, .int 2), (0, .ref 47), (1, .int 0), (2, .int (nI g))]) (q136 (i := 73) rfl) (Nat.le_of_ble_eq_true rfl) rfl ?_
  refine r_aload_n (q136 (i := 74) rfl) rfl ?_
  refine r_iload (q136 (i := 75) rfl) rfl ?_
  refine r_iconst (v := 1) (q136 (i := 76) rfl) (by decide) ?_
  refine r_ixor (q136 (i := 77) rfl) ?_
  rw [show ((nI a) ^^^ 1 : Int32) = nI (a ^^^ 1) from xor1 _]
  refine r_iload (q136 (i := 78) rfl) rfl ?_
  refine r_cV (d := _) (q136 (i := 79) rfl) rfl rfl rfl (k_47 S1) (Nat.le_of_ble_eq_true rfl) (Nat.zero_le _) (Nat.zero_le _) R2 ?_
  show Wp _ _ _ 130 [(7, .int (nI r1.1)), (5, .int (nI b)), (4, .int (nI a)), (3, .int 2), (0, .ref 47), (1, .int 0), (2, .int (nI g))] [.int (nI r2.1)] h2 _ _
  refine r_istore (ls' := [(8, .int (nI r2.1)), (7, .int (nI r1.1)), (5, .int (nI b)), (4, .int (nI a)), (3, .int 2), (0, .ref 47), (1, .int 0), (2, .int (nI g))]) (q136 (i := 80) rfl) (Nat.le_of_ble_eq_true rfl) rfl ?_
  refine r_aload_n (q136 (i := 81) rfl) rfl ?_
  refine r_iload (q136 (i := 82) rfl) rfl ?_
  refine r_iconst (v := 1) (q136 (i := 83) rfl) (by decide) ?_
  refine r_ixor (q136 (i := 84) rfl) ?_
  rw [show ((nI r1.1) ^^^ 1 : Int32) = nI (r1.1 ^^^ 1) from xor1 _]
  refine r_iload (q136 (i := 85) rfl) rfl ?_
  refine r_iconst (v := 1) (q136 (i := 86) rfl) (by decide) ?_
  refine r_ixor (q136 (i := 87) rfl) ?_
  rw [show ((nI r2.1) ^^^ 1 : Int32) = nI (r2.1 ^^^ 1) from xor1 _]
  refine r_cV (d := _) (q136 (i := 88) rfl) rfl rfl rfl (k_47 S2) (Nat.le_of_ble_eq_true rfl) (Nat.zero_le _) (Nat.zero_le _) R3 ?_
  show Wp _ _ _ 144 [(8, .int (nI r2.1)), (7, .int (nI r1.1)), (5, .int (nI b)), (4, .int (nI a)), (3, .int 2), (0, .ref 47), (1, .int 0), (2, .int (nI g))] [.int (nI r3.1)] h3 _ _
  refine r_iconst (v := 1) (q136 (i := 89) rfl) (by decide) ?_
  refine r_ixor (q136 (i := 90) rfl) ?_
  rw [show ((nI r3.1) ^^^ 1 : Int32) = nI (r3.1 ^^^ 1) from xor1 _]
  refine r_istore (ls' := [(6, .int (nI (r3.1 ^^^ 1))), (8, .int (nI r2.1)), (7, .int (nI r1.1)), (5, .int (nI b)), (4, .int (nI a)), (3, .int 2), (0, .ref 47), (1, .int 0), (2, .int (nI g))]) (q136 (i := 91) rfl) (Nat.le_of_ble_eq_true rfl) rfl ?_
  refine r_goto 268 (q136 (i := 92) rfl) (by decide) ?_
  refine r_iload_n (q136 (i := 166) rfl) rfl ?_
  refine r_iconst (v := 3) (q136 (i := 167) rfl) (by decide) ?_
  refine r_icmp 285 (q136 (i := 168) rfl) (by decide) (fun _ => ?_) (fun zz => absurd (show (2 : Int32) < 3 from by decide) zz)
  refine r_iload (q136 (i := 176) rfl) rfl ?_
  exact r_iret (q136 (i := 177) rfl) rfl hQ
set_option maxHeartbeats 2000000 in
set_option maxRecDepth 10000 in
theorem gof0_3 {d : Nat} {h : hp} (S : Sh h) {n g : Nat} {st : gs × (Nat → Nat)} (e1 : hI h 47 1 = nI n) (G : MG h n st.1) (Mk : gmade n g st) (K : cok n (cirA h) g) (hl : ∀ i, i < g → hI h 66 i = nI (st.2 i)) (hn : n ≤ 12) (hg : g < 120) (hC : gC st.1 + 4 < 1000) (hk : (cirA h).1 g = nI 3) : ∃ h', Run (d + 2 + 1) 136 [.ref 47, .int 0, .int (nI g)] h 0 0 (some (.int (nI (gop n (cirA h) st g).1))) h' ∧ MG h' n (gop n (cirA h) st g).2 ∧ FrGM h h' := by
  have hgo := gop_is (n := n) (st := st) hk (by decide)
  have q : (cirA h).1 g ≠ 8 := by rw [hk]; decide
  obtain ⟨a, ea⟩ : ∃ a, a = sd n st.2 (hI h 54 g) := ⟨_, rfl⟩
  obtain ⟨b, eb⟩ : ∃ b, b = sd n st.2 (hI h 57 g) := ⟨_, rfl⟩
  have ha : a < 2 * gC st.1 := by rw [ea]; exact sd_lt Mk (by omega) (K.2.1 q).1
  have hb : b < 2 * gC st.1 := by rw [eb]; exact sd_lt Mk (by omega) (K.2.1 q).2
  have Ra := sp_side0 (d := d + 1) (s := hI h 54 g) S e1 hl hn (by omega) (K.2.1 q).1
  have Rb := sp_side0 (d := d + 1) (s := hI h 57 g) S e1 hl hn (by omega) (K.2.1 q).2
  rw [← ea] at Ra
  rw [← eb] at Rb
  obtain ⟨r1, er1⟩ : ∃ r, r = gand n st.1 (a) (b) := ⟨_, rfl⟩
  obtain ⟨h1, R1, G1, F1, ok1⟩ := sp_mand (d := d) S e1 G (by omega) Mk.1 (by omega) (by omega) er1
  obtain ⟨w1, u1, v1, x1⟩ := ok1
  have S1 := F1.S S
  have e1_1 : hI h1 47 1 = nI n := (F1.2.2.1 1 (by decide)).trans e1
  have hgo2 : gop n (cirA h) st g = (r1.1 ^^^ 1, r1.2) := by
    rw [hgo, er1, ea, eb]
    rfl
  refine ⟨h1, ?_, by rw [hgo2]; exact G1, F1⟩
  rw [hgo2]
  refine Run.of (d := d + 2) (Nat.le_of_ble_eq_true rfl) (fun Q hQ => ?_)
  show Wp (Ex (d + 2)) 136 Q 0 [(0, .ref 47), (1, .int 0), (2, .int (nI g))] [] h 0 0
  refine r_aload_n (q136 (i := 0) rfl) rfl ?_
  refine r_getR (b := 50) (q136 (i := 1) rfl) rfl (by decide) (k_47 S) (fun _ _ _ => rfl) (r_47_4 S) ?_
  refine r_iload_n (q136 (i := 2) rfl) rfl ?_
  refine r_aaload5 (q136 (i := 3) rfl) (k_50 S) (vp_in_nI (n := 0) (by decide) (by decide)) (r_50_0 S) ?_
  refine r_iload_n (q136 (i := 4) rfl) rfl ?_
  refine r_iaN (x := 3) (q136 (i := 5) rfl) (k_51 S) (by omega) (by decide) hk ?_
  refine r_istore_n (ls' := [(3, .int 3), (0, .ref 47), (1, .int 0), (2, .int (nI g))]) (q136 (i := 6) rfl) (Nat.le_of_ble_eq_true rfl) rfl ?_
  refine r_iload_n (q136 (i := 7) rfl) rfl ?_
  refine r_bipush (v := 8) (q136 (i := 8) rfl) (by decide) ?_
  refine r_icmp 17 (q136 (i := 9) rfl) (by decide) (fun _ => ?_) (fun zz => absurd (show ¬ (3 : Int32) = 8 from by decide) zz)
  refine r_aload_n (q136 (i := 12) rfl) rfl ?_
  refine r_iload_n (q136 (i := 13) rfl) rfl ?_
  refine r_aload_n (q136 (i := 14) rfl) rfl ?_
  refine r_getR (b := 53) (q136 (i := 15) rfl) rfl (by decide) (k_47 S) (fun _ _ _ => rfl) (r_47_5 S) ?_
  refine r_iload_n (q136 (i := 16) rfl) rfl ?_
  refine r_aaload5 (q136 (i := 17) rfl) (k_53 S) (vp_in_nI (n := 0) (by decide) (by decide)) (r_53_0 S) ?_
  refine r_iload_n (q136 (i := 18) rfl) rfl ?_
  refine r_iaN (x := hI h 54 g) (q136 (i := 19) rfl) (k_54 S) (by omega) (by decide) rfl ?_
  refine r_cV (d := _) (q136 (i := 20) rfl) rfl rfl rfl (k_47 S) (Nat.le_of_ble_eq_true rfl) (Nat.zero_le _) (Nat.zero_le _) Ra ?_
  show Wp _ _ _ 30 [(3, .int 3), (0, .ref 47), (1, .int 0), (2, .int (nI g))] [.int (nI a)] h _ _
  refine r_istore (ls' := [(4, .int (nI a)), (3, .int 3), (0, .ref 47), (1, .int 0), (2, .int (nI g))]) (q136 (i := 21) rfl) (Nat.le_of_ble_eq_true rfl) rfl ?_
  refine r_aload_n (q136 (i := 22) rfl) rfl ?_
  refine r_iload_n (q136 (i := 23) rfl) rfl ?_
  refine r_aload_n (q136 (i := 24) rfl) rfl ?_
  refine r_getR (b := 56) (q136 (i := 25) rfl) rfl (by decide) (k_47 S) (fun _ _ _ => rfl) (r_47_6 S) ?_
  refine r_iload_n (q136 (i := 26) rfl) rfl ?_
  refine r_aaload5 (q136 (i := 27) rfl) (k_56 S) (vp_in_nI (n := 0) (by decide) (by decide)) (r_56_0 S) ?_
  refine r_iload_n (q136 (i := 28) rfl) rfl ?_
  refine r_iaN (x := hI h 57 g) (q136 (i := 29) rfl) (k_57 S) (by omega) (by decide) rfl ?_
  refine r_cV (d := _) (q136 (i := 30) rfl) rfl rfl rfl (k_47 S) (Nat.le_of_ble_eq_true rfl) (Nat.zero_le _) (Nat.zero_le _) Rb ?_
  show Wp _ _ _ 45 [(4, .int (nI a)), (3, .int 3), (0, .ref 47), (1, .int 0), (2, .int (nI g))] [.int (nI b)] h _ _
  refine r_istore (ls' := [(5, .int (nI b)), (4, .int (nI a)), (3, .int 3), (0, .ref 47), (1, .int 0), (2, .int (nI g))]) (q136 (i := 31) rfl) (Nat.le_of_ble_eq_true rfl) rfl ?_
  refine r_iload_n (q136 (i := 32) rfl) rfl ?_
  refine r_if 56 (q136 (i := 33) rfl) (by decide) (fun zz => absurd zz (show ¬ ((3 : Int32) = 0) from by decide)) (fun _ => ?_)
  refine r_iload_n (q136 (i := 34) rfl) rfl ?_
  refine r_iconst (v := 3) (q136 (i := 35) rfl) (by decide) ?_
  refine r_icmp 69 (q136 (i := 36) rfl) (by decide) (fun zz => absurd zz (show ¬ (¬ (3 : Int32) = 3) from by decide)) (fun _ => ?_)
  refine r_aload_n (q136 (i := 37) rfl) rfl ?_
  refine r_iload (q136 (i := 38) rfl) rfl ?_
  refine r_iload (q136 (i := 39) rfl) rfl ?_
  refine r_cV (d := _) (q136 (i := 40) rfl) rfl rfl rfl (k_47 S) (Nat.le_of_ble_eq_true rfl) (Nat.zero_le _) (Nat.zero_le _) R1 ?_
  show Wp _ _ _ 64 [(5, .int (nI b)), (4, .int (nI a)), (3, .int 3), (0, .ref 47), (1, .int 0), (2, .int (nI g))] [.int (nI r1.1)] h1 _ _
  refine r_istore (ls' := [(6, .int (nI r1.1)), (5, .int (nI b)), (4, .int (nI a)), (3, .int 3), (0, .ref 47), (1, .int 0), (2, .int (nI g))]) (q136 (i := 41) rfl) (Nat.le_of_ble_eq_true rfl) rfl ?_
  refine r_goto 268 (q136 (i := 42) rfl) (by decide) ?_
  refine r_iload_n (q136 (i := 166) rfl) rfl ?_
  refine r_iconst (v := 3) (q136 (i := 167) rfl) (by decide) ?_
  refine r_icmp 285 (q136 (i := 168) rfl) (by decide) (fun zz => absurd zz (show ¬ ((3 : Int32) < 3) from by decide)) (fun _ => ?_)
  refine r_iload_n (q136 (i := 169) rfl) rfl ?_
  refine r_iconst (v := 5) (q136 (i := 170) rfl) (by decide) ?_
  refine r_icmp 285 (q136 (i := 171) rfl) (by decide) (fun zz => absurd zz (show ¬ (5 < (3 : Int32)) from by decide)) (fun _ => ?_)
  refine r_iload (q136 (i := 172) rfl) rfl ?_
  refine r_iconst (v := 1) (q136 (i := 173) rfl) (by decide) ?_
  refine r_ixor (q136 (i := 174) rfl) ?_
  rw [show ((nI r1.1) ^^^ 1 : Int32) = nI (r1.1 ^^^ 1) from xor1 _]
  refine r_goto 287 (q136 (i := 175) rfl) (by decide) ?_
  exact r_iret (q136 (i := 177) rfl) rfl hQ
set_option maxHeartbeats 2000000 in
set_option maxRecDepth 10000 in
theorem gof0_4 {d : Nat} {h : hp} (S : Sh h) {n g : Nat} {st : gs × (Nat → Nat)} (e1 : hI h 47 1 = nI n) (G : MG h n st.1) (Mk : gmade n g st) (K : cok n (cirA h) g) (hl : ∀ i, i < g → hI h 66 i = nI (st.2 i)) (hn : n ≤ 12) (hg : g < 120) (hC : gC st.1 + 4 < 1000) (hk : (cirA h).1 g = nI 4) : ∃ h', Run (d + 2 + 1) 136 [.ref 47, .int 0, .int (nI g)] h 0 0 (some (.int (nI (gop n (cirA h) st g).1))) h' ∧ MG h' n (gop n (cirA h) st g).2 ∧ FrGM h h' := by
  have hgo := gop_is (n := n) (st := st) hk (by decide)
  have q : (cirA h).1 g ≠ 8 := by rw [hk]; decide
  obtain ⟨a, ea⟩ : ∃ a, a = sd n st.2 (hI h 54 g) := ⟨_, rfl⟩
  obtain ⟨b, eb⟩ : ∃ b, b = sd n st.2 (hI h 57 g) := ⟨_, rfl⟩
  have ha : a < 2 * gC st.1 := by rw [ea]; exact sd_lt Mk (by omega) (K.2.1 q).1
  have hb : b < 2 * gC st.1 := by rw [eb]; exact sd_lt Mk (by omega) (K.2.1 q).2
  have Ra := sp_side0 (d := d + 1) (s := hI h 54 g) S e1 hl hn (by omega) (K.2.1 q).1
  have Rb := sp_side0 (d := d + 1) (s := hI h 57 g) S e1 hl hn (by omega) (K.2.1 q).2
  rw [← ea] at Ra
  rw [← eb] at Rb
  obtain ⟨r1, er1⟩ : ∃ r, r = gand n st.1 (a ^^^ 1) (b ^^^ 1) := ⟨_, rfl⟩
  obtain ⟨h1, R1, G1, F1, ok1⟩ := sp_mand (d := d) S e1 G (by omega) Mk.1 (xor1_lt (by omega)) (xor1_lt (by omega)) er1
  obtain ⟨w1, u1, v1, x1⟩ := ok1
  have S1 := F1.S S
  have e1_1 : hI h1 47 1 = nI n := (F1.2.2.1 1 (by decide)).trans e1
  have hgo2 : gop n (cirA h) st g = r1 := by
    rw [hgo, gkind_4, if_neg (by decide), if_neg (by decide), er1, ea, eb]
    try rfl
  refine ⟨h1, ?_, by rw [hgo2]; exact G1, F1⟩
  rw [hgo2]
  refine Run.of (d := d + 2) (Nat.le_of_ble_eq_true rfl) (fun Q hQ => ?_)
  show Wp (Ex (d + 2)) 136 Q 0 [(0, .ref 47), (1, .int 0), (2, .int (nI g))] [] h 0 0
  refine r_aload_n (q136 (i := 0) rfl) rfl ?_
  refine r_getR (b := 50) (q136 (i := 1) rfl) rfl (by decide) (k_47 S) (fun _ _ _ => rfl) (r_47_4 S) ?_
  refine r_iload_n (q136 (i := 2) rfl) rfl ?_
  refine r_aaload5 (q136 (i := 3) rfl) (k_50 S) (vp_in_nI (n := 0) (by decide) (by decide)) (r_50_0 S) ?_
  refine r_iload_n (q136 (i := 4) rfl) rfl ?_
  refine r_iaN (x := 4) (q136 (i := 5) rfl) (k_51 S) (by omega) (by decide) hk ?_
  refine r_istore_n (ls' := [(3, .int 4), (0, .ref 47), (1, .int 0), (2, .int (nI g))]) (q136 (i := 6) rfl) (Nat.le_of_ble_eq_true rfl) rfl ?_
  refine r_iload_n (q136 (i := 7) rfl) rfl ?_
  refine r_bipush (v := 8) (q136 (i := 8) rfl) (by decide) ?_
  refine r_icmp 17 (q136 (i := 9) rfl) (by decide) (fun _ => ?_) (fun zz => absurd (show ¬ (4 : Int32) = 8 from by decide) zz)
  refine r_aload_n (q136 (i := 12) rfl) rfl ?_
  refine r_iload_n (q136 (i := 13) rfl) rfl ?_
  refine r_aload_n (q136 (i := 14) rfl) rfl ?_
  refine r_getR (b := 53) (q136 (i := 15) rfl) rfl (by decide) (k_47 S) (fun _ _ _ => rfl) (r_47_5 S) ?_
  refine r_iload_n (q136 (i := 16) rfl) rfl ?_
  refine r_aaload5 (q136 (i := 17) rfl) (k_53 S) (vp_in_nI (n := 0) (by decide) (by decide)) (r_53_0 S) ?_
  refine r_iload_n (q136 (i := 18) rfl) rfl ?_
  refine r_iaN (x := hI h 54 g) (q136 (i := 19) rfl) (k_54 S) (by omega) (by decide) rfl ?_
  refine r_cV (d := _) (q136 (i := 20) rfl) rfl rfl rfl (k_47 S) (Nat.le_of_ble_eq_true rfl) (Nat.zero_le _) (Nat.zero_le _) Ra ?_
  show Wp _ _ _ 30 [(3, .int 4), (0, .ref 47), (1, .int 0), (2, .int (nI g))] [.int (nI a)] h _ _
  refine r_istore (ls' := [(4, .int (nI a)), (3, .int 4), (0, .ref 47), (1, .int 0), (2, .int (nI g))]) (q136 (i := 21) rfl) (Nat.le_of_ble_eq_true rfl) rfl ?_
  refine r_aload_n (q136 (i := 22) rfl) rfl ?_
  refine r_iload_n (q136 (i := 23) rfl) rfl ?_
  refine r_aload_n (q136 (i := 24) rfl) rfl ?_
  refine r_getR (b := 56) (q136 (i := 25) rfl) rfl (by decide) (k_47 S) (fun _ _ _ => rfl) (r_47_6 S) ?_
  refine r_iload_n (q136 (i := 26) rfl) rfl ?_
  refine r_aaload5 (q136 (i := 27) rfl) (k_56 S) (vp_in_nI (n := 0) (by decide) (by decide)) (r_56_0 S) ?_
  refine r_iload_n (q136 (i := 28) rfl) rfl ?_
  refine r_iaN (x := hI h 57 g) (q136 (i := 29) rfl) (k_57 S) (by omega) (by decide) rfl ?_
  refine r_cV (d := _) (q136 (i := 30) rfl) rfl rfl rfl (k_47 S) (Nat.le_of_ble_eq_true rfl) (Nat.zero_le _) (Nat.zero_le _) Rb ?_
  show Wp _ _ _ 45 [(4, .int (nI a)), (3, .int 4), (0, .ref 47), (1, .int 0), (2, .int (nI g))] [.int (nI b)] h _ _
  refine r_istore (ls' := [(5, .int (nI b)), (4, .int (nI a)), (3, .int 4), (0, .ref 47), (1, .int 0), (2, .int (nI g))]) (q136 (i := 31) rfl) (Nat.le_of_ble_eq_true rfl) rfl ?_
  refine r_iload_n (q136 (i := 32) rfl) rfl ?_
  refine r_if 56 (q136 (i := 33) rfl) (by decide) (fun zz => absurd zz (show ¬ ((4 : Int32) = 0) from by decide)) (fun _ => ?_)
  refine r_iload_n (q136 (i := 34) rfl) rfl ?_
  refine r_iconst (v := 3) (q136 (i := 35) rfl) (by decide) ?_
  refine r_icmp 69 (q136 (i := 36) rfl) (by decide) (fun _ => ?_) (fun zz => absurd (show ¬ (4 : Int32) = 3 from by decide) zz)
  refine r_iload_n (q136 (i := 43) rfl) rfl ?_
  refine r_iconst (v := 1) (q136 (i := 44) rfl) (by decide) ?_
  refine r_icmp 79 (q136 (i := 45) rfl) (by decide) (fun zz => absurd zz (show ¬ ((4 : Int32) = 1) from by decide)) (fun _ => ?_)
  refine r_iload_n (q136 (i := 46) rfl) rfl ?_
  refine r_iconst (v := 4) (q136 (i := 47) rfl) (by decide) ?_
  refine r_icmp 98 (q136 (i := 48) rfl) (by decide) (fun zz => absurd zz (show ¬ (¬ (4 : Int32) = 4) from by decide)) (fun _ => ?_)
  refine r_aload_n (q136 (i := 49) rfl) rfl ?_
  refine r_iload (q136 (i := 50) rfl) rfl ?_
  refine r_iconst (v := 1) (q136 (i := 51) rfl) (by decide) ?_
  refine r_ixor (q136 (i := 52) rfl) ?_
  rw [show ((nI a) ^^^ 1 : Int32) = nI (a ^^^ 1) from xor1 _]
  refine r_iload (q136 (i := 53) rfl) rfl ?_
  refine r_iconst (v := 1) (q136 (i := 54) rfl) (by decide) ?_
  refine r_ixor (q136 (i := 55) rfl) ?_
  rw [show ((nI b) ^^^ 1 : Int32) = nI (b ^^^ 1) from xor1 _]
  refine r_cV (d := _) (q136 (i := 56) rfl) rfl rfl rfl (k_47 S) (Nat.le_of_ble_eq_true rfl) (Nat.zero_le _) (Nat.zero_le _) R1 ?_
  show Wp _ _ _ 91 [(5, .int (nI b)), (4, .int (nI a)), (3, .int 4), (0, .ref 47), (1, .int 0), (2, .int (nI g))] [.int (nI r1.1)] h1 _ _
  refine r_iconst (v := 1) (q136 (i := 57) rfl) (by decide) ?_
  refine r_ixor (q136 (i := 58) rfl) ?_
  rw [show ((nI r1.1) ^^^ 1 : Int32) = nI (r1.1 ^^^ 1) from xor1 _]
  refine r_istore (ls' := [(6, .int (nI (r1.1 ^^^ 1))), (5, .int (nI b)), (4, .int (nI a)), (3, .int 4), (0, .ref 47), (1, .int 0), (2, .int (nI g))]) (q136 (i := 59) rfl) (Nat.le_of_ble_eq_true rfl) rfl ?_
  refine r_goto 268 (q136 (i := 60) rfl) (by decide) ?_
  refine r_iload_n (q136 (i := 166) rfl) rfl ?_
  refine r_iconst (v := 3) (q136 (i := 167) rfl) (by decide) ?_
  refine r_icmp 285 (q136 (i := 168) rfl) (by decide) (fun zz => absurd zz (show ¬ ((4 : Int32) < 3) from by decide)) (fun _ => ?_)
  refine r_iload_n (q136 (i := 169) rfl) rfl ?_
  refine r_iconst (v := 5) (q136 (i := 170) rfl) (by decide) ?_
  refine r_icmp 285 (q136 (i := 171) rfl) (by decide) (fun zz => absurd zz (show ¬ (5 < (4 : Int32)) from by decide)) (fun _ => ?_)
  refine r_iload (q136 (i := 172) rfl) rfl ?_
  refine r_iconst (v := 1) (q136 (i := 173) rfl) (by decide) ?_
  refine r_ixor (q136 (i := 174) rfl) ?_
  rw [show ((nI (r1.1 ^^^ 1)) ^^^ 1 : Int32) = nI r1.1 from xor11 _]
  refine r_goto 287 (q136 (i := 175) rfl) (by decide) ?_
  exact r_iret (q136 (i := 177) rfl) rfl hQ
set_option maxHeartbeats 2000000 in
set_option maxRecDepth 10000 in
theorem gof0_5 {d : Nat} {h : hp} (S : Sh h) {n g : Nat} {st : gs × (Nat → Nat)} (e1 : hI h 47 1 = nI n) (G : MG h n st.1) (Mk : gmade n g st) (K : cok n (cirA h) g) (hl : ∀ i, i < g → hI h 66 i = nI (st.2 i)) (hn : n ≤ 12) (hg : g < 120) (hC : gC st.1 + 4 < 1000) (hk : (cirA h).1 g = nI 5) : ∃ h', Run (d + 2 + 1) 136 [.ref 47, .int 0, .int (nI g)] h 0 0 (some (.int (nI (gop n (cirA h) st g).1))) h' ∧ MG h' n (gop n (cirA h) st g).2 ∧ FrGM h h' := by
  have hgo := gop_is (n := n) (st := st) hk (by decide)
  have q : (cirA h).1 g ≠ 8 := by rw [hk]; decide
  obtain ⟨a, ea⟩ : ∃ a, a = sd n st.2 (hI h 54 g) := ⟨_, rfl⟩
  obtain ⟨b, eb⟩ : ∃ b, b = sd n st.2 (hI h 57 g) := ⟨_, rfl⟩
  have ha : a < 2 * gC st.1 := by rw [ea]; exact sd_lt Mk (by omega) (K.2.1 q).1
  have hb : b < 2 * gC st.1 := by rw [eb]; exact sd_lt Mk (by omega) (K.2.1 q).2
  have Ra := sp_side0 (d := d + 1) (s := hI h 54 g) S e1 hl hn (by omega) (K.2.1 q).1
  have Rb := sp_side0 (d := d + 1) (s := hI h 57 g) S e1 hl hn (by omega) (K.2.1 q).2
  rw [← ea] at Ra
  rw [← eb] at Rb
  obtain ⟨r1, er1⟩ : ∃ r, r = gand n st.1 (a) (b ^^^ 1) := ⟨_, rfl⟩
  obtain ⟨h1, R1, G1, F1, ok1⟩ := sp_mand (d := d) S e1 G (by omega) Mk.1 (by omega) (xor1_lt (by omega)) er1
  obtain ⟨w1, u1, v1, x1⟩ := ok1
  have S1 := F1.S S
  have e1_1 : hI h1 47 1 = nI n := (F1.2.2.1 1 (by decide)).trans e1
  obtain ⟨r2, er2⟩ : ∃ r, r = gand n r1.2 (a ^^^ 1) (b) := ⟨_, rfl⟩
  obtain ⟨h2, R2, G2, F2, ok2⟩ := sp_mand (d := d) S1 e1_1 G1 (by omega) w1 (xor1_lt (by omega)) (by omega) er2
  obtain ⟨w2, u2, v2, x2⟩ := ok2
  have S2 := F2.S S1
  have e1_2 : hI h2 47 1 = nI n := (F2.2.2.1 1 (by decide)).trans e1_1
  obtain ⟨r3, er3⟩ : ∃ r, r = gand n r2.2 (r1.1 ^^^ 1) (r2.1 ^^^ 1) := ⟨_, rfl⟩
  obtain ⟨h3, R3, G3, F3, ok3⟩ := sp_mand (d := d) S2 e1_2 G2 (by omega) w2 (xor1_lt (by omega)) (xor1_lt (by omega)) er3
  obtain ⟨w3, u3, v3, x3⟩ := ok3
  have S3 := F3.S S2
  have e1_3 : hI h3 47 1 = nI n := (F3.2.2.1 1 (by decide)).trans e1_2
  have hgo2 : gop n (cirA h) st g = (r3.1 ^^^ 1 ^^^ 1, r3.2) := by
    rw [hgo, er3, er2, er1, ea, eb]
    rfl
  refine ⟨h3, ?_, by rw [hgo2]; exact G3, ((F1.tr F2).tr F3)⟩
  rw [hgo2]
  refine Run.of (d := d + 2) (Nat.le_of_ble_eq_true rfl) (fun Q hQ => ?_)
  show Wp (Ex (d + 2)) 136 Q 0 [(0, .ref 47), (1, .int 0), (2, .int (nI g))] [] h 0 0
  refine r_aload_n (q136 (i := 0) rfl) rfl ?_
  refine r_getR (b := 50) (q136 (i := 1) rfl) rfl (by decide) (k_47 S) (fun _ _ _ => rfl) (r_47_4 S) ?_
  refine r_iload_n (q136 (i := 2) rfl) rfl ?_
  refine r_aaload5 (q136 (i := 3) rfl) (k_50 S) (vp_in_nI (n := 0) (by decide) (by decide)) (r_50_0 S) ?_
  refine r_iload_n (q136 (i := 4) rfl) rfl ?_
  refine r_iaN (x := 5) (q136 (i := 5) rfl) (k_51 S) (by omega) (by decide) hk ?_
  refine r_istore_n (ls' := [(3, .int 5), (0, .ref 47), (1, .int 0), (2, .int (nI g))]) (q136 (i := 6) rfl) (Nat.le_of_ble_eq_true rfl) rfl ?_
  refine r_iload_n (q136 (i := 7) rfl) rfl ?_
  refine r_bipush (v := 8) (q136 (i := 8) rfl) (by decide) ?_
  refine r_icmp 17 (q136 (i := 9) rfl) (by decide) (fun _ => ?_) (fun zz => absurd (show ¬ (5 : Int32) = 8 from by decide) zz)
  refine r_aload_n (q136 (i := 12) rfl) rfl ?_
  refine r_iload_n (q136 (i := 13) rfl) rfl ?_
  refine r_aload_n (q136 (i := 14) rfl) rfl ?_
  refine r_getR (b := 53) (q136 (i := 15) rfl) rfl (by decide) (k_47 S) (fun _ _ _ => rfl) (r_47_5 S) ?_
  refine r_iload_n (q136 (i := 16) rfl) rfl ?_
  refine r_aaload5 (q136 (i := 17) rfl) (k_53 S) (vp_in_nI (n := 0) (by decide) (by decide)) (r_53_0 S) ?_
  refine r_iload_n (q136 (i := 18) rfl) rfl ?_
  refine r_iaN (x := hI h 54 g) (q136 (i := 19) rfl) (k_54 S) (by omega) (by decide) rfl ?_
  refine r_cV (d := _) (q136 (i := 20) rfl) rfl rfl rfl (k_47 S) (Nat.le_of_ble_eq_true rfl) (Nat.zero_le _) (Nat.zero_le _) Ra ?_
  show Wp _ _ _ 30 [(3, .int 5), (0, .ref 47), (1, .int 0), (2, .int (nI g))] [.int (nI a)] h _ _
  refine r_istore (ls' := [(4, .int (nI a)), (3, .int 5), (0, .ref 47), (1, .int 0), (2, .int (nI g))]) (q136 (i := 21) rfl) (Nat.le_of_ble_eq_true rfl) rfl ?_
  refine r_aload_n (q136 (i := 22) rfl) rfl ?_
  refine r_iload_n (q136 (i := 23) rfl) rfl ?_
  refine r_aload_n (q136 (i := 24) rfl) rfl ?_
  refine r_getR (b := 56) (q136 (i := 25) rfl) rfl (by decide) (k_47 S) (fun _ _ _ => rfl) (r_47_6 S) ?_
  refine r_iload_n (q136 (i := 26) rfl) rfl ?_
  refine r_aaload5 (q136 (i := 27) rfl) (k_56 S) (vp_in_nI (n := 0) (by decide) (by decide)) (r_56_0 S) ?_
  refine r_iload_n (q136 (i := 28) rfl) rfl ?_
  refine r_iaN (x := hI h 57 g) (q136 (i := 29) rfl) (k_57 S) (by omega) (by decide) rfl ?_
  refine r_cV (d := _) (q136 (i := 30) rfl) rfl rfl rfl (k_47 S) (Nat.le_of_ble_eq_true rfl) (Nat.zero_le _) (Nat.zero_le _) Rb ?_
  show Wp _ _ _ 45 [(4, .int (nI a)), (3, .int 5), (0, .ref 47), (1, .int 0), (2, .int (nI g))] [.int (nI b)] h _ _
  refine r_istore (ls' := [(5, .int (nI b)), (4, .int (nI a)), (3, .int 5), (0, .ref 47), (1, .int 0), (2, .int (nI g))]) (q136 (i := 31) rfl) (Nat.le_of_ble_eq_true rfl) rfl ?_
  refine r_iload_n (q136 (i := 32) rfl) rfl ?_
  refine r_if 56 (q136 (i := 33) rfl) (by decide) (fun zz => absurd zz (show ¬ ((5 : Int32) = 0) from by decide)) (fun _ => ?_)
  refine r_iload_n (q136 (i := 34) rfl) rfl ?_
  refine r_iconst (v := 3) (q136 (i := 35) rfl) (by decide) ?_
  refine r_icmp 69 (q136 (i := 36) rfl) (by decide) (fun _ => ?_) (fun zz => absurd (show ¬ (5 : Int32) = 3 from by decide) zz)
  refine r_iload_n (q136 (i := 43) rfl) rfl ?_
  refine r_iconst (v := 1) (q136 (i := 44) rfl) (by decide) ?_
  refine r_icmp 79 (q136 (i := 45) rfl) (by decide) (fun zz => absurd zz (show ¬ ((5 : Int32) = 1) from by decide)) (fun _ => ?_)
  refine r_iload_n (q136 (i := 46) rfl) rfl ?_
  refine r_iconst (v := 4) (q136 (i := 47) rfl) (by decide) ?_
  refine r_icmp 98 (q136 (i := 48) rfl) (by decide) (fun _ => ?_) (fun zz => absurd (show ¬ (5 : Int32) = 4 from by decide) zz)
  refine r_iload_n (q136 (i := 61) rfl) rfl ?_
  refine r_iconst (v := 2) (q136 (i := 62) rfl) (by decide) ?_
  refine r_icmp 108 (q136 (i := 63) rfl) (by decide) (fun zz => absurd zz (show ¬ ((5 : Int32) = 2) from by decide)) (fun _ => ?_)
  refine r_iload_n (q136 (i := 64) rfl) rfl ?_
  refine r_iconst (v := 5) (q136 (i := 65) rfl) (by decide) ?_
  refine r_icmp 151 (q136 (i := 66) rfl) (by decide) (fun zz => absurd zz (show ¬ (¬ (5 : Int32) = 5) from by decide)) (fun _ => ?_)
  refine r_aload_n (q136 (i := 67) rfl) rfl ?_
  refine r_iload (q136 (i := 68) rfl) rfl ?_
  refine r_iload (q136 (i := 69) rfl) rfl ?_
  refine r_iconst (v := 1) (q136 (i := 70) rfl) (by decide) ?_
  refine r_ixor (q136 (i := 71) rfl) ?_
  rw [show ((nI b) ^^^ 1 : Int32) = nI (b ^^^ 1) from xor1 _]
  refine r_cV (d := _) (q136 (i := 72) rfl) rfl rfl rfl (k_47 S) (Nat.le_of_ble_eq_true rfl) (Nat.zero_le _) (Nat.zero_le _) R1 ?_
  show Wp _ _ _ 118 [(5, .int (nI b)), (4, .int (nI a)), (3, .int 5), (0, .ref 47), (1, .int 0), (2, .int (nI g))] [.int (nI r1.1)] h1 _ _
  refine r_istore (ls' := [(7, .int (nI r1.1)), (5, .int (nI b)), (4, .int (nI a)), (3, .int 5), (0, .ref 47), (1, .int 0), (2, .int (nI g))]) (q136 (i := 73) rfl) (Nat.le_of_ble_eq_true rfl) rfl ?_
  refine r_aload_n (q136 (i := 74) rfl) rfl ?_
  refine r_iload (q136 (i := 75) rfl) rfl ?_
  refine r_iconst (v := 1) (q136 (i := 76) rfl) (by decide) ?_
  refine r_ixor (q136 (i := 77) rfl) ?_
  rw [show ((nI a) ^^^ 1 : Int32) = nI (a ^^^ 1) from xor1 _]
  refine r_iload (q136 (i := 78) rfl) rfl ?_
  refine r_cV (d := _) (q136 (i := 79) rfl) rfl rfl rfl (k_47 S1) (Nat.le_of_ble_eq_true rfl) (Nat.zero_le _) (Nat.zero_le _) R2 ?_
  show Wp _ _ _ 130 [(7, .int (nI r1.1)), (5, .int (nI b)), (4, .int (nI a)), (3, .int 5), (0, .ref 47), (1, .int 0), (2, .int (nI g))] [.int (nI r2.1)] h2 _ _
  refine r_istore (ls' := [(8, .int (nI r2.1)), (7, .int (nI r1.1)), (5, .int (nI b)), (4, .int (nI a)), (3, .int 5), (0, .ref 47), (1, .int 0), (2, .int (nI g))]) (q136 (i := 80) rfl) (Nat.le_of_ble_eq_true rfl) rfl ?_
  refine r_aload_n (q136 (i := 81) rfl) rfl ?_
  refine r_iload (q136 (i := 82) rfl) rfl ?_
  refine r_iconst (v := 1) (q136 (i := 83) rfl) (by decide) ?_
  refine r_ixor (q136 (i := 84) rfl) ?_
  rw [show ((nI r1.1) ^^^ 1 : Int32) = nI (r1.1 ^^^ 1) from xor1 _]
  refine r_iload (q136 (i := 85) rfl) rfl ?_
  refine r_iconst (v := 1) (q136 (i := 86) rfl) (by decide) ?_
  refine r_ixor (q136 (i := 87) rfl) ?_
  rw [show ((nI r2.1) ^^^ 1 : Int32) = nI (r2.1 ^^^ 1) from xor1 _]
  refine r_cV (d := _) (q136 (i := 88) rfl) rfl rfl rfl (k_47 S2) (Nat.le_of_ble_eq_true rfl) (Nat.zero_le _) (Nat.zero_le _) R3 ?_
  show Wp _ _ _ 144 [(8, .int (nI r2.1)), (7, .int (nI r1.1)), (5, .int (nI b)), (4, .int (nI a)), (3, .int 5), (0, .ref 47), (1, .int 0), (2, .int (nI g))] [.int (nI r3.1)] h3 _ _
  refine r_iconst (v := 1) (q136 (i := 89) rfl) (by decide) ?_
  refine r_ixor (q136 (i := 90) rfl) ?_
  rw [show ((nI r3.1) ^^^ 1 : Int32) = nI (r3.1 ^^^ 1) from xor1 _]
  refine r_istore (ls' := [(6, .int (nI (r3.1 ^^^ 1))), (8, .int (nI r2.1)), (7, .int (nI r1.1)), (5, .int (nI b)), (4, .int (nI a)), (3, .int 5), (0, .ref 47), (1, .int 0), (2, .int (nI g))]) (q136 (i := 91) rfl) (Nat.le_of_ble_eq_true rfl) rfl ?_
  refine r_goto 268 (q136 (i := 92) rfl) (by decide) ?_
  refine r_iload_n (q136 (i := 166) rfl) rfl ?_
  refine r_iconst (v := 3) (q136 (i := 167) rfl) (by decide) ?_
  refine r_icmp 285 (q136 (i := 168) rfl) (by decide) (fun zz => absurd zz (show ¬ ((5 : Int32) < 3) from by decide)) (fun _ => ?_)
  refine r_iload_n (q136 (i := 169) rfl) rfl ?_
  refine r_iconst (v := 5) (q136 (i := 170) rfl) (by decide) ?_
  refine r_icmp 285 (q136 (i := 171) rfl) (by decide) (fun zz => absurd zz (show ¬ (5 < (5 : Int32)) from by decide)) (fun _ => ?_)
  refine r_iload (q136 (i := 172) rfl) rfl ?_
  refine r_iconst (v := 1) (q136 (i := 173) rfl) (by decide) ?_
  refine r_ixor (q136 (i := 174) rfl) ?_
  rw [show ((nI (r3.1 ^^^ 1)) ^^^ 1 : Int32) = nI (r3.1 ^^^ 1 ^^^ 1) from xor1 _]
  refine r_goto 287 (q136 (i := 175) rfl) (by decide) ?_
  exact r_iret (q136 (i := 177) rfl) rfl hQ
set_option maxHeartbeats 2000000 in
set_option maxRecDepth 10000 in
theorem gof0_6 {d : Nat} {h : hp} (S : Sh h) {n g : Nat} {st : gs × (Nat → Nat)} (e1 : hI h 47 1 = nI n) (G : MG h n st.1) (Mk : gmade n g st) (K : cok n (cirA h) g) (hl : ∀ i, i < g → hI h 66 i = nI (st.2 i)) (hn : n ≤ 12) (hg : g < 120) (hC : gC st.1 + 4 < 1000) (hk : (cirA h).1 g = nI 6) : ∃ h', Run (d + 2 + 1) 136 [.ref 47, .int 0, .int (nI g)] h 0 0 (some (.int (nI (gop n (cirA h) st g).1))) h' ∧ MG h' n (gop n (cirA h) st g).2 ∧ FrGM h h' := by
  have hgo := gop_is (n := n) (st := st) hk (by decide)
  have q : (cirA h).1 g ≠ 8 := by rw [hk]; decide
  obtain ⟨a, ea⟩ : ∃ a, a = sd n st.2 (hI h 54 g) := ⟨_, rfl⟩
  obtain ⟨b, eb⟩ : ∃ b, b = sd n st.2 (hI h 57 g) := ⟨_, rfl⟩
  have ha : a < 2 * gC st.1 := by rw [ea]; exact sd_lt Mk (by omega) (K.2.1 q).1
  have hb : b < 2 * gC st.1 := by rw [eb]; exact sd_lt Mk (by omega) (K.2.1 q).2
  have Ra := sp_side0 (d := d + 1) (s := hI h 54 g) S e1 hl hn (by omega) (K.2.1 q).1
  have Rb := sp_side0 (d := d + 1) (s := hI h 57 g) S e1 hl hn (by omega) (K.2.1 q).2
  rw [← ea] at Ra
  rw [← eb] at Rb
  obtain ⟨r1, er1⟩ : ∃ r, r = gand n st.1 (a) (b) := ⟨_, rfl⟩
  obtain ⟨h1, R1, G1, F1, ok1⟩ := sp_mand (d := d) S e1 G (by omega) Mk.1 (by omega) (by omega) er1
  obtain ⟨w1, u1, v1, x1⟩ := ok1
  have S1 := F1.S S
  have e1_1 : hI h1 47 1 = nI n := (F1.2.2.1 1 (by decide)).trans e1
  have q3 : (cirA h).1 g = 6 ∨ (cirA h).1 g = 7 := by rw [hk]; decide
  obtain ⟨e, ee⟩ : ∃ e, e = sd n st.2 (hI h 60 g) := ⟨_, rfl⟩
  have he : e < 2 * gC st.1 := by rw [ee]; exact sd_lt Mk (by omega) (K.2.2 q3)
  have hl1 : ∀ i, i < g → hI h1 66 i = nI (st.2 i) := fun i hi => by rw [F1.2.1 66 (by decide) (by decide) (by decide)]; exact hl i hi
  have Rt := sp_side0 (d := d + 1) (s := hI h 60 g) S1 e1_1 hl1 hn (by omega) (K.2.2 q3)
  rw [← ee] at Rt
  obtain ⟨r2, er2⟩ : ∃ r, r = gand n r1.2 (a ^^^ 1) (e) := ⟨_, rfl⟩
  obtain ⟨h2, R2, G2, F2, ok2⟩ := sp_mand (d := d) S1 e1_1 G1 (by omega) w1 (xor1_lt (by omega)) (by omega) er2
  obtain ⟨w2, u2, v2, x2⟩ := ok2
  have S2 := F2.S S1
  have e1_2 : hI h2 47 1 = nI n := (F2.2.2.1 1 (by decide)).trans e1_1
  obtain ⟨r3, er3⟩ : ∃ r, r = gand n r2.2 (r1.1 ^^^ 1) (r2.1 ^^^ 1) := ⟨_, rfl⟩
  obtain ⟨h3, R3, G3, F3, ok3⟩ := sp_mand (d := d) S2 e1_2 G2 (by omega) w2 (xor1_lt (by omega)) (xor1_lt (by omega)) er3
  obtain ⟨w3, u3, v3, x3⟩ := ok3
  have S3 := F3.S S2
  have e1_3 : hI h3 47 1 = nI n := (F3.2.2.1 1 (by decide)).trans e1_2
  have hgo2 : gop n (cirA h) st g = (r3.1 ^^^ 1, r3.2) := by
    rw [hgo, er3, er2, er1, ea, eb, ee]
    rfl
  refine ⟨h3, ?_, by rw [hgo2]; exact G3, ((F1.tr F2).tr F3)⟩
  rw [hgo2]
  refine Run.of (d := d + 2) (Nat.le_of_ble_eq_true rfl) (fun Q hQ => ?_)
  show Wp (Ex (d + 2)) 136 Q 0 [(0, .ref 47), (1, .int 0), (2, .int (nI g))] [] h 0 0
  refine r_aload_n (q136 (i := 0) rfl) rfl ?_
  refine r_getR (b := 50) (q136 (i := 1) rfl) rfl (by decide) (k_47 S) (fun _ _ _ => rfl) (r_47_4 S) ?_
  refine r_iload_n (q136 (i := 2) rfl) rfl ?_
  refine r_aaload5 (q136 (i := 3) rfl) (k_50 S) (vp_in_nI (n := 0) (by decide) (by decide)) (r_50_0 S) ?_
  refine r_iload_n (q136 (i := 4) rfl) rfl ?_
  refine r_iaN (x := 6) (q136 (i := 5) rfl) (k_51 S) (by omega) (by decide) hk ?_
  refine r_istore_n (ls' := [(3, .int 6), (0, .ref 47), (1, .int 0), (2, .int (nI g))]) (q136 (i := 6) rfl) (Nat.le_of_ble_eq_true rfl) rfl ?_
  refine r_iload_n (q136 (i := 7) rfl) rfl ?_
  refine r_bipush (v := 8) (q136 (i := 8) rfl) (by decide) ?_
  refine r_icmp 17 (q136 (i := 9) rfl) (by decide) (fun _ => ?_) (fun zz => absurd (show ¬ (6 : Int32) = 8 from by decide) zz)
  refine r_aload_n (q136 (i := 12) rfl) rfl ?_
  refine r_iload_n (q136 (i := 13) rfl) rfl ?_
  refine r_aload_n (q136 (i := 14) rfl) rfl ?_
  refine r_getR (b := 53) (q136 (i := 15) rfl) rfl (by decide) (k_47 S) (fun _ _ _ => rfl) (r_47_5 S) ?_
  refine r_iload_n (q136 (i := 16) rfl) rfl ?_
  refine r_aaload5 (q136 (i := 17) rfl) (k_53 S) (vp_in_nI (n := 0) (by decide) (by decide)) (r_53_0 S) ?_
  refine r_iload_n (q136 (i := 18) rfl) rfl ?_
  refine r_iaN (x := hI h 54 g) (q136 (i := 19) rfl) (k_54 S) (by omega) (by decide) rfl ?_
  refine r_cV (d := _) (q136 (i := 20) rfl) rfl rfl rfl (k_47 S) (Nat.le_of_ble_eq_true rfl) (Nat.zero_le _) (Nat.zero_le _) Ra ?_
  show Wp _ _ _ 30 [(3, .int 6), (0, .ref 47), (1, .int 0), (2, .int (nI g))] [.int (nI a)] h _ _
  refine r_istore (ls' := [(4, .int (nI a)), (3, .int 6), (0, .ref 47), (1, .int 0), (2, .int (nI g))]) (q136 (i := 21) rfl) (Nat.le_of_ble_eq_true rfl) rfl ?_
  refine r_aload_n (q136 (i := 22) rfl) rfl ?_
  refine r_iload_n (q136 (i := 23) rfl) rfl ?_
  refine r_aload_n (q136 (i := 24) rfl) rfl ?_
  refine r_getR (b := 56) (q136 (i := 25) rfl) rfl (by decide) (k_47 S) (fun _ _ _ => rfl) (r_47_6 S) ?_
  refine r_iload_n (q136 (i := 26) rfl) rfl ?_
  refine r_aaload5 (q136 (i := 27) rfl) (k_56 S) (vp_in_nI (n := 0) (by decide) (by decide)) (r_56_0 S) ?_
  refine r_iload_n (q136 (i := 28) rfl) rfl ?_
  refine r_iaN (x := hI h 57 g) (q136 (i := 29) rfl) (k_57 S) (by omega) (by decide) rfl ?_
  refine r_cV (d := _) (q136 (i := 30) rfl) rfl rfl rfl (k_47 S) (Nat.le_of_ble_eq_true rfl) (Nat.zero_le _) (Nat.zero_le _) Rb ?_
  show Wp _ _ _ 45 [(4, .int (nI a)), (3, .int 6), (0, .ref 47), (1, .int 0), (2, .int (nI g))] [.int (nI b)] h _ _
  refine r_istore (ls' := [(5, .int (nI b)), (4, .int (nI a)), (3, .int 6), (0, .ref 47), (1, .int 0), (2, .int (nI g))]) (q136 (i := 31) rfl) (Nat.le_of_ble_eq_true rfl) rfl ?_
  refine r_iload_n (q136 (i := 32) rfl) rfl ?_
  refine r_if 56 (q136 (i := 33) rfl) (by decide) (fun zz => absurd zz (show ¬ ((6 : Int32) = 0) from by decide)) (fun _ => ?_)
  refine r_iload_n (q136 (i := 34) rfl) rfl ?_
  refine r_iconst (v := 3) (q136 (i := 35) rfl) (by decide) ?_
  refine r_icmp 69 (q136 (i := 36) rfl) (by decide) (fun _ => ?_) (fun zz => absurd (show ¬ (6 : Int32) = 3 from by decide) zz)
  refine r_iload_n (q136 (i := 43) rfl) rfl ?_
  refine r_iconst (v := 1) (q136 (i := 44) rfl) (by decide) ?_
  refine r_icmp 79 (q136 (i := 45) rfl) (by decide) (fun zz => absurd zz (show ¬ ((6 : Int32) = 1) from by decide)) (fun _ => ?_)
  refine r_iload_n (q136 (i := 46) rfl) rfl ?_
  refine r_iconst (v := 4) (q136 (i := 47) rfl) (by decide) ?_
  refine r_icmp 98 (q136 (i := 48) rfl) (by decide) (fun _ => ?_) (fun zz => absurd (show ¬ (6 : Int32) = 4 from by decide) zz)
  refine r_iload_n (q136 (i := 61) rfl) rfl ?_
  refine r_iconst (v := 2) (q136 (i := 62) rfl) (by decide) ?_
  refine r_icmp 108 (q136 (i := 63) rfl) (by decide) (fun zz => absurd zz (show ¬ ((6 : Int32) = 2) from by decide)) (fun _ => ?_)
  refine r_iload_n (q136 (i := 64) rfl) rfl ?_
  refine r_iconst (v := 5) (q136 (i := 65) rfl) (by decide) ?_
  refine r_icmp 151 (q136 (i := 66) rfl) (by decide) (fun _ => ?_) (fun zz => absurd (show ¬ (6 : Int32) = 5 from by decide) zz)
  refine r_iload_n (q136 (i := 93) rfl) rfl ?_
  refine r_bipush (v := 6) (q136 (i := 94) rfl) (by decide) ?_
  refine r_icmp 209 (q136 (i := 95) rfl) (by decide) (fun zz => absurd zz (show ¬ (¬ (6 : Int32) = 6) from by decide)) (fun _ => ?_)
  refine r_aload_n (q136 (i := 96) rfl) rfl ?_
  refine r_iload (q136 (i := 97) rfl) rfl ?_
  refine r_iload (q136 (i := 98) rfl) rfl ?_
  refine r_cV (d := _) (q136 (i := 99) rfl) rfl rfl rfl (k_47 S) (Nat.le_of_ble_eq_true rfl) (Nat.zero_le _) (Nat.zero_le _) R1 ?_
  show Wp _ _ _ 165 [(5, .int (nI b)), (4, .int (nI a)), (3, .int 6), (0, .ref 47), (1, .int 0), (2, .int (nI g))] [.int (nI r1.1)] h1 _ _
  refine r_istore (ls' := [(7, .int (nI r1.1)), (5, .int (nI b)), (4, .int (nI a)), (3, .int 6), (0, .ref 47), (1, .int 0), (2, .int (nI g))]) (q136 (i := 100) rfl) (Nat.le_of_ble_eq_true rfl) rfl ?_
  refine r_aload_n (q136 (i := 101) rfl) rfl ?_
  refine r_iload (q136 (i := 102) rfl) rfl ?_
  refine r_iconst (v := 1) (q136 (i := 103) rfl) (by decide) ?_
  refine r_ixor (q136 (i := 104) rfl) ?_
  rw [show ((nI a) ^^^ 1 : Int32) = nI (a ^^^ 1) from xor1 _]
  refine r_aload_n (q136 (i := 105) rfl) rfl ?_
  refine r_iload_n (q136 (i := 106) rfl) rfl ?_
  refine r_aload_n (q136 (i := 107) rfl) rfl ?_
  refine r_getR (b := 59) (q136 (i := 108) rfl) rfl (by decide) (k_47 S1) (fun _ _ _ => rfl) (r_47_7 S1) ?_
  refine r_iload_n (q136 (i := 109) rfl) rfl ?_
  refine r_aaload5 (q136 (i := 110) rfl) (k_59 S1) (vp_in_nI (n := 0) (by decide) (by decide)) (r_59_0 S1) ?_
  refine r_iload_n (q136 (i := 111) rfl) rfl ?_
  refine r_iaN (x := hI h 60 g) (q136 (i := 112) rfl) (k_60 S1) (by omega) (by decide) (congrFun (F1.2.1 60 (by decide) (by decide) (by decide)) g) ?_
  refine r_cV (d := _) (q136 (i := 113) rfl) rfl rfl rfl (k_47 S1) (Nat.le_of_ble_eq_true rfl) (Nat.zero_le _) (Nat.zero_le _) Rt ?_
  show Wp _ _ _ 185 [(7, .int (nI r1.1)), (5, .int (nI b)), (4, .int (nI a)), (3, .int 6), (0, .ref 47), (1, .int 0), (2, .int (nI g))] [.int (nI e), .int (nI (a ^^^ 1)), .ref 47] h1 _ _
  refine r_cV (d := _) (q136 (i := 114) rfl) rfl rfl rfl (k_47 S1) (Nat.le_of_ble_eq_true rfl) (Nat.zero_le _) (Nat.zero_le _) R2 ?_
  show Wp _ _ _ 188 [(7, .int (nI r1.1)), (5, .int (nI b)), (4, .int (nI a)), (3, .int 6), (0, .ref 47), (1, .int 0), (2, .int (nI g))] [.int (nI r2.1)] h2 _ _
  refine r_istore (ls' := [(8, .int (nI r2.1)), (7, .int (nI r1.1)), (5, .int (nI b)), (4, .int (nI a)), (3, .int 6), (0, .ref 47), (1, .int 0), (2, .int (nI g))]) (q136 (i := 115) rfl) (Nat.le_of_ble_eq_true rfl) rfl ?_
  refine r_aload_n (q136 (i := 116) rfl) rfl ?_
  refine r_iload (q136 (i := 117) rfl) rfl ?_
  refine r_iconst (v := 1) (q136 (i := 118) rfl) (by decide) ?_
  refine r_ixor (q136 (i := 119) rfl) ?_
  rw [show ((nI r1.1) ^^^ 1 : Int32) = nI (r1.1 ^^^ 1) from xor1 _]
  refine r_iload (q136 (i := 120) rfl) rfl ?_
  refine r_iconst (v := 1) (q136 (i := 121) rfl) (by decide) ?_
  refine r_ixor (q136 (i := 122) rfl) ?_
  rw [show ((nI r2.1) ^^^ 1 : Int32) = nI (r2.1 ^^^ 1) from xor1 _]
  refine r_cV (d := _) (q136 (i := 123) rfl) rfl rfl rfl (k_47 S2) (Nat.le_of_ble_eq_true rfl) (Nat.zero_le _) (Nat.zero_le _) R3 ?_
  show Wp _ _ _ 202 [(8, .int (nI r2.1)), (7, .int (nI r1.1)), (5, .int (nI b)), (4, .int (nI a)), (3, .int 6), (0, .ref 47), (1, .int 0), (2, .int (nI g))] [.int (nI r3.1)] h3 _ _
  refine r_iconst (v := 1) (q136 (i := 124) rfl) (by decide) ?_
  refine r_ixor (q136 (i := 125) rfl) ?_
  rw [show ((nI r3.1) ^^^ 1 : Int32) = nI (r3.1 ^^^ 1) from xor1 _]
  refine r_istore (ls' := [(6, .int (nI (r3.1 ^^^ 1))), (8, .int (nI r2.1)), (7, .int (nI r1.1)), (5, .int (nI b)), (4, .int (nI a)), (3, .int 6), (0, .ref 47), (1, .int 0), (2, .int (nI g))]) (q136 (i := 126) rfl) (Nat.le_of_ble_eq_true rfl) rfl ?_
  refine r_goto 268 (q136 (i := 127) rfl) (by decide) ?_
  refine r_iload_n (q136 (i := 166) rfl) rfl ?_
  refine r_iconst (v := 3) (q136 (i := 167) rfl) (by decide) ?_
  refine r_icmp 285 (q136 (i := 168) rfl) (by decide) (fun zz => absurd zz (show ¬ ((6 : Int32) < 3) from by decide)) (fun _ => ?_)
  refine r_iload_n (q136 (i := 169) rfl) rfl ?_
  refine r_iconst (v := 5) (q136 (i := 170) rfl) (by decide) ?_
  refine r_icmp 285 (q136 (i := 171) rfl) (by decide) (fun _ => ?_) (fun zz => absurd (show 5 < (6 : Int32) from by decide) zz)
  refine r_iload (q136 (i := 176) rfl) rfl ?_
  exact r_iret (q136 (i := 177) rfl) rfl hQ
set_option maxHeartbeats 2000000 in
set_option maxRecDepth 10000 in
theorem gof0_7 {d : Nat} {h : hp} (S : Sh h) {n g : Nat} {st : gs × (Nat → Nat)} (e1 : hI h 47 1 = nI n) (G : MG h n st.1) (Mk : gmade n g st) (K : cok n (cirA h) g) (hl : ∀ i, i < g → hI h 66 i = nI (st.2 i)) (hn : n ≤ 12) (hg : g < 120) (hC : gC st.1 + 4 < 1000) (hk : (cirA h).1 g = nI 7) : ∃ h', Run (d + 2 + 1) 136 [.ref 47, .int 0, .int (nI g)] h 0 0 (some (.int (nI (gop n (cirA h) st g).1))) h' ∧ MG h' n (gop n (cirA h) st g).2 ∧ FrGM h h' := by
  have hgo := gop_is (n := n) (st := st) hk (by decide)
  have q : (cirA h).1 g ≠ 8 := by rw [hk]; decide
  obtain ⟨a, ea⟩ : ∃ a, a = sd n st.2 (hI h 54 g) := ⟨_, rfl⟩
  obtain ⟨b, eb⟩ : ∃ b, b = sd n st.2 (hI h 57 g) := ⟨_, rfl⟩
  have ha : a < 2 * gC st.1 := by rw [ea]; exact sd_lt Mk (by omega) (K.2.1 q).1
  have hb : b < 2 * gC st.1 := by rw [eb]; exact sd_lt Mk (by omega) (K.2.1 q).2
  have Ra := sp_side0 (d := d + 1) (s := hI h 54 g) S e1 hl hn (by omega) (K.2.1 q).1
  have Rb := sp_side0 (d := d + 1) (s := hI h 57 g) S e1 hl hn (by omega) (K.2.1 q).2
  rw [← ea] at Ra
  rw [← eb] at Rb
  obtain ⟨r1, er1⟩ : ∃ r, r = gand n st.1 (a) (b) := ⟨_, rfl⟩
  obtain ⟨h1, R1, G1, F1, ok1⟩ := sp_mand (d := d) S e1 G (by omega) Mk.1 (by omega) (by omega) er1
  obtain ⟨w1, u1, v1, x1⟩ := ok1
  have S1 := F1.S S
  have e1_1 : hI h1 47 1 = nI n := (F1.2.2.1 1 (by decide)).trans e1
  have q3 : (cirA h).1 g = 6 ∨ (cirA h).1 g = 7 := by rw [hk]; decide
  obtain ⟨e, ee⟩ : ∃ e, e = sd n st.2 (hI h 60 g) := ⟨_, rfl⟩
  have he : e < 2 * gC st.1 := by rw [ee]; exact sd_lt Mk (by omega) (K.2.2 q3)
  have hl1 : ∀ i, i < g → hI h1 66 i = nI (st.2 i) := fun i hi => by rw [F1.2.1 66 (by decide) (by decide) (by decide)]; exact hl i hi
  have Rt := sp_side0 (d := d + 1) (s := hI h 60 g) S1 e1_1 hl1 hn (by omega) (K.2.2 q3)
  rw [← ee] at Rt
  obtain ⟨r2, er2⟩ : ∃ r, r = gand n r1.2 (a ^^^ 1) (b ^^^ 1) := ⟨_, rfl⟩
  obtain ⟨h2, R2, G2, F2, ok2⟩ := sp_mand (d := d) S1 e1_1 G1 (by omega) w1 (xor1_lt (by omega)) (xor1_lt (by omega)) er2
  obtain ⟨w2, u2, v2, x2⟩ := ok2
  have S2 := F2.S S1
  have e1_2 : hI h2 47 1 = nI n := (F2.2.2.1 1 (by decide)).trans e1_1
  obtain ⟨r3, er3⟩ : ∃ r, r = gand n r2.2 (e) (r2.1 ^^^ 1) := ⟨_, rfl⟩
  obtain ⟨h3, R3, G3, F3, ok3⟩ := sp_mand (d := d) S2 e1_2 G2 (by omega) w2 (by omega) (xor1_lt (by omega)) er3
  obtain ⟨w3, u3, v3, x3⟩ := ok3
  have S3 := F3.S S2
  have e1_3 : hI h3 47 1 = nI n := (F3.2.2.1 1 (by decide)).trans e1_2
  obtain ⟨r4, er4⟩ : ∃ r, r = gand n r3.2 (r1.1 ^^^ 1) (r3.1 ^^^ 1) := ⟨_, rfl⟩
  obtain ⟨h4, R4, G4, F4, ok4⟩ := sp_mand (d := d) S3 e1_3 G3 (by omega) w3 (xor1_lt (by omega)) (xor1_lt (by omega)) er4
  obtain ⟨w4, u4, v4, x4⟩ := ok4
  have S4 := F4.S S3
  have e1_4 : hI h4 47 1 = nI n := (F4.2.2.1 1 (by decide)).trans e1_3
  have hgo2 : gop n (cirA h) st g = (r4.1 ^^^ 1, r4.2) := by
    rw [hgo, er4, er3, er2, er1, ea, eb, ee]
    rfl
  refine ⟨h4, ?_, by rw [hgo2]; exact G4, (((F1.tr F2).tr F3).tr F4)⟩
  rw [hgo2]
  refine Run.of (d := d + 2) (Nat.le_of_ble_eq_true rfl) (fun Q hQ => ?_)
  show Wp (Ex (d + 2)) 136 Q 0 [(0, .ref 47), (1, .int 0), (2, .int (nI g))] [] h 0 0
  refine r_aload_n (q136 (i := 0) rfl) rfl ?_
  refine r_getR (b := 50) (q136 (i := 1) rfl) rfl (by decide) (k_47 S) (fun _ _ _ => rfl) (r_47_4 S) ?_
  refine r_iload_n (q136 (i := 2) rfl) rfl ?_
  refine r_aaload5 (q136 (i := 3) rfl) (k_50 S) (vp_in_nI (n := 0) (by decide) (by decide)) (r_50_0 S) ?_
  refine r_iload_n (q136 (i := 4) rfl) rfl ?_
  refine r_iaN (x := 7) (q136 (i := 5) rfl) (k_51 S) (by omega) (by decide) hk ?_
  refine r_istore_n (ls' := [(3, .int 7), (0, .ref 47), (1, .int 0), (2, .int (nI g))]) (q136 (i := 6) rfl) (Nat.le_of_ble_eq_true rfl) rfl ?_
  refine r_iload_n (q136 (i := 7) rfl) rfl ?_
  refine r_bipush (v := 8) (q136 (i := 8) rfl) (by decide) ?_
  refine r_icmp 17 (q136 (i := 9) rfl) (by decide) (fun _ => ?_) (fun zz => absurd (show ¬ (7 : Int32) = 8 from by decide) zz)
  refine r_aload_n (q136 (i := 12) rfl) rfl ?_
  refine r_iload_n (q136 (i := 13) rfl) rfl ?_
  refine r_aload_n (q136 (i := 14) rfl) rfl ?_
  refine r_getR (b := 53) (q136 (i := 15) rfl) rfl (by decide) (k_47 S) (fun _ _ _ => rfl) (r_47_5 S) ?_
  refine r_iload_n (q136 (i := 16) rfl) rfl ?_
  refine r_aaload5 (q136 (i := 17) rfl) (k_53 S) (vp_in_nI (n := 0) (by decide) (by decide)) (r_53_0 S) ?_
  refine r_iload_n (q136 (i := 18) rfl) rfl ?_
  refine r_iaN (x := hI h 54 g) (q136 (i := 19) rfl) (k_54 S) (by omega) (by decide) rfl ?_
  refine r_cV (d := _) (q136 (i := 20) rfl) rfl rfl rfl (k_47 S) (Nat.le_of_ble_eq_true rfl) (Nat.zero_le _) (Nat.zero_le _) Ra ?_
  show Wp _ _ _ 30 [(3, .int 7), (0, .ref 47), (1, .int 0), (2, .int (nI g))] [.int (nI a)] h _ _
  refine r_istore (ls' := [(4, .int (nI a)), (3, .int 7), (0, .ref 47), (1, .int 0), (2, .int (nI g))]) (q136 (i := 21) rfl) (Nat.le_of_ble_eq_true rfl) rfl ?_
  refine r_aload_n (q136 (i := 22) rfl) rfl ?_
  refine r_iload_n (q136 (i := 23) rfl) rfl ?_
  refine r_aload_n (q136 (i := 24) rfl) rfl ?_
  refine r_getR (b := 56) (q136 (i := 25) rfl) rfl (by decide) (k_47 S) (fun _ _ _ => rfl) (r_47_6 S) ?_
  refine r_iload_n (q136 (i := 26) rfl) rfl ?_
  refine r_aaload5 (q136 (i := 27) rfl) (k_56 S) (vp_in_nI (n := 0) (by decide) (by decide)) (r_56_0 S) ?_
  refine r_iload_n (q136 (i := 28) rfl) rfl ?_
  refine r_iaN (x := hI h 57 g) (q136 (i := 29) rfl) (k_57 S) (by omega) (by decide) rfl ?_
  refine r_cV (d := _) (q136 (i := 30) rfl) rfl rfl rfl (k_47 S) (Nat.le_of_ble_eq_true rfl) (Nat.zero_le _) (Nat.zero_le _) Rb ?_
  show Wp _ _ _ 45 [(4, .int (nI a)), (3, .int 7), (0, .ref 47), (1, .int 0), (2, .int (nI g))] [.int (nI b)] h _ _
  refine r_istore (ls' := [(5, .int (nI b)), (4, .int (nI a)), (3, .int 7), (0, .ref 47), (1, .int 0), (2, .int (nI g))]) (q136 (i := 31) rfl) (Nat.le_of_ble_eq_true rfl) rfl ?_
  refine r_iload_n (q136 (i := 32) rfl) rfl ?_
  refine r_if 56 (q136 (i := 33) rfl) (by decide) (fun zz => absurd zz (show ¬ ((7 : Int32) = 0) from by decide)) (fun _ => ?_)
  refine r_iload_n (q136 (i := 34) rfl) rfl ?_
  refine r_iconst (v := 3) (q136 (i := 35) rfl) (by decide) ?_
  refine r_icmp 69 (q136 (i := 36) rfl) (by decide) (fun _ => ?_) (fun zz => absurd (show ¬ (7 : Int32) = 3 from by decide) zz)
  refine r_iload_n (q136 (i := 43) rfl) rfl ?_
  refine r_iconst (v := 1) (q136 (i := 44) rfl) (by decide) ?_
  refine r_icmp 79 (q136 (i := 45) rfl) (by decide) (fun zz => absurd zz (show ¬ ((7 : Int32) = 1) from by decide)) (fun _ => ?_)
  refine r_iload_n (q136 (i := 46) rfl) rfl ?_
  refine r_iconst (v := 4) (q136 (i := 47) rfl) (by decide) ?_
  refine r_icmp 98 (q136 (i := 48) rfl) (by decide) (fun _ => ?_) (fun zz => absurd (show ¬ (7 : Int32) = 4 from by decide) zz)
  refine r_iload_n (q136 (i := 61) rfl) rfl ?_
  refine r_iconst (v := 2) (q136 (i := 62) rfl) (by decide) ?_
  refine r_icmp 108 (q136 (i := 63) rfl) (by decide) (fun zz => absurd zz (show ¬ ((7 : Int32) = 2) from by decide)) (fun _ => ?_)
  refine r_iload_n (q136 (i := 64) rfl) rfl ?_
  refine r_iconst (v := 5) (q136 (i := 65) rfl) (by decide) ?_
  refine r_icmp 151 (q136 (i := 66) rfl) (by decide) (fun _ => ?_) (fun zz => absurd (show ¬ (7 : Int32) = 5 from by decide) zz)
  refine r_iload_n (q136 (i := 93) rfl) rfl ?_
  refine r_bipush (v := 6) (q136 (i := 94) rfl) (by decide) ?_
  refine r_icmp 209 (q136 (i := 95) rfl) (by decide) (fun _ => ?_) (fun zz => absurd (show ¬ (7 : Int32) = 6 from by decide) zz)
  refine r_aload_n (q136 (i := 128) rfl) rfl ?_
  refine r_iload (q136 (i := 129) rfl) rfl ?_
  refine r_iload (q136 (i := 130) rfl) rfl ?_
  refine r_cV (d := _) (q136 (i := 131) rfl) rfl rfl rfl (k_47 S) (Nat.le_of_ble_eq_true rfl) (Nat.zero_le _) (Nat.zero_le _) R1 ?_
  show Wp _ _ _ 217 [(5, .int (nI b)), (4, .int (nI a)), (3, .int 7), (0, .ref 47), (1, .int 0), (2, .int (nI g))] [.int (nI r1.1)] h1 _ _
  refine r_istore (ls' := [(7, .int (nI r1.1)), (5, .int (nI b)), (4, .int (nI a)), (3, .int 7), (0, .ref 47), (1, .int 0), (2, .int (nI g))]) (q136 (i := 132) rfl) (Nat.le_of_ble_eq_true rfl) rfl ?_
  refine r_aload_n (q136 (i := 133) rfl) rfl ?_
  refine r_aload_n (q136 (i := 134) rfl) rfl ?_
  refine r_iload_n (q136 (i := 135) rfl) rfl ?_
  refine r_aload_n (q136 (i := 136) rfl) rfl ?_
  refine r_getR (b := 59) (q136 (i := 137) rfl) rfl (by decide) (k_47 S1) (fun _ _ _ => rfl) (r_47_7 S1) ?_
  refine r_iload_n (q136 (i := 138) rfl) rfl ?_
  refine r_aaload5 (q136 (i := 139) rfl) (k_59 S1) (vp_in_nI (n := 0) (by decide) (by decide)) (r_59_0 S1) ?_
  refine r_iload_n (q136 (i := 140) rfl) rfl ?_
  refine r_iaN (x := hI h 60 g) (q136 (i := 141) rfl) (k_60 S1) (by omega) (by decide) (congrFun (F1.2.1 60 (by decide) (by decide) (by decide)) g) ?_
  refine r_cV (d := _) (q136 (i := 142) rfl) rfl rfl rfl (k_47 S1) (Nat.le_of_ble_eq_true rfl) (Nat.zero_le _) (Nat.zero_le _) Rt ?_
  show Wp _ _ _ 233 [(7, .int (nI r1.1)), (5, .int (nI b)), (4, .int (nI a)), (3, .int 7), (0, .ref 47), (1, .int 0), (2, .int (nI g))] [.int (nI e), .ref 47] h1 _ _
  refine r_aload_n (q136 (i := 143) rfl) rfl ?_
  refine r_iload (q136 (i := 144) rfl) rfl ?_
  refine r_iconst (v := 1) (q136 (i := 145) rfl) (by decide) ?_
  refine r_ixor (q136 (i := 146) rfl) ?_
  rw [show ((nI a) ^^^ 1 : Int32) = nI (a ^^^ 1) from xor1 _]
  refine r_iload (q136 (i := 147) rfl) rfl ?_
  refine r_iconst (v := 1) (q136 (i := 148) rfl) (by decide) ?_
  refine r_ixor (q136 (i := 149) rfl) ?_
  rw [show ((nI b) ^^^ 1 : Int32) = nI (b ^^^ 1) from xor1 _]
  refine r_cV (d := _) (q136 (i := 150) rfl) rfl rfl rfl (k_47 S1) (Nat.le_of_ble_eq_true rfl) (Nat.zero_le _) (Nat.zero_le _) R2 ?_
  show Wp _ _ _ 245 [(7, .int (nI r1.1)), (5, .int (nI b)), (4, .int (nI a)), (3, .int 7), (0, .ref 47), (1, .int 0), (2, .int (nI g))] [.int (nI r2.1), .int (nI e), .ref 47] h2 _ _
  refine r_iconst (v := 1) (q136 (i := 151) rfl) (by decide) ?_
  refine r_ixor (q136 (i := 152) rfl) ?_
  rw [show ((nI r2.1) ^^^ 1 : Int32) = nI (r2.1 ^^^ 1) from xor1 _]
  refine r_cV (d := _) (q136 (i := 153) rfl) rfl rfl rfl (k_47 S2) (Nat.le_of_ble_eq_true rfl) (Nat.zero_le _) (Nat.zero_le _) R3 ?_
  show Wp _ _ _ 250 [(7, .int (nI r1.1)), (5, .int (nI b)), (4, .int (nI a)), (3, .int 7), (0, .ref 47), (1, .int 0), (2, .int (nI g))] [.int (nI r3.1)] h3 _ _
  refine r_istore (ls' := [(8, .int (nI r3.1)), (7, .int (nI r1.1)), (5, .int (nI b)), (4, .int (nI a)), (3, .int 7), (0, .ref 47), (1, .int 0), (2, .int (nI g))]) (q136 (i := 154) rfl) (Nat.le_of_ble_eq_true rfl) rfl ?_
  refine r_aload_n (q136 (i := 155) rfl) rfl ?_
  refine r_iload (q136 (i := 156) rfl) rfl ?_
  refine r_iconst (v := 1) (q136 (i := 157) rfl) (by decide) ?_
  refine r_ixor (q136 (i := 158) rfl) ?_
  rw [show ((nI r1.1) ^^^ 1 : Int32) = nI (r1.1 ^^^ 1) from xor1 _]
  refine r_iload (q136 (i := 159) rfl) rfl ?_
  refine r_iconst (v := 1) (q136 (i := 160) rfl) (by decide) ?_
  refine r_ixor (q136 (i := 161) rfl) ?_
  rw [show ((nI r3.1) ^^^ 1 : Int32) = nI (r3.1 ^^^ 1) from xor1 _]
  refine r_cV (d := _) (q136 (i := 162) rfl) rfl rfl rfl (k_47 S3) (Nat.le_of_ble_eq_true rfl) (Nat.zero_le _) (Nat.zero_le _) R4 ?_
  show Wp _ _ _ 264 [(8, .int (nI r3.1)), (7, .int (nI r1.1)), (5, .int (nI b)), (4, .int (nI a)), (3, .int 7), (0, .ref 47), (1, .int 0), (2, .int (nI g))] [.int (nI r4.1)] h4 _ _
  refine r_iconst (v := 1) (q136 (i := 163) rfl) (by decide) ?_
  refine r_ixor (q136 (i := 164) rfl) ?_
  rw [show ((nI r4.1) ^^^ 1 : Int32) = nI (r4.1 ^^^ 1) from xor1 _]
  refine r_istore (ls' := [(6, .int (nI (r4.1 ^^^ 1))), (8, .int (nI r3.1)), (7, .int (nI r1.1)), (5, .int (nI b)), (4, .int (nI a)), (3, .int 7), (0, .ref 47), (1, .int 0), (2, .int (nI g))]) (q136 (i := 165) rfl) (Nat.le_of_ble_eq_true rfl) rfl ?_
  refine r_iload_n (q136 (i := 166) rfl) rfl ?_
  refine r_iconst (v := 3) (q136 (i := 167) rfl) (by decide) ?_
  refine r_icmp 285 (q136 (i := 168) rfl) (by decide) (fun zz => absurd zz (show ¬ ((7 : Int32) < 3) from by decide)) (fun _ => ?_)
  refine r_iload_n (q136 (i := 169) rfl) rfl ?_
  refine r_iconst (v := 5) (q136 (i := 170) rfl) (by decide) ?_
  refine r_icmp 285 (q136 (i := 171) rfl) (by decide) (fun _ => ?_) (fun zz => absurd (show 5 < (7 : Int32) from by decide) zz)
  refine r_iload (q136 (i := 176) rfl) rfl ?_
  exact r_iret (q136 (i := 177) rfl) rfl hQ
set_option maxHeartbeats 2000000 in
set_option maxRecDepth 10000 in
theorem gof0_8 {d : Nat} {h : hp} (S : Sh h) {n g : Nat} {st : gs × (Nat → Nat)} (e1 : hI h 47 1 = nI n) (G : MG h n st.1) (Mk : gmade n g st) (K : cok n (cirA h) g) (hl : ∀ i, i < g → hI h 66 i = nI (st.2 i)) (hn : n ≤ 12) (hg : g < 120) (hC : gC st.1 + 4 < 1000) (hk : (cirA h).1 g = nI 8) : ∃ h', Run (d + 2 + 1) 136 [.ref 47, .int 0, .int (nI g)] h 0 0 (some (.int (nI (gop n (cirA h) st g).1))) h' ∧ MG h' n (gop n (cirA h) st g).2 ∧ FrGM h h' := by
  have hgo := gop_is (n := n) (st := st) hk (by decide)
  refine ⟨h, ?_, by rw [hgo]; exact G, FrGM.rf h⟩
  rw [hgo]
  refine Run.of (d := d + 2) (Nat.le_of_ble_eq_true rfl) (fun Q hQ => ?_)
  show Wp (Ex (d + 2)) 136 Q 0 [(0, .ref 47), (1, .int 0), (2, .int (nI g))] [] h 0 0
  refine r_aload_n (q136 (i := 0) rfl) rfl ?_
  refine r_getR (b := 50) (q136 (i := 1) rfl) rfl (by decide) (k_47 S) (fun _ _ _ => rfl) (r_47_4 S) ?_
  refine r_iload_n (q136 (i := 2) rfl) rfl ?_
  refine r_aaload5 (q136 (i := 3) rfl) (k_50 S) (vp_in_nI (n := 0) (by decide) (by decide)) (r_50_0 S) ?_
  refine r_iload_n (q136 (i := 4) rfl) rfl ?_
  refine r_iaN (x := 8) (q136 (i := 5) rfl) (k_51 S) (by omega) (by decide) hk ?_
  refine r_istore_n (ls' := [(3, .int 8), (0, .ref 47), (1, .int 0), (2, .int (nI g))]) (q136 (i := 6) rfl) (Nat.le_of_ble_eq_true rfl) rfl ?_
  refine r_iload_n (q136 (i := 7) rfl) rfl ?_
  refine r_bipush (v := 8) (q136 (i := 8) rfl) (by decide) ?_
  refine r_icmp 17 (q136 (i := 9) rfl) (by decide) (fun zz => absurd zz (show ¬ (¬ (8 : Int32) = 8) from by decide)) (fun _ => ?_)
  refine r_iconst (v := 0) (q136 (i := 10) rfl) (by decide) ?_
  exact r_iret (q136 (i := 11) rfl) rfl hQ
theorem sp_gateOf0 {d : Nat} {h : hp} (S : Sh h) {n g : Nat} {st : gs × (Nat → Nat)} (e1 : hI h 47 1 = nI n) (G : MG h n st.1) (Mk : gmade n g st) (K : cok n (cirA h) g) (hl : ∀ i, i < g → hI h 66 i = nI (st.2 i)) (hn : n ≤ 12) (hg : g < 120) (hC : gC st.1 + 4 < 1000) : ∃ h', Run (d + 2 + 1) 136 [.ref 47, .int 0, .int (nI g)] h 0 0 (some (.int (nI (gop n (cirA h) st g).1))) h' ∧ MG h' n (gop n (cirA h) st g).2 ∧ FrGM h h' := by
  obtain ⟨k, hk8, hk⟩ := K.1
  rcases (show k = 0 ∨ k = 1 ∨ k = 2 ∨ k = 3 ∨ k = 4 ∨ k = 5 ∨ k = 6 ∨ k = 7 ∨ k = 8 by omega) with e | e | e | e | e | e | e | e | e
  · subst e
    exact gof0_0 S e1 G Mk K hl hn hg hC hk
  · subst e
    exact gof0_1 S e1 G Mk K hl hn hg hC hk
  · subst e
    exact gof0_2 S e1 G Mk K hl hn hg hC hk
  · subst e
    exact gof0_3 S e1 G Mk K hl hn hg hC hk
  · subst e
    exact gof0_4 S e1 G Mk K hl hn hg hC hk
  · subst e
    exact gof0_5 S e1 G Mk K hl hn hg hC hk
  · subst e
    exact gof0_6 S e1 G Mk K hl hn hg hC hk
  · subst e
    exact gof0_7 S e1 G Mk K hl hn hg hC hk
  · subst e
    exact gof0_8 S e1 G Mk K hl hn hg hC hk
set_option maxHeartbeats 2000000 in
set_option maxRecDepth 10000 in
theorem gof1_0 {d : Nat} {h : hp} (S : Sh h) {n g : Nat} {st : gs × (Nat → Nat)} (e1 : hI h 47 1 = nI n) (G : MG h n st.1) (Mk : gmade n g st) (K : cok n (cirB h) g) (hl : ∀ i, i < g → hI h 67 i = nI (st.2 i)) (hn : n ≤ 12) (hg : g < 120) (hC : gC st.1 + 4 < 1000) (hk : (cirB h).1 g = nI 0) : ∃ h', Run (d + 2 + 1) 136 [.ref 47, .int 1, .int (nI g)] h 0 0 (some (.int (nI (gop n (cirB h) st g).1))) h' ∧ MG h' n (gop n (cirB h) st g).2 ∧ FrGM h h' := by
  have hgo := gop_is (n := n) (st := st) hk (by decide)
  have q : (cirB h).1 g ≠ 8 := by rw [hk]; decide
  obtain ⟨a, ea⟩ : ∃ a, a = sd n st.2 (hI h 55 g) := ⟨_, rfl⟩
  obtain ⟨b, eb⟩ : ∃ b, b = sd n st.2 (hI h 58 g) := ⟨_, rfl⟩
  have ha : a < 2 * gC st.1 := by rw [ea]; exact sd_lt Mk (by omega) (K.2.1 q).1
  have hb : b < 2 * gC st.1 := by rw [eb]; exact sd_lt Mk (by omega) (K.2.1 q).2
  have Ra := sp_side1 (d := d + 1) (s := hI h 55 g) S e1 hl hn (by omega) (K.2.1 q).1
  have Rb := sp_side1 (d := d + 1) (s := hI h 58 g) S e1 hl hn (by omega) (K.2.1 q).2
  rw [← ea] at Ra
  rw [← eb] at Rb
  obtain ⟨r1, er1⟩ : ∃ r, r = gand n st.1 (a) (b) := ⟨_, rfl⟩
  obtain ⟨h1, R1, G1, F1, ok1⟩ := sp_mand (d := d) S e1 G (by omega) Mk.1 (by omega) (by omega) er1
  obtain ⟨w1, u1, v1, x1⟩ := ok1
  have S1 := F1.S S
  have e1_1 : hI h1 47 1 = nI n := (F1.2.2.1 1 (by decide)).trans e1
  have hgo2 : gop n (cirB h) st g = r1 := by
    rw [hgo, er1, ea, eb]
    rfl
  refine ⟨h1, ?_, by rw [hgo2]; exact G1, F1⟩
  rw [hgo2]
  refine Run.of (d := d + 2) (Nat.le_of_ble_eq_true rfl) (fun Q hQ => ?_)
  show Wp (Ex (d + 2)) 136 Q 0 [(0, .ref 47), (1, .int 1), (2, .int (nI g))] [] h 0 0
  refine r_aload_n (q136 (i := 0) rfl) rfl ?_
  refine r_getR (b := 50) (q136 (i := 1) rfl) rfl (by decide) (k_47 S) (fun _ _ _ => rfl) (r_47_4 S) ?_
  refine r_iload_n (q136 (i := 2) rfl) rfl ?_
  refine r_aaload5 (q136 (i := 3) rfl) (k_50 S) (vp_in_nI (n := 1) (by decide) (by decide)) (r_50_1 S) ?_
  refine r_iload_n (q136 (i := 4) rfl) rfl ?_
  refine r_iaN (x := 0) (q136 (i := 5) rfl) (k_52 S) (by omega) (by decide) hk ?_
  refine r_istore_n (ls' := [(3, .int 0), (0, .ref 47), (1, .int 1), (2, .int (nI g))]) (q136 (i := 6) rfl) (Nat.le_of_ble_eq_true rfl) rfl ?_
  refine r_iload_n (q136 (i := 7) rfl) rfl ?_
  refine r_bipush (v := 8) (q136 (i := 8) rfl) (by decide) ?_
  refine r_icmp 17 (q136 (i := 9) rfl) (by decide) (fun _ => ?_) (fun zz => absurd (show ¬ (0 : Int32) = 8 from by decide) zz)
  refine r_aload_n (q136 (i := 12) rfl) rfl ?_
  refine r_iload_n (q136 (i := 13) rfl) rfl ?_
  refine r_aload_n (q136 (i := 14) rfl) rfl ?_
  refine r_getR (b := 53) (q136 (i := 15) rfl) rfl (by decide) (k_47 S) (fun _ _ _ => rfl) (r_47_5 S) ?_
  refine r_iload_n (q136 (i := 16) rfl) rfl ?_
  refine r_aaload5 (q136 (i := 17) rfl) (k_53 S) (vp_in_nI (n := 1) (by decide) (by decide)) (r_53_1 S) ?_
  refine r_iload_n (q136 (i := 18) rfl) rfl ?_
  refine r_iaN (x := hI h 55 g) (q136 (i := 19) rfl) (k_55 S) (by omega) (by decide) rfl ?_
  refine r_cV (d := _) (q136 (i := 20) rfl) rfl rfl rfl (k_47 S) (Nat.le_of_ble_eq_true rfl) (Nat.zero_le _) (Nat.zero_le _) Ra ?_
  show Wp _ _ _ 30 [(3, .int 0), (0, .ref 47), (1, .int 1), (2, .int (nI g))] [.int (nI a)] h _ _
  refine r_istore (ls' := [(4, .int (nI a)), (3, .int 0), (0, .ref 47), (1, .int 1), (2, .int (nI g))]) (q136 (i := 21) rfl) (Nat.le_of_ble_eq_true rfl) rfl ?_
  refine r_aload_n (q136 (i := 22) rfl) rfl ?_
  refine r_iload_n (q136 (i := 23) rfl) rfl ?_
  refine r_aload_n (q136 (i := 24) rfl) rfl ?_
  refine r_getR (b := 56) (q136 (i := 25) rfl) rfl (by decide) (k_47 S) (fun _ _ _ => rfl) (r_47_6 S) ?_
  refine r_iload_n (q136 (i := 26) rfl) rfl ?_
  refine r_aaload5 (q136 (i := 27) rfl) (k_56 S) (vp_in_nI (n := 1) (by decide) (by decide)) (r_56_1 S) ?_
  refine r_iload_n (q136 (i := 28) rfl) rfl ?_
  refine r_iaN (x := hI h 58 g) (q136 (i := 29) rfl) (k_58 S) (by omega) (by decide) rfl ?_
  refine r_cV (d := _) (q136 (i := 30) rfl) rfl rfl rfl (k_47 S) (Nat.le_of_ble_eq_true rfl) (Nat.zero_le _) (Nat.zero_le _) Rb ?_
  show Wp _ _ _ 45 [(4, .int (nI a)), (3, .int 0), (0, .ref 47), (1, .int 1), (2, .int (nI g))] [.int (nI b)] h _ _
  refine r_istore (ls' := [(5, .int (nI b)), (4, .int (nI a)), (3, .int 0), (0, .ref 47), (1, .int 1), (2, .int (nI g))]) (q136 (i := 31) rfl) (Nat.le_of_ble_eq_true rfl) rfl ?_
  refine r_iload_n (q136 (i := 32) rfl) rfl ?_
  refine r_if 56 (q136 (i := 33) rfl) (by decide) (fun _ => ?_) (fun zz => absurd (show (0 : Int32) = 0 from by decide) zz)
  refine r_aload_n (q136 (i := 37) rfl) rfl ?_
  refine r_iload (q136 (i := 38) rfl) rfl ?_
  refine r_iload (q136 (i := 39) rfl) rfl ?_
  refine r_cV (d := _) (q136 (i := 40) rfl) rfl rfl rfl (k_47 S) (Nat.le_of_ble_eq_true rfl) (Nat.zero_le _) (Nat.zero_le _) R1 ?_
  show Wp _ _ _ 64 [(5, .int (nI b)), (4, .int (nI a)), (3, .int 0), (0, .ref 47), (1, .int 1), (2, .int (nI g))] [.int (nI r1.1)] h1 _ _
  refine r_istore (ls' := [(6, .int (nI r1.1)), (5, .int (nI b)), (4, .int (nI a)), (3, .int 0), (0, .ref 47), (1, .int 1), (2, .int (nI g))]) (q136 (i := 41) rfl) (Nat.le_of_ble_eq_true rfl) rfl ?_
  refine r_goto 268 (q136 (i := 42) rfl) (by decide) ?_
  refine r_iload_n (q136 (i := 166) rfl) rfl ?_
  refine r_iconst (v := 3) (q136 (i := 167) rfl) (by decide) ?_
  refine r_icmp 285 (q136 (i := 168) rfl) (by decide) (fun _ => ?_) (fun zz => absurd (show (0 : Int32) < 3 from by decide) zz)
  refine r_iload (q136 (i := 176) rfl) rfl ?_
  exact r_iret (q136 (i := 177) rfl) rfl hQ
set_option maxHeartbeats 2000000 in
set_option maxRecDepth 10000 in
theorem gof1_1 {d : Nat} {h : hp} (S : Sh h) {n g : Nat} {st : gs × (Nat → Nat)} (e1 : hI h 47 1 = nI n) (G : MG h n st.1) (Mk : gmade n g st) (K : cok n (cirB h) g) (hl : ∀ i, i < g → hI h 67 i = nI (st.2 i)) (hn : n ≤ 12) (hg : g < 120) (hC : gC st.1 + 4 < 1000) (hk : (cirB h).1 g = nI 1) : ∃ h', Run (d + 2 + 1) 136 [.ref 47, .int 1, .int (nI g)] h 0 0 (some (.int (nI (gop n (cirB h) st g).1))) h' ∧ MG h' n (gop n (cirB h) st g).2 ∧ FrGM h h' := by
  have hgo := gop_is (n := n) (st := st) hk (by decide)
  have q : (cirB h).1 g ≠ 8 := by rw [hk]; decide
  obtain ⟨a, ea⟩ : ∃ a, a = sd n st.2 (hI h 55 g) := ⟨_, rfl⟩
  obtain ⟨b, eb⟩ : ∃ b, b = sd n st.2 (hI h 58 g) := ⟨_, rfl⟩
  have ha : a < 2 * gC st.1 := by rw [ea]; exact sd_lt Mk (by omega) (K.2.1 q).1
  have hb : b < 2 * gC st.1 := by rw [eb]; exact sd_lt Mk (by omega) (K.2.1 q).2
  have Ra := sp_side1 (d := d + 1) (s := hI h 55 g) S e1 hl hn (by omega) (K.2.1 q).1
  have Rb := sp_side1 (d := d + 1) (s := hI h 58 g) S e1 hl hn (by omega) (K.2.1 q).2
  rw [← ea] at Ra
  rw [← eb] at Rb
  obtain ⟨r1, er1⟩ : ∃ r, r = gand n st.1 (a ^^^ 1) (b ^^^ 1) := ⟨_, rfl⟩
  obtain ⟨h1, R1, G1, F1, ok1⟩ := sp_mand (d := d) S e1 G (by omega) Mk.1 (xor1_lt (by omega)) (xor1_lt (by omega)) er1
  obtain ⟨w1, u1, v1, x1⟩ := ok1
  have S1 := F1.S S
  have e1_1 : hI h1 47 1 = nI n := (F1.2.2.1 1 (by decide)).trans e1
  have hgo2 : gop n (cirB h) st g = (r1.1 ^^^ 1, r1.2) := by
    rw [hgo, er1, ea, eb]
    rfl
  refine ⟨h1, ?_, by rw [hgo2]; exact G1, F1⟩
  rw [hgo2]
  refine Run.of (d := d + 2) (Nat.le_of_ble_eq_true rfl) (fun Q hQ => ?_)
  show Wp (Ex (d + 2)) 136 Q 0 [(0, .ref 47), (1, .int 1), (2, .int (nI g))] [] h 0 0
  refine r_aload_n (q136 (i := 0) rfl) rfl ?_
  refine r_getR (b := 50) (q136 (i := 1) rfl) rfl (by decide) (k_47 S) (fun _ _ _ => rfl) (r_47_4 S) ?_
  refine r_iload_n (q136 (i := 2) rfl) rfl ?_
  refine r_aaload5 (q136 (i := 3) rfl) (k_50 S) (vp_in_nI (n := 1) (by decide) (by decide)) (r_50_1 S) ?_
  refine r_iload_n (q136 (i := 4) rfl) rfl ?_
  refine r_iaN (x := 1) (q136 (i := 5) rfl) (k_52 S) (by omega) (by decide) hk ?_
  refine r_istore_n (ls' := [(3, .int 1), (0, .ref 47), (1, .int 1), (2, .int (nI g))]) (q136 (i := 6) rfl) (Nat.le_of_ble_eq_true rfl) rfl ?_
  refine r_iload_n (q136 (i := 7) rfl) rfl ?_
  refine r_bipush (v := 8) (q136 (i := 8) rfl) (by decide) ?_
  refine r_icmp 17 (q136 (i := 9) rfl) (by decide) (fun _ => ?_) (fun zz => absurd (show ¬ (1 : Int32) = 8 from by decide) zz)
  refine r_aload_n (q136 (i := 12) rfl) rfl ?_
  refine r_iload_n (q136 (i := 13) rfl) rfl ?_
  refine r_aload_n (q136 (i := 14) rfl) rfl ?_
  refine r_getR (b := 53) (q136 (i := 15) rfl) rfl (by decide) (k_47 S) (fun _ _ _ => rfl) (r_47_5 S) ?_
  refine r_iload_n (q136 (i := 16) rfl) rfl ?_
  refine r_aaload5 (q136 (i := 17) rfl) (k_53 S) (vp_in_nI (n := 1) (by decide) (by decide)) (r_53_1 S) ?_
  refine r_iload_n (q136 (i := 18) rfl) rfl ?_
  refine r_iaN (x := hI h 55 g) (q136 (i := 19) rfl) (k_55 S) (by omega) (by decide) rfl ?_
  refine r_cV (d := _) (q136 (i := 20) rfl) rfl rfl rfl (k_47 S) (Nat.le_of_ble_eq_true rfl) (Nat.zero_le _) (Nat.zero_le _) Ra ?_
  show Wp _ _ _ 30 [(3, .int 1), (0, .ref 47), (1, .int 1), (2, .int (nI g))] [.int (nI a)] h _ _
  refine r_istore (ls' := [(4, .int (nI a)), (3, .int 1), (0, .ref 47), (1, .int 1), (2, .int (nI g))]) (q136 (i := 21) rfl) (Nat.le_of_ble_eq_true rfl) rfl ?_
  refine r_aload_n (q136 (i := 22) rfl) rfl ?_
  refine r_iload_n (q136 (i := 23) rfl) rfl ?_
  refine r_aload_n (q136 (i := 24) rfl) rfl ?_
  refine r_getR (b := 56) (q136 (i := 25) rfl) rfl (by decide) (k_47 S) (fun _ _ _ => rfl) (r_47_6 S) ?_
  refine r_iload_n (q136 (i := 26) rfl) rfl ?_
  refine r_aaload5 (q136 (i := 27) rfl) (k_56 S) (vp_in_nI (n := 1) (by decide) (by decide)) (r_56_1 S) ?_
  refine r_iload_n (q136 (i := 28) rfl) rfl ?_
  refine r_iaN (x := hI h 58 g) (q136 (i := 29) rfl) (k_58 S) (by omega) (by decide) rfl ?_
  refine r_cV (d := _) (q136 (i := 30) rfl) rfl rfl rfl (k_47 S) (Nat.le_of_ble_eq_true rfl) (Nat.zero_le _) (Nat.zero_le _) Rb ?_
  show Wp _ _ _ 45 [(4, .int (nI a)), (3, .int 1), (0, .ref 47), (1, .int 1), (2, .int (nI g))] [.int (nI b)] h _ _
  refine r_istore (ls' := [(5, .int (nI b)), (4, .int (nI a)), (3, .int 1), (0, .ref 47), (1, .int 1), (2, .int (nI g))]) (q136 (i := 31) rfl) (Nat.le_of_ble_eq_true rfl) rfl ?_
  refine r_iload_n (q136 (i := 32) rfl) rfl ?_
  refine r_if 56 (q136 (i := 33) rfl) (by decide) (fun zz => absurd zz (show ¬ ((1 : Int32) = 0) from by decide)) (fun _ => ?_)
  refine r_iload_n (q136 (i := 34) rfl) rfl ?_
  refine r_iconst (v := 3) (q136 (i := 35) rfl) (by decide) ?_
  refine r_icmp 69 (q136 (i := 36) rfl) (by decide) (fun _ => ?_) (fun zz => absurd (show ¬ (1 : Int32) = 3 from by decide) zz)
  refine r_iload_n (q136 (i := 43) rfl) rfl ?_
  refine r_iconst (v := 1) (q136 (i := 44) rfl) (by decide) ?_
  refine r_icmp 79 (q136 (i := 45) rfl) (by decide) (fun _ => ?_) (fun zz => absurd (show (1 : Int32) = 1 from by decide) zz)
  refine r_aload_n (q136 (i := 49) rfl) rfl ?_
  refine r_iload (q136 (i := 50) rfl) rfl ?_
  refine r_iconst (v := 1) (q136 (i := 51) rfl) (by decide) ?_
  refine r_ixor (q136 (i := 52) rfl) ?_
  rw [show ((nI a) ^^^ 1 : Int32) = nI (a ^^^ 1) from xor1 _]
  refine r_iload (q136 (i := 53) rfl) rfl ?_
  refine r_iconst (v := 1) (q136 (i := 54) rfl) (by decide) ?_
  refine r_ixor (q136 (i := 55) rfl) ?_
  rw [show ((nI b) ^^^ 1 : Int32) = nI (b ^^^ 1) from xor1 _]
  refine r_cV (d := _) (q136 (i := 56) rfl) rfl rfl rfl (k_47 S) (Nat.le_of_ble_eq_true rfl) (Nat.zero_le _) (Nat.zero_le _) R1 ?_
  show Wp _ _ _ 91 [(5, .int (nI b)), (4, .int (nI a)), (3, .int 1), (0, .ref 47), (1, .int 1), (2, .int (nI g))] [.int (nI r1.1)] h1 _ _
  refine r_iconst (v := 1) (q136 (i := 57) rfl) (by decide) ?_
  refine r_ixor (q136 (i := 58) rfl) ?_
  rw [show ((nI r1.1) ^^^ 1 : Int32) = nI (r1.1 ^^^ 1) from xor1 _]
  refine r_istore (ls' := [(6, .int (nI (r1.1 ^^^ 1))), (5, .int (nI b)), (4, .int (nI a)), (3, .int 1), (0, .ref 47), (1, .int 1), (2, .int (nI g))]) (q136 (i := 59) rfl) (Nat.le_of_ble_eq_true rfl) rfl ?_
  refine r_goto 268 (q136 (i := 60) rfl) (by decide) ?_
  refine r_iload_n (q136 (i := 166) rfl) rfl ?_
  refine r_iconst (v := 3) (q136 (i := 167) rfl) (by decide) ?_
  refine r_icmp 285 (q136 (i := 168) rfl) (by decide) (fun _ => ?_) (fun zz => absurd (show (1 : Int32) < 3 from by decide) zz)
  refine r_iload (q136 (i := 176) rfl) rfl ?_
  exact r_iret (q136 (i := 177) rfl) rfl hQ
set_option maxHeartbeats 2000000 in
set_option maxRecDepth 10000 in
theorem gof1_2 {d : Nat} {h : hp} (S : Sh h) {n g : Nat} {st : gs × (Nat → Nat)} (e1 : hI h 47 1 = nI n) (G : MG h n st.1) (Mk : gmade n g st) (K : cok n (cirB h) g) (hl : ∀ i, i < g → hI h 67 i = nI (st.2 i)) (hn : n ≤ 12) (hg : g < 120) (hC : gC st.1 + 4 < 1000) (hk : (cirB h).1 g = nI 2) : ∃ h', Run (d + 2 + 1) 136 [.ref 47, .int 1, .int (nI g)] h 0 0 (some (.int (nI (gop n (cirB h) st g).1))) h' ∧ MG h' n (gop n (cirB h) st g).2 ∧ FrGM h h' := by
  have hgo := gop_is (n := n) (st := st) hk (by decide)
  have q : (cirB h).1 g ≠ 8 := by rw [hk]; decide
  obtain ⟨a, ea⟩ : ∃ a, a = sd n st.2 (hI h 55 g) := ⟨_, rfl⟩
  obtain ⟨b, eb⟩ : ∃ b, b = sd n st.2 (hI h 58 g) := ⟨_, rfl⟩
  have ha : a < 2 * gC st.1 := by rw [ea]; exact sd_lt Mk (by omega) (K.2.1 q).1
  have hb : b < 2 * gC st.1 := by rw [eb]; exact sd_lt Mk (by omega) (K.2.1 q).2
  have Ra := sp_side1 (d := d + 1) (s := hI h 55 g) S e1 hl hn (by omega) (K.2.1 q).1
  have Rb := sp_side1 (d := d + 1) (s := hI h 58 g) S e1 hl hn (by omega) (K.2.1 q).2
  rw [← ea] at Ra
  rw [← eb] at Rb
  obtain ⟨r1, er1⟩ : ∃ r, r = gand n st.1 (a) (b ^^^ 1) := ⟨_, rfl⟩
  obtain ⟨h1, R1, G1, F1, ok1⟩ := sp_mand (d := d) S e1 G (by omega) Mk.1 (by omega) (xor1_lt (by omega)) er1
  obtain ⟨w1, u1, v1, x1⟩ := ok1
  have S1 := F1.S S
  have e1_1 : hI h1 47 1 = nI n := (F1.2.2.1 1 (by decide)).trans e1
  obtain ⟨r2, er2⟩ : ∃ r, r = gand n r1.2 (a ^^^ 1) (b) := ⟨_, rfl⟩
  obtain ⟨h2, R2, G2, F2, ok2⟩ := sp_mand (d := d) S1 e1_1 G1 (by omega) w1 (xor1_lt (by omega)) (by omega) er2
  obtain ⟨w2, u2, v2, x2⟩ := ok2
  have S2 := F2.S S1
  have e1_2 : hI h2 47 1 = nI n := (F2.2.2.1 1 (by decide)).trans e1_1
  obtain ⟨r3, er3⟩ : ∃ r, r = gand n r2.2 (r1.1 ^^^ 1) (r2.1 ^^^ 1) := ⟨_, rfl⟩
  obtain ⟨h3, R3, G3, F3, ok3⟩ := sp_mand (d := d) S2 e1_2 G2 (by omega) w2 (xor1_lt (by omega)) (xor1_lt (by omega)) er3
  obtain ⟨w3, u3, v3, x3⟩ := ok3
  have S3 := F3.S S2
  have e1_3 : hI h3 47 1 = nI n := (F3.2.2.1 1 (by decide)).trans e1_2
  have hgo2 : gop n (cirB h) st g = (r3.1 ^^^ 1, r3.2) := by
    rw [hgo, er3, er2, er1, ea, eb]
    rfl
  refine ⟨h3, ?_, by rw [hgo2]; exact G3, ((F1.tr F2).tr F3)⟩
  rw [hgo2]
  refine Run.of (d := d + 2) (Nat.le_of_ble_eq_true rfl) (fun Q hQ => ?_)
  show Wp (Ex (d + 2)) 136 Q 0 [(0, .ref 47), (1, .int 1), (2, .int (nI g))] [] h 0 0
  refine r_aload_n (q136 (i := 0) rfl) rfl ?_
  refine r_getR (b := 50) (q136 (i := 1) rfl) rfl (by decide) (k_47 S) (fun _ _ _ => rfl) (r_47_4 S) ?_
  refine r_iload_n (q136 (i := 2) rfl) rfl ?_
  refine r_aaload5 (q136 (i := 3) rfl) (k_50 S) (vp_in_nI (n := 1) (by decide) (by decide)) (r_50_1 S) ?_
  refine r_iload_n (q136 (i := 4) rfl) rfl ?_
  refine r_iaN (x := 2) (q136 (i := 5) rfl) (k_52 S) (by omega) (by decide) hk ?_
  refine r_istore_n (ls' := [(3, .int 2), (0, .ref 47), (1, .int 1), (2, .int (nI g))]) (q136 (i := 6) rfl) (Nat.le_of_ble_eq_true rfl) rfl ?_
  refine r_iload_n (q136 (i := 7) rfl) rfl ?_
  refine r_bipush (v := 8) (q136 (i := 8) rfl) (by decide) ?_
  refine r_icmp 17 (q136 (i := 9) rfl) (by decide) (fun _ => ?_) (fun zz => absurd (show ¬ (2 : Int32) = 8 from by decide) zz)
  refine r_aload_n (q136 (i := 12) rfl) rfl ?_
  refine r_iload_n (q136 (i := 13) rfl) rfl ?_
  refine r_aload_n (q136 (i := 14) rfl) rfl ?_
  refine r_getR (b := 53) (q136 (i := 15) rfl) rfl (by decide) (k_47 S) (fun _ _ _ => rfl) (r_47_5 S) ?_
  refine r_iload_n (q136 (i := 16) rfl) rfl ?_
  refine r_aaload5 (q136 (i := 17) rfl) (k_53 S) (vp_in_nI (n := 1) (by decide) (by decide)) (r_53_1 S) ?_
  refine r_iload_n (q136 (i := 18) rfl) rfl ?_
  refine r_iaN (x := hI h 55 g) (q136 (i := 19) rfl) (k_55 S) (by omega) (by decide) rfl ?_
  refine r_cV (d := _) (q136 (i := 20) rfl) rfl rfl rfl (k_47 S) (Nat.le_of_ble_eq_true rfl) (Nat.zero_le _) (Nat.zero_le _) Ra ?_
  show Wp _ _ _ 30 [(3, .int 2), (0, .ref 47), (1, .int 1), (2, .int (nI g))] [.int (nI a)] h _ _
  refine r_istore (ls' := [(4, .int (nI a)), (3, .int 2), (0, .ref 47), (1, .int 1), (2, .int (nI g))]) (q136 (i := 21) rfl) (Nat.le_of_ble_eq_true rfl) rfl ?_
  refine r_aload_n (q136 (i := 22) rfl) rfl ?_
  refine r_iload_n (q136 (i := 23) rfl) rfl ?_
  refine r_aload_n (q136 (i := 24) rfl) rfl ?_
  refine r_getR (b := 56) (q136 (i := 25) rfl) rfl (by decide) (k_47 S) (fun _ _ _ => rfl) (r_47_6 S) ?_
  refine r_iload_n (q136 (i := 26) rfl) rfl ?_
  refine r_aaload5 (q136 (i := 27) rfl) (k_56 S) (vp_in_nI (n := 1) (by decide) (by decide)) (r_56_1 S) ?_
  refine r_iload_n (q136 (i := 28) rfl) rfl ?_
  refine r_iaN (x := hI h 58 g) (q136 (i := 29) rfl) (k_58 S) (by omega) (by decide) rfl ?_
  refine r_cV (d := _) (q136 (i := 30) rfl) rfl rfl rfl (k_47 S) (Nat.le_of_ble_eq_true rfl) (Nat.zero_le _) (Nat.zero_le _) Rb ?_
  show Wp _ _ _ 45 [(4, .int (nI a)), (3, .int 2), (0, .ref 47), (1, .int 1), (2, .int (nI g))] [.int (nI b)] h _ _
  refine r_istore (ls' := [(5, .int (nI b)), (4, .int (nI a)), (3, .int 2), (0, .ref 47), (1, .int 1), (2, .int (nI g))]) (q136 (i := 31) rfl) (Nat.le_of_ble_eq_true rfl) rfl ?_
  refine r_iload_n (q136 (i := 32) rfl) rfl ?_
  refine r_if 56 (q136 (i := 33) rfl) (by decide) (fun zz => absurd zz (show ¬ ((2 : Int32) = 0) from by decide)) (fun _ => ?_)
  refine r_iload_n (q136 (i := 34) rfl) rfl ?_
  refine r_iconst (v := 3) (q136 (i := 35) rfl) (by decide) ?_
  refine r_icmp 69 (q136 (i := 36) rfl) (by decide) (fun _ => ?_) (fun zz => absurd (show ¬ (2 : Int32) = 3 from by decide) zz)
  refine r_iload_n (q136 (i := 43) rfl) rfl ?_
  refine r_iconst (v := 1) (q136 (i := 44) rfl) (by decide) ?_
  refine r_icmp 79 (q136 (i := 45) rfl) (by decide) (fun zz => absurd zz (show ¬ ((2 : Int32) = 1) from by decide)) (fun _ => ?_)
  refine r_iload_n (q136 (i := 46) rfl) rfl ?_
  refine r_iconst (v := 4) (q136 (i := 47) rfl) (by decide) ?_
  refine r_icmp 98 (q136 (i := 48) rfl) (by decide) (fun _ => ?_) (fun zz => absurd (show ¬ (2 : Int32) = 4 from by decide) zz)
  refine r_iload_n (q136 (i := 61) rfl) rfl ?_
  refine r_iconst (v := 2) (q136 (i := 62) rfl) (by decide) ?_
  refine r_icmp 108 (q136 (i := 63) rfl) (by decide) (fun _ => ?_) (fun zz => absurd (show (2 : Int32) = 2 from by decide) zz)
  refine r_aload_n (q136 (i := 67) rfl) rfl ?_
  refine r_iload (q136 (i := 68) rfl) rfl ?_
  refine r_iload (q136 (i := 69) rfl) rfl ?_
  refine r_iconst (v := 1) (q136 (i := 70) rfl) (by decide) ?_
  refine r_ixor (q136 (i := 71) rfl) ?_
  rw [show ((nI b) ^^^ 1 : Int32) = nI (b ^^^ 1) from xor1 _]
  refine r_cV (d := _) (q136 (i := 72) rfl) rfl rfl rfl (k_47 S) (Nat.le_of_ble_eq_true rfl) (Nat.zero_le _) (Nat.zero_le _) R1 ?_
  show Wp _ _ _ 118 [(5, .int (nI b)), (4, .int (nI a)), (3, .int 2), (0, .ref 47), (1, .int 1), (2, .int (nI g))] [.int (nI r1.1)] h1 _ _
  refine r_istore (ls' := [(7, .int (nI r1.1)), (5, .int (nI b)), (4, .int (nI a)), (3, .int 2), (0, .ref 47), (1, .int 1), (2, .int (nI g))]) (q136 (i := 73) rfl) (Nat.le_of_ble_eq_true rfl) rfl ?_
  refine r_aload_n (q136 (i := 74) rfl) rfl ?_
  refine r_iload (q136 (i := 75) rfl) rfl ?_
  refine r_iconst (v := 1) (q136 (i := 76) rfl) (by decide) ?_
  refine r_ixor (q136 (i := 77) rfl) ?_
  rw [show ((nI a) ^^^ 1 : Int32) = nI (a ^^^ 1) from xor1 _]
  refine r_iload (q136 (i := 78) rfl) rfl ?_
  refine r_cV (d := _) (q136 (i := 79) rfl) rfl rfl rfl (k_47 S1) (Nat.le_of_ble_eq_true rfl) (Nat.zero_le _) (Nat.zero_le _) R2 ?_
  show Wp _ _ _ 130 [(7, .int (nI r1.1)), (5, .int (nI b)), (4, .int (nI a)), (3, .int 2), (0, .ref 47), (1, .int 1), (2, .int (nI g))] [.int (nI r2.1)] h2 _ _
  refine r_istore (ls' := [(8, .int (nI r2.1)), (7, .int (nI r1.1)), (5, .int (nI b)), (4, .int (nI a)), (3, .int 2), (0, .ref 47), (1, .int 1), (2, .int (nI g))]) (q136 (i := 80) rfl) (Nat.le_of_ble_eq_true rfl) rfl ?_
  refine r_aload_n (q136 (i := 81) rfl) rfl ?_
  refine r_iload (q136 (i := 82) rfl) rfl ?_
  refine r_iconst (v := 1) (q136 (i := 83) rfl) (by decide) ?_
  refine r_ixor (q136 (i := 84) rfl) ?_
  rw [show ((nI r1.1) ^^^ 1 : Int32) = nI (r1.1 ^^^ 1) from xor1 _]
  refine r_iload (q136 (i := 85) rfl) rfl ?_
  refine r_iconst (v := 1) (q136 (i := 86) rfl) (by decide) ?_
  refine r_ixor (q136 (i := 87) rfl) ?_
  rw [show ((nI r2.1) ^^^ 1 : Int32) = nI (r2.1 ^^^ 1) from xor1 _]
  refine r_cV (d := _) (q136 (i := 88) rfl) rfl rfl rfl (k_47 S2) (Nat.le_of_ble_eq_true rfl) (Nat.zero_le _) (Nat.zero_le _) R3 ?_
  show Wp _ _ _ 144 [(8, .int (nI r2.1)), (7, .int (nI r1.1)), (5, .int (nI b)), (4, .int (nI a)), (3, .int 2), (0, .ref 47), (1, .int 1), (2, .int (nI g))] [.int (nI r3.1)] h3 _ _
  refine r_iconst (v := 1) (q136 (i := 89) rfl) (by decide) ?_
  refine r_ixor (q136 (i := 90) rfl) ?_
  rw [show ((nI r3.1) ^^^ 1 : Int32) = nI (r3.1 ^^^ 1) from xor1 _]
  refine r_istore (ls' := [(6, .int (nI (r3.1 ^^^ 1))), (8, .int (nI r2.1)), (7, .int (nI r1.1)), (5, .int (nI b)), (4, .int (nI a)), (3, .int 2), (0, .ref 47), (1, .int 1), (2, .int (nI g))]) (q136 (i := 91) rfl) (Nat.le_of_ble_eq_true rfl) rfl ?_
  refine r_goto 268 (q136 (i := 92) rfl) (by decide) ?_
  refine r_iload_n (q136 (i := 166) rfl) rfl ?_
  refine r_iconst (v := 3) (q136 (i := 167) rfl) (by decide) ?_
  refine r_icmp 285 (q136 (i := 168) rfl) (by decide) (fun _ => ?_) (fun zz => absurd (show (2 : Int32) < 3 from by decide) zz)
  refine r_iload (q136 (i := 176) rfl) rfl ?_
  exact r_iret (q136 (i := 177) rfl) rfl hQ
set_option maxHeartbeats 2000000 in
set_option maxRecDepth 10000 in
theorem gof1_3 {d : Nat} {h : hp} (S : Sh h) {n g : Nat} {st : gs × (Nat → Nat)} (e1 : hI h 47 1 = nI n) (G : MG h n st.1) (Mk : gmade n g st) (K : cok n (cirB h) g) (hl : ∀ i, i < g → hI h 67 i = nI (st.2 i)) (hn : n ≤ 12) (hg : g < 120) (hC : gC st.1 + 4 < 1000) (hk : (cirB h).1 g = nI 3) : ∃ h', Run (d + 2 + 1) 136 [.ref 47, .int 1, .int (nI g)] h 0 0 (some (.int (nI (gop n (cirB h) st g).1))) h' ∧ MG h' n (gop n (cirB h) st g).2 ∧ FrGM h h' := by
  have hgo := gop_is (n := n) (st := st) hk (by decide)
  have q : (cirB h).1 g ≠ 8 := by rw [hk]; decide
  obtain ⟨a, ea⟩ : ∃ a, a = sd n st.2 (hI h 55 g) := ⟨_, rfl⟩
  obtain ⟨b, eb⟩ : ∃ b, b = sd n st.2 (hI h 58 g) := ⟨_, rfl⟩
  have ha : a < 2 * gC st.1 := by rw [ea]; exact sd_lt Mk (by omega) (K.2.1 q).1
  have hb : b < 2 * gC st.1 := by rw [eb]; exact sd_lt Mk (by omega) (K.2.1 q).2
  have Ra := sp_side1 (d := d + 1) (s := hI h 55 g) S e1 hl hn (by omega) (K.2.1 q).1
  have Rb := sp_side1 (d := d + 1) (s := hI h 58 g) S e1 hl hn (by omega) (K.2.1 q).2
  rw [← ea] at Ra
  rw [← eb] at Rb
  obtain ⟨r1, er1⟩ : ∃ r, r = gand n st.1 (a) (b) := ⟨_, rfl⟩
  obtain ⟨h1, R1, G1, F1, ok1⟩ := sp_mand (d := d) S e1 G (by omega) Mk.1 (by omega) (by omega) er1
  obtain ⟨w1, u1, v1, x1⟩ := ok1
  have S1 := F1.S S
  have e1_1 : hI h1 47 1 = nI n := (F1.2.2.1 1 (by decide)).trans e1
  have hgo2 : gop n (cirB h) st g = (r1.1 ^^^ 1, r1.2) := by
    rw [hgo, er1, ea, eb]
    rfl
  refine ⟨h1, ?_, by rw [hgo2]; exact G1, F1⟩
  rw [hgo2]
  refine Run.of (d := d + 2) (Nat.le_of_ble_eq_true rfl) (fun Q hQ => ?_)
  show Wp (Ex (d + 2)) 136 Q 0 [(0, .ref 47), (1, .int 1), (2, .int (nI g))] [] h 0 0
  refine r_aload_n (q136 (i := 0) rfl) rfl ?_
  refine r_getR (b := 50) (q136 (i := 1) rfl) rfl (by decide) (k_47 S) (fun _ _ _ => rfl) (r_47_4 S) ?_
  refine r_iload_n (q136 (i := 2) rfl) rfl ?_
  refine r_aaload5 (q136 (i := 3) rfl) (k_50 S) (vp_in_nI (n := 1) (by decide) (by decide)) (r_50_1 S) ?_
  refine r_iload_n (q136 (i := 4) rfl) rfl ?_
  refine r_iaN (x := 3) (q136 (i := 5) rfl) (k_52 S) (by omega) (by decide) hk ?_
  refine r_istore_n (ls' := [(3, .int 3), (0, .ref 47), (1, .int 1), (2, .int (nI g))]) (q136 (i := 6) rfl) (Nat.le_of_ble_eq_true rfl) rfl ?_
  refine r_iload_n (q136 (i := 7) rfl) rfl ?_
  refine r_bipush (v := 8) (q136 (i := 8) rfl) (by decide) ?_
  refine r_icmp 17 (q136 (i := 9) rfl) (by decide) (fun _ => ?_) (fun zz => absurd (show ¬ (3 : Int32) = 8 from by decide) zz)
  refine r_aload_n (q136 (i := 12) rfl) rfl ?_
  refine r_iload_n (q136 (i := 13) rfl) rfl ?_
  refine r_aload_n (q136 (i := 14) rfl) rfl ?_
  refine r_getR (b := 53) (q136 (i := 15) rfl) rfl (by decide) (k_47 S) (fun _ _ _ => rfl) (r_47_5 S) ?_
  refine r_iload_n (q136 (i := 16) rfl) rfl ?_
  refine r_aaload5 (q136 (i := 17) rfl) (k_53 S) (vp_in_nI (n := 1) (by decide) (by decide)) (r_53_1 S) ?_
  refine r_iload_n (q136 (i := 18) rfl) rfl ?_
  refine r_iaN (x := hI h 55 g) (q136 (i := 19) rfl) (k_55 S) (by omega) (by decide) rfl ?_
  refine r_cV (d := _) (q136 (i := 20) rfl) rfl rfl rfl (k_47 S) (Nat.le_of_ble_eq_true rfl) (Nat.zero_le _) (Nat.zero_le _) Ra ?_
  show Wp _ _ _ 30 [(3, .int 3), (0, .ref 47), (1, .int 1), (2, .int (nI g))] [.int (nI a)] h _ _
  refine r_istore (ls' := [(4, .int (nI a)), (3, .int 3), (0, .ref 47), (1, .int 1), (2, .int (nI g))]) (q136 (i := 21) rfl) (Nat.le_of_ble_eq_true rfl) rfl ?_
  refine r_aload_n (q136 (i := 22) rfl) rfl ?_
  refine r_iload_n (q136 (i := 23) rfl) rfl ?_
  refine r_aload_n (q136 (i := 24) rfl) rfl ?_
  refine r_getR (b := 56) (q136 (i := 25) rfl) rfl (by decide) (k_47 S) (fun _ _ _ => rfl) (r_47_6 S) ?_
  refine r_iload_n (q136 (i := 26) rfl) rfl ?_
  refine r_aaload5 (q136 (i := 27) rfl) (k_56 S) (vp_in_nI (n := 1) (by decide) (by decide)) (r_56_1 S) ?_
  refine r_iload_n (q136 (i := 28) rfl) rfl ?_
  refine r_iaN (x := hI h 58 g) (q136 (i := 29) rfl) (k_58 S) (by omega) (by decide) rfl ?_
  refine r_cV (d := _) (q136 (i := 30) rfl) rfl rfl rfl (k_47 S) (Nat.le_of_ble_eq_true rfl) (Nat.zero_le _) (Nat.zero_le _) Rb ?_
  show Wp _ _ _ 45 [(4, .int (nI a)), (3, .int 3), (0, .ref 47), (1, .int 1), (2, .int (nI g))] [.int (nI b)] h _ _
  refine r_istore (ls' := [(5, .int (nI b)), (4, .int (nI a)), (3, .int 3), (0, .ref 47), (1, .int 1), (2, .int (nI g))]) (q136 (i := 31) rfl) (Nat.le_of_ble_eq_true rfl) rfl ?_
  refine r_iload_n (q136 (i := 32) rfl) rfl ?_
  refine r_if 56 (q136 (i := 33) rfl) (by decide) (fun zz => absurd zz (show ¬ ((3 : Int32) = 0) from by decide)) (fun _ => ?_)
  refine r_iload_n (q136 (i := 34) rfl) rfl ?_
  refine r_iconst (v := 3) (q136 (i := 35) rfl) (by decide) ?_
  refine r_icmp 69 (q136 (i := 36) rfl) (by decide) (fun zz => absurd zz (show ¬ (¬ (3 : Int32) = 3) from by decide)) (fun _ => ?_)
  refine r_aload_n (q136 (i := 37) rfl) rfl ?_
  refine r_iload (q136 (i := 38) rfl) rfl ?_
  refine r_iload (q136 (i := 39) rfl) rfl ?_
  refine r_cV (d := _) (q136 (i := 40) rfl) rfl rfl rfl (k_47 S) (Nat.le_of_ble_eq_true rfl) (Nat.zero_le _) (Nat.zero_le _) R1 ?_
  show Wp _ _ _ 64 [(5, .int (nI b)), (4, .int (nI a)), (3, .int 3), (0, .ref 47), (1, .int 1), (2, .int (nI g))] [.int (nI r1.1)] h1 _ _
  refine r_istore (ls' := [(6, .int (nI r1.1)), (5, .int (nI b)), (4, .int (nI a)), (3, .int 3), (0, .ref 47), (1, .int 1), (2, .int (nI g))]) (q136 (i := 41) rfl) (Nat.le_of_ble_eq_true rfl) rfl ?_
  refine r_goto 268 (q136 (i := 42) rfl) (by decide) ?_
  refine r_iload_n (q136 (i := 166) rfl) rfl ?_
  refine r_iconst (v := 3) (q136 (i := 167) rfl) (by decide) ?_
  refine r_icmp 285 (q136 (i := 168) rfl) (by decide) (fun zz => absurd zz (show ¬ ((3 : Int32) < 3) from by decide)) (fun _ => ?_)
  refine r_iload_n (q136 (i := 169) rfl) rfl ?_
  refine r_iconst (v := 5) (q136 (i := 170) rfl) (by decide) ?_
  refine r_icmp 285 (q136 (i := 171) rfl) (by decide) (fun zz => absurd zz (show ¬ (5 < (3 : Int32)) from by decide)) (fun _ => ?_)
  refine r_iload (q136 (i := 172) rfl) rfl ?_
  refine r_iconst (v := 1) (q136 (i := 173) rfl) (by decide) ?_
  refine r_ixor (q136 (i := 174) rfl) ?_
  rw [show ((nI r1.1) ^^^ 1 : Int32) = nI (r1.1 ^^^ 1) from xor1 _]
  refine r_goto 287 (q136 (i := 175) rfl) (by decide) ?_
  exact r_iret (q136 (i := 177) rfl) rfl hQ
set_option maxHeartbeats 2000000 in
set_option maxRecDepth 10000 in
theorem gof1_4 {d : Nat} {h : hp} (S : Sh h) {n g : Nat} {st : gs × (Nat → Nat)} (e1 : hI h 47 1 = nI n) (G : MG h n st.1) (Mk : gmade n g st) (K : cok n (cirB h) g) (hl : ∀ i, i < g → hI h 67 i = nI (st.2 i)) (hn : n ≤ 12) (hg : g < 120) (hC : gC st.1 + 4 < 1000) (hk : (cirB h).1 g = nI 4) : ∃ h', Run (d + 2 + 1) 136 [.ref 47, .int 1, .int (nI g)] h 0 0 (some (.int (nI (gop n (cirB h) st g).1))) h' ∧ MG h' n (gop n (cirB h) st g).2 ∧ FrGM h h' := by
  have hgo := gop_is (n := n) (st := st) hk (by decide)
  have q : (cirB h).1 g ≠ 8 := by rw [hk]; decide
  obtain ⟨a, ea⟩ : ∃ a, a = sd n st.2 (hI h 55 g) := ⟨_, rfl⟩
  obtain ⟨b, eb⟩ : ∃ b, b = sd n st.2 (hI h 58 g) := ⟨_, rfl⟩
  have ha : a < 2 * gC st.1 := by rw [ea]; exact sd_lt Mk (by omega) (K.2.1 q).1
  have hb : b < 2 * gC st.1 := by rw [eb]; exact sd_lt Mk (by omega) (K.2.1 q).2
  have Ra := sp_side1 (d := d + 1) (s := hI h 55 g) S e1 hl hn (by omega) (K.2.1 q).1
  have Rb := sp_side1 (d := d + 1) (s := hI h 58 g) S e1 hl hn (by omega) (K.2.1 q).2
  rw [← ea] at Ra
  rw [← eb] at Rb
  obtain ⟨r1, er1⟩ : ∃ r, r = gand n st.1 (a ^^^ 1) (b ^^^ 1) := ⟨_, rfl⟩
  obtain ⟨h1, R1, G1, F1, ok1⟩ := sp_mand (d := d) S e1 G (by omega) Mk.1 (xor1_lt (by omega)) (xor1_lt (by omega)) er1
  obtain ⟨w1, u1, v1, x1⟩ := ok1
  have S1 := F1.S S
  have e1_1 : hI h1 47 1 = nI n := (F1.2.2.1 1 (by decide)).trans e1
  have hgo2 : gop n (cirB h) st g = r1 := by
    rw [hgo, gkind_4, if_neg (by decide), if_neg (by decide), er1, ea, eb]
    try rfl
  refine ⟨h1, ?_, by rw [hgo2]; exact G1, F1⟩
  rw [hgo2]
  refine Run.of (d := d + 2) (Nat.le_of_ble_eq_true rfl) (fun Q hQ => ?_)
  show Wp (Ex (d + 2)) 136 Q 0 [(0, .ref 47), (1, .int 1), (2, .int (nI g))] [] h 0 0
  refine r_aload_n (q136 (i := 0) rfl) rfl ?_
  refine r_getR (b := 50) (q136 (i := 1) rfl) rfl (by decide) (k_47 S) (fun _ _ _ => rfl) (r_47_4 S) ?_
  refine r_iload_n (q136 (i := 2) rfl) rfl ?_
  refine r_aaload5 (q136 (i := 3) rfl) (k_50 S) (vp_in_nI (n := 1) (by decide) (by decide)) (r_50_1 S) ?_
  refine r_iload_n (q136 (i := 4) rfl) rfl ?_
  refine r_iaN (x := 4) (q136 (i := 5) rfl) (k_52 S) (by omega) (by decide) hk ?_
  refine r_istore_n (ls' := [(3, .int 4), (0, .ref 47), (1, .int 1), (2, .int (nI g))]) (q136 (i := 6) rfl) (Nat.le_of_ble_eq_true rfl) rfl ?_
  refine r_iload_n (q136 (i := 7) rfl) rfl ?_
  refine r_bipush (v := 8) (q136 (i := 8) rfl) (by decide) ?_
  refine r_icmp 17 (q136 (i := 9) rfl) (by decide) (fun _ => ?_) (fun zz => absurd (show ¬ (4 : Int32) = 8 from by decide) zz)
  refine r_aload_n (q136 (i := 12) rfl) rfl ?_
  refine r_iload_n (q136 (i := 13) rfl) rfl ?_
  refine r_aload_n (q136 (i := 14) rfl) rfl ?_
  refine r_getR (b := 53) (q136 (i := 15) rfl) rfl (by decide) (k_47 S) (fun _ _ _ => rfl) (r_47_5 S) ?_
  refine r_iload_n (q136 (i := 16) rfl) rfl ?_
  refine r_aaload5 (q136 (i := 17) rfl) (k_53 S) (vp_in_nI (n := 1) (by decide) (by decide)) (r_53_1 S) ?_
  refine r_iload_n (q136 (i := 18) rfl) rfl ?_
  refine r_iaN (x := hI h 55 g) (q136 (i := 19) rfl) (k_55 S) (by omega) (by decide) rfl ?_
  refine r_cV (d := _) (q136 (i := 20) rfl) rfl rfl rfl (k_47 S) (Nat.le_of_ble_eq_true rfl) (Nat.zero_le _) (Nat.zero_le _) Ra ?_
  show Wp _ _ _ 30 [(3, .int 4), (0, .ref 47), (1, .int 1), (2, .int (nI g))] [.int (nI a)] h _ _
  refine r_istore (ls' := [(4, .int (nI a)), (3, .int 4), (0, .ref 47), (1, .int 1), (2, .int (nI g))]) (q136 (i := 21) rfl) (Nat.le_of_ble_eq_true rfl) rfl ?_
  refine r_aload_n (q136 (i := 22) rfl) rfl ?_
  refine r_iload_n (q136 (i := 23) rfl) rfl ?_
  refine r_aload_n (q136 (i := 24) rfl) rfl ?_
  refine r_getR (b := 56) (q136 (i := 25) rfl) rfl (by decide) (k_47 S) (fun _ _ _ => rfl) (r_47_6 S) ?_
  refine r_iload_n (q136 (i := 26) rfl) rfl ?_
  refine r_aaload5 (q136 (i := 27) rfl) (k_56 S) (vp_in_nI (n := 1) (by decide) (by decide)) (r_56_1 S) ?_
  refine r_iload_n (q136 (i := 28) rfl) rfl ?_
  refine r_iaN (x := hI h 58 g) (q136 (i := 29) rfl) (k_58 S) (by omega) (by decide) rfl ?_
  refine r_cV (d := _) (q136 (i := 30) rfl) rfl rfl rfl (k_47 S) (Nat.le_of_ble_eq_true rfl) (Nat.zero_le _) (Nat.zero_le _) Rb ?_
  show Wp _ _ _ 45 [(4, .int (nI a)), (3, .int 4), (0, .ref 47), (1, .int 1), (2, .int (nI g))] [.int (nI b)] h _ _
  refine r_istore (ls' := [(5, .int (nI b)), (4, .int (nI a)), (3, .int 4), (0, .ref 47), (1, .int 1), (2, .int (nI g))]) (q136 (i := 31) rfl) (Nat.le_of_ble_eq_true rfl) rfl ?_
  refine r_iload_n (q136 (i := 32) rfl) rfl ?_
  refine r_if 56 (q136 (i := 33) rfl) (by decide) (fun zz => absurd zz (show ¬ ((4 : Int32) = 0) from by decide)) (fun _ => ?_)
  refine r_iload_n (q136 (i := 34) rfl) rfl ?_
  refine r_iconst (v := 3) (q136 (i := 35) rfl) (by decide) ?_
  refine r_icmp 69 (q136 (i := 36) rfl) (by decide) (fun _ => ?_) (fun zz => absurd (show ¬ (4 : Int32) = 3 from by decide) zz)
  refine r_iload_n (q136 (i := 43) rfl) rfl ?_
  refine r_iconst (v := 1) (q136 (i := 44) rfl) (by decide) ?_
  refine r_icmp 79 (q136 (i := 45) rfl) (by decide) (fun zz => absurd zz (show ¬ ((4 : Int32) = 1) from by decide)) (fun _ => ?_)
  refine r_iload_n (q136 (i := 46) rfl) rfl ?_
  refine r_iconst (v := 4) (q136 (i := 47) rfl) (by decide) ?_
  refine r_icmp 98 (q136 (i := 48) rfl) (by decide) (fun zz => absurd zz (show ¬ (¬ (4 : Int32) = 4) from by decide)) (fun _ => ?_)
  refine r_aload_n (q136 (i := 49) rfl) rfl ?_
  refine r_iload (q136 (i := 50) rfl) rfl ?_
  refine r_iconst (v := 1) (q136 (i := 51) rfl) (by decide) ?_
  refine r_ixor (q136 (i := 52) rfl) ?_
  rw [show ((nI a) ^^^ 1 : Int32) = nI (a ^^^ 1) from xor1 _]
  refine r_iload (q136 (i := 53) rfl) rfl ?_
  refine r_iconst (v := 1) (q136 (i := 54) rfl) (by decide) ?_
  refine r_ixor (q136 (i := 55) rfl) ?_
  rw [show ((nI b) ^^^ 1 : Int32) = nI (b ^^^ 1) from xor1 _]
  refine r_cV (d := _) (q136 (i := 56) rfl) rfl rfl rfl (k_47 S) (Nat.le_of_ble_eq_true rfl) (Nat.zero_le _) (Nat.zero_le _) R1 ?_
  show Wp _ _ _ 91 [(5, .int (nI b)), (4, .int (nI a)), (3, .int 4), (0, .ref 47), (1, .int 1), (2, .int (nI g))] [.int (nI r1.1)] h1 _ _
  refine r_iconst (v := 1) (q136 (i := 57) rfl) (by decide) ?_
  refine r_ixor (q136 (i := 58) rfl) ?_
  rw [show ((nI r1.1) ^^^ 1 : Int32) = nI (r1.1 ^^^ 1) from xor1 _]
  refine r_istore (ls' := [(6, .int (nI (r1.1 ^^^ 1))), (5, .int (nI b)), (4, .int (nI a)), (3, .int 4), (0, .ref 47), (1, .int 1), (2, .int (nI g))]) (q136 (i := 59) rfl) (Nat.le_of_ble_eq_true rfl) rfl ?_
  refine r_goto 268 (q136 (i := 60) rfl) (by decide) ?_
  refine r_iload_n (q136 (i := 166) rfl) rfl ?_
  refine r_iconst (v := 3) (q136 (i := 167) rfl) (by decide) ?_
  refine r_icmp 285 (q136 (i := 168) rfl) (by decide) (fun zz => absurd zz (show ¬ ((4 : Int32) < 3) from by decide)) (fun _ => ?_)
  refine r_iload_n (q136 (i := 169) rfl) rfl ?_
  refine r_iconst (v := 5) (q136 (i := 170) rfl) (by decide) ?_
  refine r_icmp 285 (q136 (i := 171) rfl) (by decide) (fun zz => absurd zz (show ¬ (5 < (4 : Int32)) from by decide)) (fun _ => ?_)
  refine r_iload (q136 (i := 172) rfl) rfl ?_
  refine r_iconst (v := 1) (q136 (i := 173) rfl) (by decide) ?_
  refine r_ixor (q136 (i := 174) rfl) ?_
  rw [show ((nI (r1.1 ^^^ 1)) ^^^ 1 : Int32) = nI r1.1 from xor11 _]
  refine r_goto 287 (q136 (i := 175) rfl) (by decide) ?_
  exact r_iret (q136 (i := 177) rfl) rfl hQ
set_option maxHeartbeats 2000000 in
set_option maxRecDepth 10000 in
theorem gof1_5 {d : Nat} {h : hp} (S : Sh h) {n g : Nat} {st : gs × (Nat → Nat)} (e1 : hI h 47 1 = nI n) (G : MG h n st.1) (Mk : gmade n g st) (K : cok n (cirB h) g) (hl : ∀ i, i < g → hI h 67 i = nI (st.2 i)) (hn : n ≤ 12) (hg : g < 120) (hC : gC st.1 + 4 < 1000) (hk : (cirB h).1 g = nI 5) : ∃ h', Run (d + 2 + 1) 136 [.ref 47, .int 1, .int (nI g)] h 0 0 (some (.int (nI (gop n (cirB h) st g).1))) h' ∧ MG h' n (gop n (cirB h) st g).2 ∧ FrGM h h' := by
  have hgo := gop_is (n := n) (st := st) hk (by decide)
  have q : (cirB h).1 g ≠ 8 := by rw [hk]; decide
  obtain ⟨a, ea⟩ : ∃ a, a = sd n st.2 (hI h 55 g) := ⟨_, rfl⟩
  obtain ⟨b, eb⟩ : ∃ b, b = sd n st.2 (hI h 58 g) := ⟨_, rfl⟩
  have ha : a < 2 * gC st.1 := by rw [ea]; exact sd_lt Mk (by omega) (K.2.1 q).1
  have hb : b < 2 * gC st.1 := by rw [eb]; exact sd_lt Mk (by omega) (K.2.1 q).2
  have Ra := sp_side1 (d := d + 1) (s := hI h 55 g) S e1 hl hn (by omega) (K.2.1 q).1
  have Rb := sp_side1 (d := d + 1) (s := hI h 58 g) S e1 hl hn (by omega) (K.2.1 q).2
  rw [← ea] at Ra
  rw [← eb] at Rb
  obtain ⟨r1, er1⟩ : ∃ r, r = gand n st.1 (a) (b ^^^ 1) := ⟨_, rfl⟩
  obtain ⟨h1, R1, G1, F1, ok1⟩ := sp_mand (d := d) S e1 G (by omega) Mk.1 (by omega) (xor1_lt (by omega)) er1
  obtain ⟨w1, u1, v1, x1⟩ := ok1
  have S1 := F1.S S
  have e1_1 : hI h1 47 1 = nI n := (F1.2.2.1 1 (by decide)).trans e1
  obtain ⟨r2, er2⟩ : ∃ r, r = gand n r1.2 (a ^^^ 1) (b) := ⟨_, rfl⟩
  obtain ⟨h2, R2, G2, F2, ok2⟩ := sp_mand (d := d) S1 e1_1 G1 (by omega) w1 (xor1_lt (by omega)) (by omega) er2
  obtain ⟨w2, u2, v2, x2⟩ := ok2
  have S2 := F2.S S1
  have e1_2 : hI h2 47 1 = nI n := (F2.2.2.1 1 (by decide)).trans e1_1
  obtain ⟨r3, er3⟩ : ∃ r, r = gand n r2.2 (r1.1 ^^^ 1) (r2.1 ^^^ 1) := ⟨_, rfl⟩
  obtain ⟨h3, R3, G3, F3, ok3⟩ := sp_mand (d := d) S2 e1_2 G2 (by omega) w2 (xor1_lt (by omega)) (xor1_lt (by omega)) er3
  obtain ⟨w3, u3, v3, x3⟩ := ok3
  have S3 := F3.S S2
  have e1_3 : hI h3 47 1 = nI n := (F3.2.2.1 1 (by decide)).trans e1_2
  have hgo2 : gop n (cirB h) st g = (r3.1 ^^^ 1 ^^^ 1, r3.2) := by
    rw [hgo, er3, er2, er1, ea, eb]
    rfl
  refine ⟨h3, ?_, by rw [hgo2]; exact G3, ((F1.tr F2).tr F3)⟩
  rw [hgo2]
  refine Run.of (d := d + 2) (Nat.le_of_ble_eq_true rfl) (fun Q hQ => ?_)
  show Wp (Ex (d + 2)) 136 Q 0 [(0, .ref 47), (1, .int 1), (2, .int (nI g))] [] h 0 0
  refine r_aload_n (q136 (i := 0) rfl) rfl ?_
  refine r_getR (b := 50) (q136 (i := 1) rfl) rfl (by decide) (k_47 S) (fun _ _ _ => rfl) (r_47_4 S) ?_
  refine r_iload_n (q136 (i := 2) rfl) rfl ?_
  refine r_aaload5 (q136 (i := 3) rfl) (k_50 S) (vp_in_nI (n := 1) (by decide) (by decide)) (r_50_1 S) ?_
  refine r_iload_n (q136 (i := 4) rfl) rfl ?_
  refine r_iaN (x := 5) (q136 (i := 5) rfl) (k_52 S) (by omega) (by decide) hk ?_
  refine r_istore_n (ls' := [(3, .int 5), (0, .ref 47), (1, .int 1), (2, .int (nI g))]) (q136 (i := 6) rfl) (Nat.le_of_ble_eq_true rfl) rfl ?_
  refine r_iload_n (q136 (i := 7) rfl) rfl ?_
  refine r_bipush (v := 8) (q136 (i := 8) rfl) (by decide) ?_
  refine r_icmp 17 (q136 (i := 9) rfl) (by decide) (fun _ => ?_) (fun zz => absurd (show ¬ (5 : Int32) = 8 from by decide) zz)
  refine r_aload_n (q136 (i := 12) rfl) rfl ?_
  refine r_iload_n (q136 (i := 13) rfl) rfl ?_
  refine r_aload_n (q136 (i := 14) rfl) rfl ?_
  refine r_getR (b := 53) (q136 (i := 15) rfl) rfl (by decide) (k_47 S) (fun _ _ _ => rfl) (r_47_5 S) ?_
  refine r_iload_n (q136 (i := 16) rfl) rfl ?_
  refine r_aaload5 (q136 (i := 17) rfl) (k_53 S) (vp_in_nI (n := 1) (by decide) (by decide)) (r_53_1 S) ?_
  refine r_iload_n (q136 (i := 18) rfl) rfl ?_
  refine r_iaN (x := hI h 55 g) (q136 (i := 19) rfl) (k_55 S) (by omega) (by decide) rfl ?_
  refine r_cV (d := _) (q136 (i := 20) rfl) rfl rfl rfl (k_47 S) (Nat.le_of_ble_eq_true rfl) (Nat.zero_le _) (Nat.zero_le _) Ra ?_
  show Wp _ _ _ 30 [(3, .int 5), (0, .ref 47), (1, .int 1), (2, .int (nI g))] [.int (nI a)] h _ _
  refine r_istore (ls' := [(4, .int (nI a)), (3, .int 5), (0, .ref 47), (1, .int 1), (2, .int (nI g))]) (q136 (i := 21) rfl) (Nat.le_of_ble_eq_true rfl) rfl ?_
  refine r_aload_n (q136 (i := 22) rfl) rfl ?_
  refine r_iload_n (q136 (i := 23) rfl) rfl ?_
  refine r_aload_n (q136 (i := 24) rfl) rfl ?_
  refine r_getR (b := 56) (q136 (i := 25) rfl) rfl (by decide) (k_47 S) (fun _ _ _ => rfl) (r_47_6 S) ?_
  refine r_iload_n (q136 (i := 26) rfl) rfl ?_
  refine r_aaload5 (q136 (i := 27) rfl) (k_56 S) (vp_in_nI (n := 1) (by decide) (by decide)) (r_56_1 S) ?_
  refine r_iload_n (q136 (i := 28) rfl) rfl ?_
  refine r_iaN (x := hI h 58 g) (q136 (i := 29) rfl) (k_58 S) (by omega) (by decide) rfl ?_
  refine r_cV (d := _) (q136 (i := 30) rfl) rfl rfl rfl (k_47 S) (Nat.le_of_ble_eq_true rfl) (Nat.zero_le _) (Nat.zero_le _) Rb ?_
  show Wp _ _ _ 45 [(4, .int (nI a)), (3, .int 5), (0, .ref 47), (1, .int 1), (2, .int (nI g))] [.int (nI b)] h _ _
  refine r_istore (ls' := [(5, .int (nI b)), (4, .int (nI a)), (3, .int 5), (0, .ref 47), (1, .int 1), (2, .int (nI g))]) (q136 (i := 31) rfl) (Nat.le_of_ble_eq_true rfl) rfl ?_
  refine r_iload_n (q136 (i := 32) rfl) rfl ?_
  refine r_if 56 (q136 (i := 33) rfl) (by decide) (fun zz => absurd zz (show ¬ ((5 : Int32) = 0) from by decide)) (fun _ => ?_)
  refine r_iload_n (q136 (i := 34) rfl) rfl ?_
  refine r_iconst (v := 3) (q136 (i := 35) rfl) (by decide) ?_
  refine r_icmp 69 (q136 (i := 36) rfl) (by decide) (fun _ => ?_) (fun zz => absurd (show ¬ (5 : Int32) = 3 from by decide) zz)
  refine r_iload_n (q136 (i := 43) rfl) rfl ?_
  refine r_iconst (v := 1) (q136 (i := 44) rfl) (by decide) ?_
  refine r_icmp 79 (q136 (i := 45) rfl) (by decide) (fun zz => absurd zz (show ¬ ((5 : Int32) = 1) from by decide)) (fun _ => ?_)
  refine r_iload_n (q136 (i := 46) rfl) rfl ?_
  refine r_iconst (v := 4) (q136 (i := 47) rfl) (by decide) ?_
  refine r_icmp 98 (q136 (i := 48) rfl) (by decide) (fun _ => ?_) (fun zz => absurd (show ¬ (5 : Int32) = 4 from by decide) zz)
  refine r_iload_n (q136 (i := 61) rfl) rfl ?_
  refine r_iconst (v := 2) (q136 (i := 62) rfl) (by decide) ?_
  refine r_icmp 108 (q136 (i := 63) rfl) (by decide) (fun zz => absurd zz (show ¬ ((5 : Int32) = 2) from by decide)) (fun _ => ?_)
  refine r_iload_n (q136 (i := 64) rfl) rfl ?_
  refine r_iconst (v := 5) (q136 (i := 65) rfl) (by decide) ?_
  refine r_icmp 151 (q136 (i := 66) rfl) (by decide) (fun zz => absurd zz (show ¬ (¬ (5 : Int32) = 5) from by decide)) (fun _ => ?_)
  refine r_aload_n (q136 (i := 67) rfl) rfl ?_
  refine r_iload (q136 (i := 68) rfl) rfl ?_
  refine r_iload (q136 (i := 69) rfl) rfl ?_
  refine r_iconst (v := 1) (q136 (i := 70) rfl) (by decide) ?_
  refine r_ixor (q136 (i := 71) rfl) ?_
  rw [show ((nI b) ^^^ 1 : Int32) = nI (b ^^^ 1) from xor1 _]
  refine r_cV (d := _) (q136 (i := 72) rfl) rfl rfl rfl (k_47 S) (Nat.le_of_ble_eq_true rfl) (Nat.zero_le _) (Nat.zero_le _) R1 ?_
  show Wp _ _ _ 118 [(5, .int (nI b)), (4, .int (nI a)), (3, .int 5), (0, .ref 47), (1, .int 1), (2, .int (nI g))] [.int (nI r1.1)] h1 _ _
  refine r_istore (ls' := [(7, .int (nI r1.1)), (5, .int (nI b)), (4, .int (nI a)), (3, .int 5), (0, .ref 47), (1, .int 1), (2, .int (nI g))]) (q136 (i := 73) rfl) (Nat.le_of_ble_eq_true rfl) rfl ?_
  refine r_aload_n (q136 (i := 74) rfl) rfl ?_
  refine r_iload (q136 (i := 75) rfl) rfl ?_
  refine r_iconst (v := 1) (q136 (i := 76) rfl) (by decide) ?_
  refine r_ixor (q136 (i := 77) rfl) ?_
  rw [show ((nI a) ^^^ 1 : Int32) = nI (a ^^^ 1) from xor1 _]
  refine r_iload (q136 (i := 78) rfl) rfl ?_
  refine r_cV (d := _) (q136 (i := 79) rfl) rfl rfl rfl (k_47 S1) (Nat.le_of_ble_eq_true rfl) (Nat.zero_le _) (Nat.zero_le _) R2 ?_
  show Wp _ _ _ 130 [(7, .int (nI r1.1)), (5, .int (nI b)), (4, .int (nI a)), (3, .int 5), (0, .ref 47), (1, .int 1), (2, .int (nI g))] [.int (nI r2.1)] h2 _ _
  refine r_istore (ls' := [(8, .int (nI r2.1)), (7, .int (nI r1.1)), (5, .int (nI b)), (4, .int (nI a)), (3, .int 5), (0, .ref 47), (1, .int 1), (2, .int (nI g))]) (q136 (i := 80) rfl) (Nat.le_of_ble_eq_true rfl) rfl ?_
  refine r_aload_n (q136 (i := 81) rfl) rfl ?_
  refine r_iload (q136 (i := 82) rfl) rfl ?_
  refine r_iconst (v := 1) (q136 (i := 83) rfl) (by decide) ?_
  refine r_ixor (q136 (i := 84) rfl) ?_
  rw [show ((nI r1.1) ^^^ 1 : Int32) = nI (r1.1 ^^^ 1) from xor1 _]
  refine r_iload (q136 (i := 85) rfl) rfl ?_
  refine r_iconst (v := 1) (q136 (i := 86) rfl) (by decide) ?_
  refine r_ixor (q136 (i := 87) rfl) ?_
  rw [show ((nI r2.1) ^^^ 1 : Int32) = nI (r2.1 ^^^ 1) from xor1 _]
  refine r_cV (d := _) (q136 (i := 88) rfl) rfl rfl rfl (k_47 S2) (Nat.le_of_ble_eq_true rfl) (Nat.zero_le _) (Nat.zero_le _) R3 ?_
  show Wp _ _ _ 144 [(8, .int (nI r2.1)), (7, .int (nI r1.1)), (5, .int (nI b)), (4, .int (nI a)), (3, .int 5), (0, .ref 47), (1, .int 1), (2, .int (nI g))] [.int (nI r3.1)] h3 _ _
  refine r_iconst (v := 1) (q136 (i := 89) rfl) (by decide) ?_
  refine r_ixor (q136 (i := 90) rfl) ?_
  rw [show ((nI r3.1) ^^^ 1 : Int32) = nI (r3.1 ^^^ 1) from xor1 _]
  refine r_istore (ls' := [(6, .int (nI (r3.1 ^^^ 1))), (8, .int (nI r2.1)), (7, .int (nI r1.1)), (5, .int (nI b)), (4, .int (nI a)), (3, .int 5), (0, .ref 47), (1, .int 1), (2, .int (nI g))]) (q136 (i := 91) rfl) (Nat.le_of_ble_eq_true rfl) rfl ?_
  refine r_goto 268 (q136 (i := 92) rfl) (by decide) ?_
  refine r_iload_n (q136 (i := 166) rfl) rfl ?_
  refine r_iconst (v := 3) (q136 (i := 167) rfl) (by decide) ?_
  refine r_icmp 285 (q136 (i := 168) rfl) (by decide) (fun zz => absurd zz (show ¬ ((5 : Int32) < 3) from by decide)) (fun _ => ?_)
  refine r_iload_n (q136 (i := 169) rfl) rfl ?_
  refine r_iconst (v := 5) (q136 (i := 170) rfl) (by decide) ?_
  refine r_icmp 285 (q136 (i := 171) rfl) (by decide) (fun zz => absurd zz (show ¬ (5 < (5 : Int32)) from by decide)) (fun _ => ?_)
  refine r_iload (q136 (i := 172) rfl) rfl ?_
  refine r_iconst (v := 1) (q136 (i := 173) rfl) (by decide) ?_
  refine r_ixor (q136 (i := 174) rfl) ?_
  rw [show ((nI (r3.1 ^^^ 1)) ^^^ 1 : Int32) = nI (r3.1 ^^^ 1 ^^^ 1) from xor1 _]
  refine r_goto 287 (q136 (i := 175) rfl) (by decide) ?_
  exact r_iret (q136 (i := 177) rfl) rfl hQ
set_option maxHeartbeats 2000000 in
set_option maxRecDepth 10000 in
theorem gof1_6 {d : Nat} {h : hp} (S : Sh h) {n g : Nat} {st : gs × (Nat → Nat)} (e1 : hI h 47 1 = nI n) (G : MG h n st.1) (Mk : gmade n g st) (K : cok n (cirB h) g) (hl : ∀ i, i < g → hI h 67 i = nI (st.2 i)) (hn : n ≤ 12) (hg : g < 120) (hC : gC st.1 + 4 < 1000) (hk : (cirB h).1 g = nI 6) : ∃ h', Run (d + 2 + 1) 136 [.ref 47, .int 1, .int (nI g)] h 0 0 (some (.int (nI (gop n (cirB h) st g).1))) h' ∧ MG h' n (gop n (cirB h) st g).2 ∧ FrGM h h' := by
  have hgo := gop_is (n := n) (st := st) hk (by decide)
  have q : (cirB h).1 g ≠ 8 := by rw [hk]; decide
  obtain ⟨a, ea⟩ : ∃ a, a = sd n st.2 (hI h 55 g) := ⟨_, rfl⟩
  obtain ⟨b, eb⟩ : ∃ b, b = sd n st.2 (hI h 58 g) := ⟨_, rfl⟩
  have ha : a < 2 * gC st.1 := by rw [ea]; exact sd_lt Mk (by omega) (K.2.1 q).1
  have hb : b < 2 * gC st.1 := by rw [eb]; exact sd_lt Mk (by omega) (K.2.1 q).2
  have Ra := sp_side1 (d := d + 1) (s := hI h 55 g) S e1 hl hn (by omega) (K.2.1 q).1
  have Rb := sp_side1 (d := d + 1) (s := hI h 58 g) S e1 hl hn (by omega) (K.2.1 q).2
  rw [← ea] at Ra
  rw [← eb] at Rb
  obtain ⟨r1, er1⟩ : ∃ r, r = gand n st.1 (a) (b) := ⟨_, rfl⟩
  obtain ⟨h1, R1, G1, F1, ok1⟩ := sp_mand (d := d) S e1 G (by omega) Mk.1 (by omega) (by omega) er1
  obtain ⟨w1, u1, v1, x1⟩ := ok1
  have S1 := F1.S S
  have e1_1 : hI h1 47 1 = nI n := (F1.2.2.1 1 (by decide)).trans e1
  have q3 : (cirB h).1 g = 6 ∨ (cirB h).1 g = 7 := by rw [hk]; decide
  obtain ⟨e, ee⟩ : ∃ e, e = sd n st.2 (hI h 61 g) := ⟨_, rfl⟩
  have he : e < 2 * gC st.1 := by rw [ee]; exact sd_lt Mk (by omega) (K.2.2 q3)
  have hl1 : ∀ i, i < g → hI h1 67 i = nI (st.2 i) := fun i hi => by rw [F1.2.1 67 (by decide) (by decide) (by decide)]; exact hl i hi
  have Rt := sp_side1 (d := d + 1) (s := hI h 61 g) S1 e1_1 hl1 hn (by omega) (K.2.2 q3)
  rw [← ee] at Rt
  obtain ⟨r2, er2⟩ : ∃ r, r = gand n r1.2 (a ^^^ 1) (e) := ⟨_, rfl⟩
  obtain ⟨h2, R2, G2, F2, ok2⟩ := sp_mand (d := d) S1 e1_1 G1 (by omega) w1 (xor1_lt (by omega)) (by omega) er2
  obtain ⟨w2, u2, v2, x2⟩ := ok2
  have S2 := F2.S S1
  have e1_2 : hI h2 47 1 = nI n := (F2.2.2.1 1 (by decide)).trans e1_1
  obtain ⟨r3, er3⟩ : ∃ r, r = gand n r2.2 (r1.1 ^^^ 1) (r2.1 ^^^ 1) := ⟨_, rfl⟩
  obtain ⟨h3, R3, G3, F3, ok3⟩ := sp_mand (d := d) S2 e1_2 G2 (by omega) w2 (xor1_lt (by omega)) (xor1_lt (by omega)) er3
  obtain ⟨w3, u3, v3, x3⟩ := ok3
  have S3 := F3.S S2
  have e1_3 : hI h3 47 1 = nI n := (F3.2.2.1 1 (by decide)).trans e1_2
  have hgo2 : gop n (cirB h) st g = (r3.1 ^^^ 1, r3.2) := by
    rw [hgo, er3, er2, er1, ea, eb, ee]
    rfl
  refine ⟨h3, ?_, by rw [hgo2]; exact G3, ((F1.tr F2).tr F3)⟩
  rw [hgo2]
  refine Run.of (d := d + 2) (Nat.le_of_ble_eq_true rfl) (fun Q hQ => ?_)
  show Wp (Ex (d + 2)) 136 Q 0 [(0, .ref 47), (1, .int 1), (2, .int (nI g))] [] h 0 0
  refine r_aload_n (q136 (i := 0) rfl) rfl ?_
  refine r_getR (b := 50) (q136 (i := 1) rfl) rfl (by decide) (k_47 S) (fun _ _ _ => rfl) (r_47_4 S) ?_
  refine r_iload_n (q136 (i := 2) rfl) rfl ?_
  refine r_aaload5 (q136 (i := 3) rfl) (k_50 S) (vp_in_nI (n := 1) (by decide) (by decide)) (r_50_1 S) ?_
  refine r_iload_n (q136 (i := 4) rfl) rfl ?_
  refine r_iaN (x := 6) (q136 (i := 5) rfl) (k_52 S) (by omega) (by decide) hk ?_
  refine r_istore_n (ls' := [(3, .int 6), (0, .ref 47), (1, .int 1), (2, .int (nI g))]) (q136 (i := 6) rfl) (Nat.le_of_ble_eq_true rfl) rfl ?_
  refine r_iload_n (q136 (i := 7) rfl) rfl ?_
  refine r_bipush (v := 8) (q136 (i := 8) rfl) (by decide) ?_
  refine r_icmp 17 (q136 (i := 9) rfl) (by decide) (fun _ => ?_) (fun zz => absurd (show ¬ (6 : Int32) = 8 from by decide) zz)
  refine r_aload_n (q136 (i := 12) rfl) rfl ?_
  refine r_iload_n (q136 (i := 13) rfl) rfl ?_
  refine r_aload_n (q136 (i := 14) rfl) rfl ?_
  refine r_getR (b := 53) (q136 (i := 15) rfl) rfl (by decide) (k_47 S) (fun _ _ _ => rfl) (r_47_5 S) ?_
  refine r_iload_n (q136 (i := 16) rfl) rfl ?_
  refine r_aaload5 (q136 (i := 17) rfl) (k_53 S) (vp_in_nI (n := 1) (by decide) (by decide)) (r_53_1 S) ?_
  refine r_iload_n (q136 (i := 18) rfl) rfl ?_
  refine r_iaN (x := hI h 55 g) (q136 (i := 19) rfl) (k_55 S) (by omega) (by decide) rfl ?_
  refine r_cV (d := _) (q136 (i := 20) rfl) rfl rfl rfl (k_47 S) (Nat.le_of_ble_eq_true rfl) (Nat.zero_le _) (Nat.zero_le _) Ra ?_
  show Wp _ _ _ 30 [(3, .int 6), (0, .ref 47), (1, .int 1), (2, .int (nI g))] [.int (nI a)] h _ _
  refine r_istore (ls' := [(4, .int (nI a)), (3, .int 6), (0, .ref 47), (1, .int 1), (2, .int (nI g))]) (q136 (i := 21) rfl) (Nat.le_of_ble_eq_true rfl) rfl ?_
  refine r_aload_n (q136 (i := 22) rfl) rfl ?_
  refine r_iload_n (q136 (i := 23) rfl) rfl ?_
  refine r_aload_n (q136 (i := 24) rfl) rfl ?_
  refine r_getR (b := 56) (q136 (i := 25) rfl) rfl (by decide) (k_47 S) (fun _ _ _ => rfl) (r_47_6 S) ?_
  refine r_iload_n (q136 (i := 26) rfl) rfl ?_
  refine r_aaload5 (q136 (i := 27) rfl) (k_56 S) (vp_in_nI (n := 1) (by decide) (by decide)) (r_56_1 S) ?_
  refine r_iload_n (q136 (i := 28) rfl) rfl ?_
  refine r_iaN (x := hI h 58 g) (q136 (i := 29) rfl) (k_58 S) (by omega) (by decide) rfl ?_
  refine r_cV (d := _) (q136 (i := 30) rfl) rfl rfl rfl (k_47 S) (Nat.le_of_ble_eq_true rfl) (Nat.zero_le _) (Nat.zero_le _) Rb ?_
  show Wp _ _ _ 45 [(4, .int (nI a)), (3, .int 6), (0, .ref 47), (1, .int 1), (2, .int (nI g))] [.int (nI b)] h _ _
  refine r_istore (ls' := [(5, .int (nI b)), (4, .int (nI a)), (3, .int 6), (0, .ref 47), (1, .int 1), (2, .int (nI g))]) (q136 (i := 31) rfl) (Nat.le_of_ble_eq_true rfl) rfl ?_
  refine r_iload_n (q136 (i := 32) rfl) rfl ?_
  refine r_if 56 (q136 (i := 33) rfl) (by decide) (fun zz => absurd zz (show ¬ ((6 : Int32) = 0) from by decide)) (fun _ => ?_)
  refine r_iload_n (q136 (i := 34) rfl) rfl ?_
  refine r_iconst (v := 3) (q136 (i := 35) rfl) (by decide) ?_
  refine r_icmp 69 (q136 (i := 36) rfl) (by decide) (fun _ => ?_) (fun zz => absurd (show ¬ (6 : Int32) = 3 from by decide) zz)
  refine r_iload_n (q136 (i := 43) rfl) rfl ?_
  refine r_iconst (v := 1) (q136 (i := 44) rfl) (by decide) ?_
  refine r_icmp 79 (q136 (i := 45) rfl) (by decide) (fun zz => absurd zz (show ¬ ((6 : Int32) = 1) from by decide)) (fun _ => ?_)
  refine r_iload_n (q136 (i := 46) rfl) rfl ?_
  refine r_iconst (v := 4) (q136 (i := 47) rfl) (by decide) ?_
  refine r_icmp 98 (q136 (i := 48) rfl) (by decide) (fun _ => ?_) (fun zz => absurd (show ¬ (6 : Int32) = 4 from by decide) zz)
  refine r_iload_n (q136 (i := 61) rfl) rfl ?_
  refine r_iconst (v := 2) (q136 (i := 62) rfl) (by decide) ?_
  refine r_icmp 108 (q136 (i := 63) rfl) (by decide) (fun zz => absurd zz (show ¬ ((6 : Int32) = 2) from by decide)) (fun _ => ?_)
  refine r_iload_n (q136 (i := 64) rfl) rfl ?_
  refine r_iconst (v := 5) (q136 (i := 65) rfl) (by decide) ?_
  refine r_icmp 151 (q136 (i := 66) rfl) (by decide) (fun _ => ?_) (fun zz => absurd (show ¬ (6 : Int32) = 5 from by decide) zz)
  refine r_iload_n (q136 (i := 93) rfl) rfl ?_
  refine r_bipush (v := 6) (q136 (i := 94) rfl) (by decide) ?_
  refine r_icmp 209 (q136 (i := 95) rfl) (by decide) (fun zz => absurd zz (show ¬ (¬ (6 : Int32) = 6) from by decide)) (fun _ => ?_)
  refine r_aload_n (q136 (i := 96) rfl) rfl ?_
  refine r_iload (q136 (i := 97) rfl) rfl ?_
  refine r_iload (q136 (i := 98) rfl) rfl ?_
  refine r_cV (d := _) (q136 (i := 99) rfl) rfl rfl rfl (k_47 S) (Nat.le_of_ble_eq_true rfl) (Nat.zero_le _) (Nat.zero_le _) R1 ?_
  show Wp _ _ _ 165 [(5, .int (nI b)), (4, .int (nI a)), (3, .int 6), (0, .ref 47), (1, .int 1), (2, .int (nI g))] [.int (nI r1.1)] h1 _ _
  refine r_istore (ls' := [(7, .int (nI r1.1)), (5, .int (nI b)), (4, .int (nI a)), (3, .int 6), (0, .ref 47), (1, .int 1), (2, .int (nI g))]) (q136 (i := 100) rfl) (Nat.le_of_ble_eq_true rfl) rfl ?_
  refine r_aload_n (q136 (i := 101) rfl) rfl ?_
  refine r_iload (q136 (i := 102) rfl) rfl ?_
  refine r_iconst (v := 1) (q136 (i := 103) rfl) (by decide) ?_
  refine r_ixor (q136 (i := 104) rfl) ?_
  rw [show ((nI a) ^^^ 1 : Int32) = nI (a ^^^ 1) from xor1 _]
  refine r_aload_n (q136 (i := 105) rfl) rfl ?_
  refine r_iload_n (q136 (i := 106) rfl) rfl ?_
  refine r_aload_n (q136 (i := 107) rfl) rfl ?_
  refine r_getR (b := 59) (q136 (i := 108) rfl) rfl (by decide) (k_47 S1) (fun _ _ _ => rfl) (r_47_7 S1) ?_
  refine r_iload_n (q136 (i := 109) rfl) rfl ?_
  refine r_aaload5 (q136 (i := 110) rfl) (k_59 S1) (vp_in_nI (n := 1) (by decide) (by decide)) (r_59_1 S1) ?_
  refine r_iload_n (q136 (i := 111) rfl) rfl ?_
  refine r_iaN (x := hI h 61 g) (q136 (i := 112) rfl) (k_61 S1) (by omega) (by decide) (congrFun (F1.2.1 61 (by decide) (by decide) (by decide)) g) ?_
  refine r_cV (d := _) (q136 (i := 113) rfl) rfl rfl rfl (k_47 S1) (Nat.le_of_ble_eq_true rfl) (Nat.zero_le _) (Nat.zero_le _) Rt ?_
  show Wp _ _ _ 185 [(7, .int (nI r1.1)), (5, .int (nI b)), (4, .int (nI a)), (3, .int 6), (0, .ref 47), (1, .int 1), (2, .int (nI g))] [.int (nI e), .int (nI (a ^^^ 1)), .ref 47] h1 _ _
  refine r_cV (d := _) (q136 (i := 114) rfl) rfl rfl rfl (k_47 S1) (Nat.le_of_ble_eq_true rfl) (Nat.zero_le _) (Nat.zero_le _) R2 ?_
  show Wp _ _ _ 188 [(7, .int (nI r1.1)), (5, .int (nI b)), (4, .int (nI a)), (3, .int 6), (0, .ref 47), (1, .int 1), (2, .int (nI g))] [.int (nI r2.1)] h2 _ _
  refine r_istore (ls' := [(8, .int (nI r2.1)), (7, .int (nI r1.1)), (5, .int (nI b)), (4, .int (nI a)), (3, .int 6), (0, .ref 47), (1, .int 1), (2, .int (nI g))]) (q136 (i := 115) rfl) (Nat.le_of_ble_eq_true rfl) rfl ?_
  refine r_aload_n (q136 (i := 116) rfl) rfl ?_
  refine r_iload (q136 (i := 117) rfl) rfl ?_
  refine r_iconst (v := 1) (q136 (i := 118) rfl) (by decide) ?_
  refine r_ixor (q136 (i := 119) rfl) ?_
  rw [show ((nI r1.1) ^^^ 1 : Int32) = nI (r1.1 ^^^ 1) from xor1 _]
  refine r_iload (q136 (i := 120) rfl) rfl ?_
  refine r_iconst (v := 1) (q136 (i := 121) rfl) (by decide) ?_
  refine r_ixor (q136 (i := 122) rfl) ?_
  rw [show ((nI r2.1) ^^^ 1 : Int32) = nI (r2.1 ^^^ 1) from xor1 _]
  refine r_cV (d := _) (q136 (i := 123) rfl) rfl rfl rfl (k_47 S2) (Nat.le_of_ble_eq_true rfl) (Nat.zero_le _) (Nat.zero_le _) R3 ?_
  show Wp _ _ _ 202 [(8, .int (nI r2.1)), (7, .int (nI r1.1)), (5, .int (nI b)), (4, .int (nI a)), (3, .int 6), (0, .ref 47), (1, .int 1), (2, .int (nI g))] [.int (nI r3.1)] h3 _ _
  refine r_iconst (v := 1) (q136 (i := 124) rfl) (by decide) ?_
  refine r_ixor (q136 (i := 125) rfl) ?_
  rw [show ((nI r3.1) ^^^ 1 : Int32) = nI (r3.1 ^^^ 1) from xor1 _]
  refine r_istore (ls' := [(6, .int (nI (r3.1 ^^^ 1))), (8, .int (nI r2.1)), (7, .int (nI r1.1)), (5, .int (nI b)), (4, .int (nI a)), (3, .int 6), (0, .ref 47), (1, .int 1), (2, .int (nI g))]) (q136 (i := 126) rfl) (Nat.le_of_ble_eq_true rfl) rfl ?_
  refine r_goto 268 (q136 (i := 127) rfl) (by decide) ?_
  refine r_iload_n (q136 (i := 166) rfl) rfl ?_
  refine r_iconst (v := 3) (q136 (i := 167) rfl) (by decide) ?_
  refine r_icmp 285 (q136 (i := 168) rfl) (by decide) (fun zz => absurd zz (show ¬ ((6 : Int32) < 3) from by decide)) (fun _ => ?_)
  refine r_iload_n (q136 (i := 169) rfl) rfl ?_
  refine r_iconst (v := 5) (q136 (i := 170) rfl) (by decide) ?_
  refine r_icmp 285 (q136 (i := 171) rfl) (by decide) (fun _ => ?_) (fun zz => absurd (show 5 < (6 : Int32) from by decide) zz)
  refine r_iload (q136 (i := 176) rfl) rfl ?_
  exact r_iret (q136 (i := 177) rfl) rfl hQ
set_option maxHeartbeats 2000000 in
set_option maxRecDepth 10000 in
theorem gof1_7 {d : Nat} {h : hp} (S : Sh h) {n g : Nat} {st : gs × (Nat → Nat)} (e1 : hI h 47 1 = nI n) (G : MG h n st.1) (Mk : gmade n g st) (K : cok n (cirB h) g) (hl : ∀ i, i < g → hI h 67 i = nI (st.2 i)) (hn : n ≤ 12) (hg : g < 120) (hC : gC st.1 + 4 < 1000) (hk : (cirB h).1 g = nI 7) : ∃ h', Run (d + 2 + 1) 136 [.ref 47, .int 1, .int (nI g)] h 0 0 (some (.int (nI (gop n (cirB h) st g).1))) h' ∧ MG h' n (gop n (cirB h) st g).2 ∧ FrGM h h' := by
  have hgo := gop_is (n := n) (st := st) hk (by decide)
  have q : (cirB h).1 g ≠ 8 := by rw [hk]; decide
  obtain ⟨a, ea⟩ : ∃ a, a = sd n st.2 (hI h 55 g) := ⟨_, rfl⟩
  obtain ⟨b, eb⟩ : ∃ b, b = sd n st.2 (hI h 58 g) := ⟨_, rfl⟩
  have ha : a < 2 * gC st.1 := by rw [ea]; exact sd_lt Mk (by omega) (K.2.1 q).1
  have hb : b < 2 * gC st.1 := by rw [eb]; exact sd_lt Mk (by omega) (K.2.1 q).2
  have Ra := sp_side1 (d := d + 1) (s := hI h 55 g) S e1 hl hn (by omega) (K.2.1 q).1
  have Rb := sp_side1 (d := d + 1) (s := hI h 58 g) S e1 hl hn (by omega) (K.2.1 q).2
  rw [← ea] at Ra
  rw [← eb] at Rb
  obtain ⟨r1, er1⟩ : ∃ r, r = gand n st.1 (a) (b) := ⟨_, rfl⟩
  obtain ⟨h1, R1, G1, F1, ok1⟩ := sp_mand (d := d) S e1 G (by omega) Mk.1 (by omega) (by omega) er1
  obtain ⟨w1, u1, v1, x1⟩ := ok1
  have S1 := F1.S S
  have e1_1 : hI h1 47 1 = nI n := (F1.2.2.1 1 (by decide)).trans e1
  have q3 : (cirB h).1 g = 6 ∨ (cirB h).1 g = 7 := by rw [hk]; decide
  obtain ⟨e, ee⟩ : ∃ e, e = sd n st.2 (hI h 61 g) := ⟨_, rfl⟩
  have he : e < 2 * gC st.1 := by rw [ee]; exact sd_lt Mk (by omega) (K.2.2 q3)
  have hl1 : ∀ i, i < g → hI h1 67 i = nI (st.2 i) := fun i hi => by rw [F1.2.1 67 (by decide) (by decide) (by decide)]; exact hl i hi
  have Rt := sp_side1 (d := d + 1) (s := hI h 61 g) S1 e1_1 hl1 hn (by omega) (K.2.2 q3)
  rw [← ee] at Rt
  obtain ⟨r2, er2⟩ : ∃ r, r = gand n r1.2 (a ^^^ 1) (b ^^^ 1) := ⟨_, rfl⟩
  obtain ⟨h2, R2, G2, F2, ok2⟩ := sp_mand (d := d) S1 e1_1 G1 (by omega) w1 (xor1_lt (by omega)) (xor1_lt (by omega)) er2
  obtain ⟨w2, u2, v2, x2⟩ := ok2
  have S2 := F2.S S1
  have e1_2 : hI h2 47 1 = nI n := (F2.2.2.1 1 (by decide)).trans e1_1
  obtain ⟨r3, er3⟩ : ∃ r, r = gand n r2.2 (e) (r2.1 ^^^ 1) := ⟨_, rfl⟩
  obtain ⟨h3, R3, G3, F3, ok3⟩ := sp_mand (d := d) S2 e1_2 G2 (by omega) w2 (by omega) (xor1_lt (by omega)) er3
  obtain ⟨w3, u3, v3, x3⟩ := ok3
  have S3 := F3.S S2
  have e1_3 : hI h3 47 1 = nI n := (F3.2.2.1 1 (by decide)).trans e1_2
  obtain ⟨r4, er4⟩ : ∃ r, r = gand n r3.2 (r1.1 ^^^ 1) (r3.1 ^^^ 1) := ⟨_, rfl⟩
  obtain ⟨h4, R4, G4, F4, ok4⟩ := sp_mand (d := d) S3 e1_3 G3 (by omega) w3 (xor1_lt (by omega)) (xor1_lt (by omega)) er4
  obtain ⟨w4, u4, v4, x4⟩ := ok4
  have S4 := F4.S S3
  have e1_4 : hI h4 47 1 = nI n := (F4.2.2.1 1 (by decide)).trans e1_3
  have hgo2 : gop n (cirB h) st g = (r4.1 ^^^ 1, r4.2) := by
    rw [hgo, er4, er3, er2, er1, ea, eb, ee]
    rfl
  refine ⟨h4, ?_, by rw [hgo2]; exact G4, (((F1.tr F2).tr F3).tr F4)⟩
  rw [hgo2]
  refine Run.of (d := d + 2) (Nat.le_of_ble_eq_true rfl) (fun Q hQ => ?_)
  show Wp (Ex (d + 2)) 136 Q 0 [(0, .ref 47), (1, .int 1), (2, .int (nI g))] [] h 0 0
  refine r_aload_n (q136 (i := 0) rfl) rfl ?_
  refine r_getR (b := 50) (q136 (i := 1) rfl) rfl (by decide) (k_47 S) (fun _ _ _ => rfl) (r_47_4 S) ?_
  refine r_iload_n (q136 (i := 2) rfl) rfl ?_
  refine r_aaload5 (q136 (i := 3) rfl) (k_50 S) (vp_in_nI (n := 1) (by decide) (by decide)) (r_50_1 S) ?_
  refine r_iload_n (q136 (i := 4) rfl) rfl ?_
  refine r_iaN (x := 7) (q136 (i := 5) rfl) (k_52 S) (by omega) (by decide) hk ?_
  refine r_istore_n (ls' := [(3, .int 7), (0, .ref 47), (1, .int 1), (2, .int (nI g))]) (q136 (i := 6) rfl) (Nat.le_of_ble_eq_true rfl) rfl ?_
  refine r_iload_n (q136 (i := 7) rfl) rfl ?_
  refine r_bipush (v := 8) (q136 (i := 8) rfl) (by decide) ?_
  refine r_icmp 17 (q136 (i := 9) rfl) (by decide) (fun _ => ?_) (fun zz => absurd (show ¬ (7 : Int32) = 8 from by decide) zz)
  refine r_aload_n (q136 (i := 12) rfl) rfl ?_
  refine r_iload_n (q136 (i := 13) rfl) rfl ?_
  refine r_aload_n (q136 (i := 14) rfl) rfl ?_
  refine r_getR (b := 53) (q136 (i := 15) rfl) rfl (by decide) (k_47 S) (fun _ _ _ => rfl) (r_47_5 S) ?_
  refine r_iload_n (q136 (i := 16) rfl) rfl ?_
  refine r_aaload5 (q136 (i := 17) rfl) (k_53 S) (vp_in_nI (n := 1) (by decide) (by decide)) (r_53_1 S) ?_
  refine r_iload_n (q136 (i := 18) rfl) rfl ?_
  refine r_iaN (x := hI h 55 g) (q136 (i := 19) rfl) (k_55 S) (by omega) (by decide) rfl ?_
  refine r_cV (d := _) (q136 (i := 20) rfl) rfl rfl rfl (k_47 S) (Nat.le_of_ble_eq_true rfl) (Nat.zero_le _) (Nat.zero_le _) Ra ?_
  show Wp _ _ _ 30 [(3, .int 7), (0, .ref 47), (1, .int 1), (2, .int (nI g))] [.int (nI a)] h _ _
  refine r_istore (ls' := [(4, .int (nI a)), (3, .int 7), (0, .ref 47), (1, .int 1), (2, .int (nI g))]) (q136 (i := 21) rfl) (Nat.le_of_ble_eq_true rfl) rfl ?_
  refine r_aload_n (q136 (i := 22) rfl) rfl ?_
  refine r_iload_n (q136 (i := 23) rfl) rfl ?_
  refine r_aload_n (q136 (i := 24) rfl) rfl ?_
  refine r_getR (b := 56) (q136 (i := 25) rfl) rfl (by decide) (k_47 S) (fun _ _ _ => rfl) (r_47_6 S) ?_
  refine r_iload_n (q136 (i := 26) rfl) rfl ?_
  refine r_aaload5 (q136 (i := 27) rfl) (k_56 S) (vp_in_nI (n := 1) (by decide) (by decide)) (r_56_1 S) ?_
  refine r_iload_n (q136 (i := 28) rfl) rfl ?_
  refine r_iaN (x := hI h 58 g) (q136 (i := 29) rfl) (k_58 S) (by omega) (by decide) rfl ?_
  refine r_cV (d := _) (q136 (i := 30) rfl) rfl rfl rfl (k_47 S) (Nat.le_of_ble_eq_true rfl) (Nat.zero_le _) (Nat.zero_le _) Rb ?_
  show Wp _ _ _ 45 [(4, .int (nI a)), (3, .int 7), (0, .ref 47), (1, .int 1), (2, .int (nI g))] [.int (nI b)] h _ _
  refine r_istore (ls' := [(5, .int (nI b)), (4, .int (nI a)), (3, .int 7), (0, .ref 47), (1, .int 1), (2, .int (nI g))]) (q136 (i := 31) rfl) (Nat.le_of_ble_eq_true rfl) rfl ?_
  refine r_iload_n (q136 (i := 32) rfl) rfl ?_
  refine r_if 56 (q136 (i := 33) rfl) (by decide) (fun zz => absurd zz (show ¬ ((7 : Int32) = 0) from by decide)) (fun _ => ?_)
  refine r_iload_n (q136 (i := 34) rfl) rfl ?_
  refine r_iconst (v := 3) (q136 (i := 35) rfl) (by decide) ?_
  refine r_icmp 69 (q136 (i := 36) rfl) (by decide) (fun _ => ?_) (fun zz => absurd (show ¬ (7 : Int32) = 3 from by decide) zz)
  refine r_iload_n (q136 (i := 43) rfl) rfl ?_
  refine r_iconst (v := 1) (q136 (i := 44) rfl) (by decide) ?_
  refine r_icmp 79 (q136 (i := 45) rfl) (by decide) (fun zz => absurd zz (show ¬ ((7 : Int32) = 1) from by decide)) (fun _ => ?_)
  refine r_iload_n (q136 (i := 46) rfl) rfl ?_
  refine r_iconst (v := 4) (q136 (i := 47) rfl) (by decide) ?_
  refine r_icmp 98 (q136 (i := 48) rfl) (by decide) (fun _ => ?_) (fun zz => absurd (show ¬ (7 : Int32) = 4 from by decide) zz)
  refine r_iload_n (q136 (i := 61) rfl) rfl ?_
  refine r_iconst (v := 2) (q136 (i := 62) rfl) (by decide) ?_
  refine r_icmp 108 (q136 (i := 63) rfl) (by decide) (fun zz => absurd zz (show ¬ ((7 : Int32) = 2) from by decide)) (fun _ => ?_)
  refine r_iload_n (q136 (i := 64) rfl) rfl ?_
  refine r_iconst (v := 5) (q136 (i := 65) rfl) (by decide) ?_
  refine r_icmp 151 (q136 (i := 66) rfl) (by decide) (fun _ => ?_) (fun zz => absurd (show ¬ (7 : Int32) = 5 from by decide) zz)
  refine r_iload_n (q136 (i := 93) rfl) rfl ?_
  refine r_bipush (v := 6) (q136 (i := 94) rfl) (by decide) ?_
  refine r_icmp 209 (q136 (i := 95) rfl) (by decide) (fun _ => ?_) (fun zz => absurd (show ¬ (7 : Int32) = 6 from by decide) zz)
  refine r_aload_n (q136 (i := 128) rfl) rfl ?_
  refine r_iload (q136 (i := 129) rfl) rfl ?_
  refine r_iload (q136 (i := 130) rfl) rfl ?_
  refine r_cV (d := _) (q136 (i := 131) rfl) rfl rfl rfl (k_47 S) (Nat.le_of_ble_eq_true rfl) (Nat.zero_le _) (Nat.zero_le _) R1 ?_
  show Wp _ _ _ 217 [(5, .int (nI b)), (4, .int (nI a)), (3, .int 7), (0, .ref 47), (1, .int 1), (2, .int (nI g))] [.int (nI r1.1)] h1 _ _
  refine r_istore (ls' := [(7, .int (nI r1.1)), (5, .int (nI b)), (4, .int (nI a)), (3, .int 7), (0, .ref 47), (1, .int 1), (2, .int (nI g))]) (q136 (i := 132) rfl) (Nat.le_of_ble_eq_true rfl) rfl ?_
  refine r_aload_n (q136 (i := 133) rfl) rfl ?_
  refine r_aload_n (q136 (i := 134) rfl) rfl ?_
  refine r_iload_n (q136 (i := 135) rfl) rfl ?_
  refine r_aload_n (q136 (i := 136) rfl) rfl ?_
  refine r_getR (b := 59) (q136 (i := 137) rfl) rfl (by decide) (k_47 S1) (fun _ _ _ => rfl) (r_47_7 S1) ?_
  refine r_iload_n (q136 (i := 138) rfl) rfl ?_
  refine r_aaload5 (q136 (i := 139) rfl) (k_59 S1) (vp_in_nI (n := 1) (by decide) (by decide)) (r_59_1 S1) ?_
  refine r_iload_n (q136 (i := 140) rfl) rfl ?_
  refine r_iaN (x := hI h 61 g) (q136 (i := 141) rfl) (k_61 S1) (by omega) (by decide) (congrFun (F1.2.1 61 (by decide) (by decide) (by decide)) g) ?_
  refine r_cV (d := _) (q136 (i := 142) rfl) rfl rfl rfl (k_47 S1) (Nat.le_of_ble_eq_true rfl) (Nat.zero_le _) (Nat.zero_le _) Rt ?_
  show Wp _ _ _ 233 [(7, .int (nI r1.1)), (5, .int (nI b)), (4, .int (nI a)), (3, .int 7), (0, .ref 47), (1, .int 1), (2, .int (nI g))] [.int (nI e), .ref 47] h1 _ _
  refine r_aload_n (q136 (i := 143) rfl) rfl ?_
  refine r_iload (q136 (i := 144) rfl) rfl ?_
  refine r_iconst (v := 1) (q136 (i := 145) rfl) (by decide) ?_
  refine r_ixor (q136 (i := 146) rfl) ?_
  rw [show ((nI a) ^^^ 1 : Int32) = nI (a ^^^ 1) from xor1 _]
  refine r_iload (q136 (i := 147) rfl) rfl ?_
  refine r_iconst (v := 1) (q136 (i := 148) rfl) (by decide) ?_
  refine r_ixor (q136 (i := 149) rfl) ?_
  rw [show ((nI b) ^^^ 1 : Int32) = nI (b ^^^ 1) from xor1 _]
  refine r_cV (d := _) (q136 (i := 150) rfl) rfl rfl rfl (k_47 S1) (Nat.le_of_ble_eq_true rfl) (Nat.zero_le _) (Nat.zero_le _) R2 ?_
  show Wp _ _ _ 245 [(7, .int (nI r1.1)), (5, .int (nI b)), (4, .int (nI a)), (3, .int 7), (0, .ref 47), (1, .int 1), (2, .int (nI g))] [.int (nI r2.1), .int (nI e), .ref 47] h2 _ _
  refine r_iconst (v := 1) (q136 (i := 151) rfl) (by decide) ?_
  refine r_ixor (q136 (i := 152) rfl) ?_
  rw [show ((nI r2.1) ^^^ 1 : Int32) = nI (r2.1 ^^^ 1) from xor1 _]
  refine r_cV (d := _) (q136 (i := 153) rfl) rfl rfl rfl (k_47 S2) (Nat.le_of_ble_eq_true rfl) (Nat.zero_le _) (Nat.zero_le _) R3 ?_
  show Wp _ _ _ 250 [(7, .int (nI r1.1)), (5, .int (nI b)), (4, .int (nI a)), (3, .int 7), (0, .ref 47), (1, .int 1), (2, .int (nI g))] [.int (nI r3.1)] h3 _ _
  refine r_istore (ls' := [(8, .int (nI r3.1)), (7, .int (nI r1.1)), (5, .int (nI b)), (4, .int (nI a)), (3, .int 7), (0, .ref 47), (1, .int 1), (2, .int (nI g))]) (q136 (i := 154) rfl) (Nat.le_of_ble_eq_true rfl) rfl ?_
  refine r_aload_n (q136 (i := 155) rfl) rfl ?_
  refine r_iload (q136 (i := 156) rfl) rfl ?_
  refine r_iconst (v := 1) (q136 (i := 157) rfl) (by decide) ?_
  refine r_ixor (q136 (i := 158) rfl) ?_
  rw [show ((nI r1.1) ^^^ 1 : Int32) = nI (r1.1 ^^^ 1) from xor1 _]
  refine r_iload (q136 (i := 159) rfl) rfl ?_
  refine r_iconst (v := 1) (q136 (i := 160) rfl) (by decide) ?_
  refine r_ixor (q136 (i := 161) rfl) ?_
  rw [show ((nI r3.1) ^^^ 1 : Int32) = nI (r3.1 ^^^ 1) from xor1 _]
  refine r_cV (d := _) (q136 (i := 162) rfl) rfl rfl rfl (k_47 S3) (Nat.le_of_ble_eq_true rfl) (Nat.zero_le _) (Nat.zero_le _) R4 ?_
  show Wp _ _ _ 264 [(8, .int (nI r3.1)), (7, .int (nI r1.1)), (5, .int (nI b)), (4, .int (nI a)), (3, .int 7), (0, .ref 47), (1, .int 1), (2, .int (nI g))] [.int (nI r4.1)] h4 _ _
  refine r_iconst (v := 1) (q136 (i := 163) rfl) (by decide) ?_
  refine r_ixor (q136 (i := 164) rfl) ?_
  rw [show ((nI r4.1) ^^^ 1 : Int32) = nI (r4.1 ^^^ 1) from xor1 _]
  refine r_istore (ls' := [(6, .int (nI (r4.1 ^^^ 1))), (8, .int (nI r3.1)), (7, .int (nI r1.1)), (5, .int (nI b)), (4, .int (nI a)), (3, .int 7), (0, .ref 47), (1, .int 1), (2, .int (nI g))]) (q136 (i := 165) rfl) (Nat.le_of_ble_eq_true rfl) rfl ?_
  refine r_iload_n (q136 (i := 166) rfl) rfl ?_
  refine r_iconst (v := 3) (q136 (i := 167) rfl) (by decide) ?_
  refine r_icmp 285 (q136 (i := 168) rfl) (by decide) (fun zz => absurd zz (show ¬ ((7 : Int32) < 3) from by decide)) (fun _ => ?_)
  refine r_iload_n (q136 (i := 169) rfl) rfl ?_
  refine r_iconst (v := 5) (q136 (i := 170) rfl) (by decide) ?_
  refine r_icmp 285 (q136 (i := 171) rfl) (by decide) (fun _ => ?_) (fun zz => absurd (show 5 < (7 : Int32) from by decide) zz)
  refine r_iload (q136 (i := 176) rfl) rfl ?_
  exact r_iret (q136 (i := 177) rfl) rfl hQ
set_option maxHeartbeats 2000000 in
set_option maxRecDepth 10000 in
theorem gof1_8 {d : Nat} {h : hp} (S : Sh h) {n g : Nat} {st : gs × (Nat → Nat)} (e1 : hI h 47 1 = nI n) (G : MG h n st.1) (Mk : gmade n g st) (K : cok n (cirB h) g) (hl : ∀ i, i < g → hI h 67 i = nI (st.2 i)) (hn : n ≤ 12) (hg : g < 120) (hC : gC st.1 + 4 < 1000) (hk : (cirB h).1 g = nI 8) : ∃ h', Run (d + 2 + 1) 136 [.ref 47, .int 1, .int (nI g)] h 0 0 (some (.int (nI (gop n (cirB h) st g).1))) h' ∧ MG h' n (gop n (cirB h) st g).2 ∧ FrGM h h' := by
  have hgo := gop_is (n := n) (st := st) hk (by decide)
  refine ⟨h, ?_, by rw [hgo]; exact G, FrGM.rf h⟩
  rw [hgo]
  refine Run.of (d := d + 2) (Nat.le_of_ble_eq_true rfl) (fun Q hQ => ?_)
  show Wp (Ex (d + 2)) 136 Q 0 [(0, .ref 47), (1, .int 1), (2, .int (nI g))] [] h 0 0
  refine r_aload_n (q136 (i := 0) rfl) rfl ?_
  refine r_getR (b := 50) (q136 (i := 1) rfl) rfl (by decide) (k_47 S) (fun _ _ _ => rfl) (r_47_4 S) ?_
  refine r_iload_n (q136 (i := 2) rfl) rfl ?_
  refine r_aaload5 (q136 (i := 3) rfl) (k_50 S) (vp_in_nI (n := 1) (by decide) (by decide)) (r_50_1 S) ?_
  refine r_iload_n (q136 (i := 4) rfl) rfl ?_
  refine r_iaN (x := 8) (q136 (i := 5) rfl) (k_52 S) (by omega) (by decide) hk ?_
  refine r_istore_n (ls' := [(3, .int 8), (0, .ref 47), (1, .int 1), (2, .int (nI g))]) (q136 (i := 6) rfl) (Nat.le_of_ble_eq_true rfl) rfl ?_
  refine r_iload_n (q136 (i := 7) rfl) rfl ?_
  refine r_bipush (v := 8) (q136 (i := 8) rfl) (by decide) ?_
  refine r_icmp 17 (q136 (i := 9) rfl) (by decide) (fun zz => absurd zz (show ¬ (¬ (8 : Int32) = 8) from by decide)) (fun _ => ?_)
  refine r_iconst (v := 0) (q136 (i := 10) rfl) (by decide) ?_
  exact r_iret (q136 (i := 11) rfl) rfl hQ
theorem sp_gateOf1 {d : Nat} {h : hp} (S : Sh h) {n g : Nat} {st : gs × (Nat → Nat)} (e1 : hI h 47 1 = nI n) (G : MG h n st.1) (Mk : gmade n g st) (K : cok n (cirB h) g) (hl : ∀ i, i < g → hI h 67 i = nI (st.2 i)) (hn : n ≤ 12) (hg : g < 120) (hC : gC st.1 + 4 < 1000) : ∃ h', Run (d + 2 + 1) 136 [.ref 47, .int 1, .int (nI g)] h 0 0 (some (.int (nI (gop n (cirB h) st g).1))) h' ∧ MG h' n (gop n (cirB h) st g).2 ∧ FrGM h h' := by
  obtain ⟨k, hk8, hk⟩ := K.1
  rcases (show k = 0 ∨ k = 1 ∨ k = 2 ∨ k = 3 ∨ k = 4 ∨ k = 5 ∨ k = 6 ∨ k = 7 ∨ k = 8 by omega) with e | e | e | e | e | e | e | e | e
  · subst e
    exact gof1_0 S e1 G Mk K hl hn hg hC hk
  · subst e
    exact gof1_1 S e1 G Mk K hl hn hg hC hk
  · subst e
    exact gof1_2 S e1 G Mk K hl hn hg hC hk
  · subst e
    exact gof1_3 S e1 G Mk K hl hn hg hC hk
  · subst e
    exact gof1_4 S e1 G Mk K hl hn hg hC hk
  · subst e
    exact gof1_5 S e1 G Mk K hl hn hg hC hk
  · subst e
    exact gof1_6 S e1 G Mk K hl hn hg hC hk
  · subst e
    exact gof1_7 S e1 G Mk K hl hn hg hC hk
  · subst e
    exact gof1_8 S e1 G Mk K hl hn hg hC hk
