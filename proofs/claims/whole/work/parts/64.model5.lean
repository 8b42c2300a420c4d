/-! ===== the reference brings its graph up ===== -/
theorem pats_b : ∀ i, i < 6 → ∀ b, b < 64 → b64 (pats i) b = b.testBit i := by decide +kernel
theorem T0_b {j q i : Nat} (hj : 1 ≤ j) (hj2 : j ≤ 12) (hi : i < 64) : b64 (T0 j q) i = (64 * q + i).testBit (j - 1) := by
  rw [Nat.testBit_eq_decide_div_mod_eq]
  rcases (show j = 1 ∨ j = 2 ∨ j = 3 ∨ j = 4 ∨ j = 5 ∨ j = 6 ∨ j = 7 ∨ j = 8 ∨ j = 9 ∨ j = 10 ∨ j = 11 ∨ j = 12 by omega) with e | e | e | e | e | e | e | e | e | e | e | e
  · subst e
    show b64 (pats 0) i = decide ((64 * q + i) / 2 ^ 0 % 2 = 1)
    rw [pats_b 0 (by decide) i hi, Nat.testBit_eq_decide_div_mod_eq]
    exact decide_eq_decide.mpr (by omega)
  · subst e
    show b64 (pats 1) i = decide ((64 * q + i) / 2 ^ 1 % 2 = 1)
    rw [pats_b 1 (by decide) i hi, Nat.testBit_eq_decide_div_mod_eq]
    exact decide_eq_decide.mpr (by omega)
  · subst e
    show b64 (pats 2) i = decide ((64 * q + i) / 2 ^ 2 % 2 = 1)
    rw [pats_b 2 (by decide) i hi, Nat.testBit_eq_decide_div_mod_eq]
    exact decide_eq_decide.mpr (by omega)
  · subst e
    show b64 (pats 3) i = decide ((64 * q + i) / 2 ^ 3 % 2 = 1)
    rw [pats_b 3 (by decide) i hi, Nat.testBit_eq_decide_div_mod_eq]
    exact decide_eq_decide.mpr (by omega)
  · subst e
    show b64 (pats 4) i = decide ((64 * q + i) / 2 ^ 4 % 2 = 1)
    rw [pats_b 4 (by decide) i hi, Nat.testBit_eq_decide_div_mod_eq]
    exact decide_eq_decide.mpr (by omega)
  · subst e
    show b64 (pats 5) i = decide ((64 * q + i) / 2 ^ 5 % 2 = 1)
    rw [pats_b 5 (by decide) i hi, Nat.testBit_eq_decide_div_mod_eq]
    exact decide_eq_decide.mpr (by omega)
  · subst e
    show b64 (if q / 2 ^ 0 % 2 = 1 then -1 else 0) i = decide ((64 * q + i) / 2 ^ 6 % 2 = 1)
    split
    · rw [b64_m1 hi]; exact (decide_eq_true (by omega)).symm
    · rw [b64_0]; exact (decide_eq_false (by omega)).symm
  · subst e
    show b64 (if q / 2 ^ 1 % 2 = 1 then -1 else 0) i = decide ((64 * q + i) / 2 ^ 7 % 2 = 1)
    split
    · rw [b64_m1 hi]; exact (decide_eq_true (by omega)).symm
    · rw [b64_0]; exact (decide_eq_false (by omega)).symm
  · subst e
    show b64 (if q / 2 ^ 2 % 2 = 1 then -1 else 0) i = decide ((64 * q + i) / 2 ^ 8 % 2 = 1)
    split
    · rw [b64_m1 hi]; exact (decide_eq_true (by omega)).symm
    · rw [b64_0]; exact (decide_eq_false (by omega)).symm
  · subst e
    show b64 (if q / 2 ^ 3 % 2 = 1 then -1 else 0) i = decide ((64 * q + i) / 2 ^ 9 % 2 = 1)
    split
    · rw [b64_m1 hi]; exact (decide_eq_true (by omega)).symm
    · rw [b64_0]; exact (decide_eq_false (by omega)).symm
  · subst e
    show b64 (if q / 2 ^ 4 % 2 = 1 then -1 else 0) i = decide ((64 * q + i) / 2 ^ 10 % 2 = 1)
    split
    · rw [b64_m1 hi]; exact (decide_eq_true (by omega)).symm
    · rw [b64_0]; exact (decide_eq_false (by omega)).symm
  · subst e
    show b64 (if q / 2 ^ 5 % 2 = 1 then -1 else 0) i = decide ((64 * q + i) / 2 ^ 11 % 2 = 1)
    split
    · rw [b64_m1 hi]; exact (decide_eq_true (by omega)).symm
    · rw [b64_0]; exact (decide_eq_false (by omega)).symm
def I1 (h : hp) (k : Nat) : Prop := hI h 47 11 = nI k ∧ (∀ j, j < k → hI h 68 j = -1 ∧ hI h 69 j = -1) ∧ ∀ j, j < k → ∀ w, w < 64 → hJ h (71 + j) w = 0
set_option maxHeartbeats 2000000 in
set_option maxRecDepth 10000 in
theorem lp_g1i {d : Nat} {h : hp} (S : Sh h) {x : Nat} (hx : x < 1000) {Q : resP} {bc bs : Nat} (hk : ∀ ls : List (Nat × Value), ls.lookup 1 = some (.int (nI x)) → ls.lookup 0 = some (.ref 47) → Wp (Ex d) 137 Q 58 ls [] (rJ h (71 + x) (filJ (hJ h (71 + x)) 0 64)) bc bs) : ∀ (m i : Nat), i + m = 64 → ∀ ls : List (Nat × Value), ls.lookup 2 = some (.int (nI i)) → ls.lookup 1 = some (.int (nI x)) → ls.lookup 0 = some (.ref 47) → Wp (Ex d) 137 Q 37 ls [] (rJ h (71 + x) (filJ (hJ h (71 + x)) 0 i)) bc bs := by
  intro m
  induction m with
  | zero =>
    intro i hm ls l2 l1 l0
    have e : i = 64 := by omega
    subst e
    refine r_iload_n (q137 (i := 23) rfl) l2 ?_
    refine r_bipush (v := 64) (q137 (i := 24) rfl) (by decide) ?_
    refine r_icmp 58 (q137 (i := 25) rfl) (by decide) (fun _ => ?_) (fun zz => absurd (show 64 ≤ nI 64 from Int32.le_refl _) zz)
    exact hk ls l1 l0
  | succ m ih =>
    intro i hm ls l2 l1 l0
    have S2 : Sh (rJ h (71 + x) (filJ (hJ h (71 + x)) 0 i)) := S.to rfl
    refine r_iload_n (q137 (i := 23) rfl) l2 ?_
    refine r_bipush (v := 64) (q137 (i := 24) rfl) (by decide) ?_
    refine r_icmp 58 (q137 (i := 25) rfl) (by decide) (fun zz => absurd zz (show ¬ (64 ≤ nI i) from nI_ge (b := 64) (by omega) (by decide))) (fun _ => ?_)
    refine r_aload_n (q137 (i := 26) rfl) l0 ?_
    refine r_getR (b := 70) (q137 (i := 27) rfl) rfl (by decide) (k_47 S2) (fun _ _ _ => rfl) (r_47_14 S2) ?_
    refine r_iload_n (q137 (i := 28) rfl) l1 ?_
    refine r_aa6N (q137 (i := 29) rfl) (k_70 S2) (by omega) (by decide) (rT S2 hx) ?_
    refine r_iload_n (q137 (i := 30) rfl) l2 ?_
    refine r_lconst (v := 0) (q137 (i := 31) rfl) (by decide) ?_
    refine r_lasN (q137 (i := 32) rfl) (kT S2 hx) (by omega) (by decide) ?_
    refine r_iinc (y := nI (i + 1)) (q137 (i := 33) rfl) (Nat.le_of_ble_eq_true rfl) l2 (nI_1 i) rfl ?_
    have l1 := lk1 (k := 2) (v := .int (nI (i + 1))) l1 (by decide) (Or.inl rfl)
    have l0 := lk1 (k := 2) (v := .int (nI (i + 1))) l0 (by decide) (Or.inr (by decide))
    have l2 := lk0 ls 2 (.int (nI (i + 1)))
    generalize lset1 ls 2 (.int (nI (i + 1))) = ls at l2 l1 l0 ⊢
    refine r_goto 37 (q137 (i := 34) rfl) (by decide) ?_
    rw [sJ_rJ, filJ_s]
    exact ih (i + 1) (by omega) ls l2 l1 l0
set_option maxHeartbeats 2000000 in
set_option maxRecDepth 10000 in
theorem lp_g1 {d n : Nat} (hn : n ≤ 12) : ∀ (m k : Nat) (h : hp), k + m = n + 1 → Sh h → hI h 47 1 = nI n → I1 h k → ∃ h', I1 h' (n + 1) ∧ FrGM h h' ∧ ∀ (Q : resP) (bc bs : Nat), (∀ ls : List (Nat × Value), ls.lookup 0 = some (.ref 47) → Wp (Ex (d + 1)) 137 Q 64 ls [] h' bc bs) → ∀ ls : List (Nat × Value), ls.lookup 1 = some (.int (nI k)) → ls.lookup 0 = some (.ref 47) → Wp (Ex (d + 1)) 137 Q 20 ls [] h bc bs := by
  intro m
  induction m with
  | zero =>
    intro k h hm S e1 I
    have e : k = n + 1 := by omega
    subst e
    refine ⟨h, I, FrGM.rf h, fun Q bc bs hk ls l1 l0 => ?_⟩
    refine r_iload_n (q137 (i := 12) rfl) l1 ?_
    refine r_aload_n (q137 (i := 13) rfl) l0 ?_
    refine r_getI (x := nI n) (q137 (i := 14) rfl) rfl (by decide) (k_47 S) (fun _ _ _ => rfl) e1 ?_
    refine r_icmp 64 (q137 (i := 15) rfl) (by decide) (fun _ => ?_) (fun zz => absurd (show nI n < nI (n + 1) from nI_lt (by omega) (by omega)) zz)
    exact hk ls l0
  | succ m ih =>
    intro k h hm S e1 I
    have R1 := sp_newNode (d := d) S I.1 (by omega) (-1) (-1)
    have S1 : Sh (nodM h k (-1) (-1)) := S.to rfl
    obtain ⟨h2, e2⟩ : ∃ x, x = rJ (nodM h k (-1) (-1)) (71 + k) (filJ (hJ (nodM h k (-1) (-1)) (71 + k)) 0 64) := ⟨_, rfl⟩
    have F2 : FrGM h h2 := by
      rw [e2]
      refine ⟨rfl, fun q x y z => ?_, fun j x => ?_, fun q x => ?_⟩
      · show u2 (u2 (u2 h.1 68 _ _) 69 _ _) 47 _ _ q = _
        rw [u2_n x, u2_n z, u2_n y]
      · show u1 (h.1 47) 11 _ j = _
        rw [u1_n x]
      · show u1 h.2.1 (71 + k) _ q = _
        rw [u1_n (by omega)]
    have I2 : I1 h2 (k + 1) := by
      rw [e2]
      refine ⟨rfl, fun j hj => ?_, fun j hj w hw => ?_⟩
      · show u1 (hI h 68) k _ j = _ ∧ u1 (hI h 69) k _ j = _
        by_cases e : j = k
        · rw [e, u1_s, u1_s]; exact ⟨rfl, rfl⟩
        · rw [u1_n e, u1_n e]; exact I.2.1 j (by omega)
      · show u1 h.2.1 (71 + k) _ (71 + j) w = _
        by_cases e : j = k
        · rw [e, u1_s]; exact filJ_in hw
        · rw [u1_n (by omega)]; exact I.2.2 j (by omega) w hw
    obtain ⟨h', I', F', K⟩ := ih (k + 1) h2 (by omega) (F2.S S) ((F2.2.2.1 1 (by decide)).trans e1) I2
    refine ⟨h', I', F2.tr F', fun Q bc bs hk ls l1 l0 => ?_⟩
    have K1 := lp_g1i (d := d + 1) (Q := Q) (bc := bc) (bs := bs) S1 (x := k) (by omega) (fun ls l1 l0 => by
      rw [← e2]
      refine r_iinc (y := nI (k + 1)) (q137 (i := 35) rfl) (Nat.le_of_ble_eq_true rfl) l1 (nI_1 k) rfl ?_
      have l0 := lk1 (k := 1) (v := .int (nI (k + 1))) l0 (by decide) (Or.inl rfl)
      have l1 := lk0 ls 1 (.int (nI (k + 1)))
      generalize lset1 ls 1 (.int (nI (k + 1))) = ls at l1 l0 ⊢
      refine r_goto 20 (q137 (i := 36) rfl) (by decide) ?_
      exact K Q bc bs hk ls l1 l0) 64 0 rfl
    rw [filJ_0, rJ_self] at K1
    refine r_iload_n (q137 (i := 12) rfl) l1 ?_
    refine r_aload_n (q137 (i := 13) rfl) l0 ?_
    refine r_getI (x := nI n) (q137 (i := 14) rfl) rfl (by decide) (k_47 S) (fun _ _ _ => rfl) e1 ?_
    refine r_icmp 64 (q137 (i := 15) rfl) (by decide) (fun zz => absurd zz (show ¬ (nI n < nI k) from fun y => absurd y (nI_nlt (by omega) (by omega)))) (fun _ => ?_)
    refine r_aload_n (q137 (i := 16) rfl) l0 ?_
    refine r_iconst (v := (-1)) (q137 (i := 17) rfl) (by decide) ?_
    refine r_iconst (v := (-1)) (q137 (i := 18) rfl) (by decide) ?_
    refine r_cV (d := _) (q137 (i := 19) rfl) rfl rfl rfl (k_47 S) (Nat.le_of_ble_eq_true rfl) (Nat.zero_le _) (Nat.zero_le _) R1 ?_
    show Wp _ _ _ 34 ls [.int (nI k)] (nodM h k (-1) (-1)) _ _
    refine r_pop (q137 (i := 20) rfl) rfl ?_
    refine r_iconst (v := 0) (q137 (i := 21) rfl) (by decide) ?_
    refine r_istore_n (ls' := lset1 ls 2 (.int 0)) (q137 (i := 22) rfl) (Nat.le_of_ble_eq_true rfl) rfl ?_
    have l1 := lk1 (k := 2) (v := .int 0) l1 (by decide) (Or.inl rfl)
    have l0 := lk1 (k := 2) (v := .int 0) l0 (by decide) (Or.inr (by decide))
    have l2 := lk0 ls 2 (.int 0)
    generalize lset1 ls 2 (.int 0) = ls at l2 l1 l0 ⊢
    exact K1 ls l2 l1 l0
def J2 (h : hp) (n W K : Nat) : Prop := ∀ j, 1 ≤ j → j ≤ n → ∀ q, q < 64 → ∀ i, i < 64 → b64 (hJ h (71 + j) q) i = (decide (64 * q + i < W ∨ (64 * q + i = W ∧ j < K)) && (64 * q + i).testBit (j - 1))
def Fr2 (n : Nat) (h h' : hp) : Prop := h'.1 = h.1 ∧ h'.2.2 = h.2.2 ∧ ∀ k, (k < 72 ∨ 71 + n < k) → hJ h' k = hJ h k
theorem Fr2.rf (n : Nat) (h : hp) : Fr2 n h h := ⟨rfl, rfl, fun _ _ => rfl⟩
theorem Fr2.tr {n : Nat} {h h' h'' : hp} (a : Fr2 n h h') (b : Fr2 n h' h'') : Fr2 n h h'' := ⟨b.1.trans a.1, b.2.1.trans a.2.1, fun k x => (b.2.2 k x).trans (a.2.2 k x)⟩
theorem J2_up {h : hp} {n W : Nat} (J : J2 h n W (n + 1)) : J2 h n (W + 1) 1 := fun j h1 h2 q hq i hi => by
  rw [J j h1 h2 q hq i hi, decide_eq_decide.mpr (show (64 * q + i < W ∨ (64 * q + i = W ∧ j < n + 1)) ↔ (64 * q + i < W + 1 ∨ (64 * q + i = W + 1 ∧ j < 1)) by omega)]
theorem J2_s0 {h : hp} {n W k : Nat} (hk : 1 ≤ k) (J : J2 h n W k) (hb : ¬ W / 2 ^ (k - 1) % 2 = 1) : J2 h n W (k + 1) := fun j h1 h2 q hq i hi => by
  rw [J j h1 h2 q hq i hi]
  by_cases e : 64 * q + i = W ∧ j = k
  · rw [e.1, e.2, Nat.testBit_eq_decide_div_mod_eq, decide_eq_false hb, Bool.and_false, Bool.and_false]
  · rw [decide_eq_decide.mpr (show (64 * q + i < W ∨ (64 * q + i = W ∧ j < k)) ↔ (64 * q + i < W ∨ (64 * q + i = W ∧ j < k + 1)) by omega)]
theorem J2_s1 {h : hp} {n W k : Nat} (hk : 1 ≤ k) (hW : W < 4096) (J : J2 h n W k) (hb : W / 2 ^ (k - 1) % 2 = 1) : J2 (sJ h (71 + k) (W / 64) (hJ h (71 + k) (W / 64) ||| 1 <<< ((nI (W % 64)).toInt64 &&& 63))) n W (k + 1) := fun j h1 h2 q hq i hi => by
  show b64 (u2 h.2.1 (71 + k) _ _ (71 + j) q) i = _
  by_cases e : j = k
  · rw [e, u2_s]
    show b64 (u1 (hJ h (71 + k)) _ _ q) i = _
    by_cases eq : q = W / 64
    · rw [eq, u1_s, b64_or, b64_shl1 (by omega) hi]
      rw [← eq]
      have := J k hk (by omega) q hq i hi
      rw [this]
      by_cases ei : i = W % 64
      · rw [decide_eq_true ei, Bool.or_true, decide_eq_true (by omega), Bool.true_and]
        rw [show 64 * q + i = W by omega, Nat.testBit_eq_decide_div_mod_eq]
        exact (decide_eq_true hb).symm
      · rw [decide_eq_false ei, Bool.or_false, decide_eq_decide.mpr (show (64 * q + i < W ∨ (64 * q + i = W ∧ k < k)) ↔ (64 * q + i < W ∨ (64 * q + i = W ∧ k < k + 1)) by omega)]
    · rw [u1_n eq, J k hk (by omega) q hq i hi, decide_eq_decide.mpr (show (64 * q + i < W ∨ (64 * q + i = W ∧ k < k)) ↔ (64 * q + i < W ∨ (64 * q + i = W ∧ k < k + 1)) by omega)]
  · rw [u2_n (by omega)]
    rw [show h.2.1 (71 + j) q = hJ h (71 + j) q from rfl, J j h1 h2 q hq i hi, decide_eq_decide.mpr (show (64 * q + i < W ∨ (64 * q + i = W ∧ j < k)) ↔ (64 * q + i < W ∨ (64 * q + i = W ∧ j < k + 1)) by omega)]
set_option maxHeartbeats 2000000 in
set_option maxRecDepth 10000 in
theorem lp_g2i {d n W : Nat} (hn : n ≤ 12) (hW : W < 4096) : ∀ (m k : Nat) (h : hp), k + m = n + 1 → 1 ≤ k → Sh h → hI h 47 1 = nI n → J2 h n W k → ∃ h', J2 h' n W (n + 1) ∧ Fr2 n h h' ∧ ∀ (Q : resP) (bc bs : Nat), (∀ ls : List (Nat × Value), ls.lookup 1 = some (.int (nI W)) → ls.lookup 0 = some (.ref 47) → Wp (Ex d) 137 Q 120 ls [] h' bc bs) → ∀ ls : List (Nat × Value), ls.lookup 2 = some (.int (nI k)) → ls.lookup 1 = some (.int (nI W)) → ls.lookup 0 = some (.ref 47) → Wp (Ex d) 137 Q 75 ls [] h bc bs := by
  intro m
  induction m with
  | zero =>
    intro k h hm hk1 S e1 J
    have e : k = n + 1 := by omega
    subst e
    refine ⟨h, J, Fr2.rf n h, fun Q bc bs hk ls l2 l1 l0 => ?_⟩
    refine r_iload_n (q137 (i := 44) rfl) l2 ?_
    refine r_aload_n (q137 (i := 45) rfl) l0 ?_
    refine r_getI (x := nI n) (q137 (i := 46) rfl) rfl (by decide) (k_47 S) (fun _ _ _ => rfl) e1 ?_
    refine r_icmp 120 (q137 (i := 47) rfl) (by decide) (fun _ => ?_) (fun zz => absurd (show nI n < nI (n + 1) from nI_lt (by omega) (by omega)) zz)
    exact hk ls l1 l0
  | succ m ih =>
    intro k h hm hk1 S e1 J
    by_cases hb : W / 2 ^ (k - 1) % 2 = 1
    · have J' := J2_s1 hk1 hW J hb
      obtain ⟨h1, eh⟩ : ∃ x, x = sJ h (71 + k) (W / 64) (hJ h (71 + k) (W / 64) ||| 1 <<< ((nI (W % 64)).toInt64 &&& 63)) := ⟨_, rfl⟩
      rw [← eh] at J'
      have F1 : Fr2 n h h1 := by
        rw [eh]
        exact ⟨rfl, rfl, fun q x => by
          show u2 h.2.1 (71 + k) _ _ q = _
          rw [u2_n (by omega)]⟩
      obtain ⟨h', J3, F3, K⟩ := ih (k + 1) h1 (by omega) (by omega) (S.to F1.2.1) (by show h1.1 47 1 = _; rw [F1.1]; exact e1) J'
      refine ⟨h', J3, F1.tr F3, fun Q bc bs hk ls l2 l1 l0 => ?_⟩
      refine r_iload_n (q137 (i := 44) rfl) l2 ?_
      refine r_aload_n (q137 (i := 45) rfl) l0 ?_
      refine r_getI (x := nI n) (q137 (i := 46) rfl) rfl (by decide) (k_47 S) (fun _ _ _ => rfl) e1 ?_
      refine r_icmp 120 (q137 (i := 47) rfl) (by decide) (fun zz => absurd zz (show ¬ (nI n < nI k) from fun y => absurd y (nI_nlt (by omega) (by omega)))) (fun _ => ?_)
      refine r_iload_n (q137 (i := 48) rfl) l1 ?_
      refine r_iload_n (q137 (i := 49) rfl) l2 ?_
      refine r_iconst (v := 1) (q137 (i := 50) rfl) (by decide) ?_
      refine r_isub (q137 (i := 51) rfl) ?_
      rw [show ((nI k) - 1 : Int32) = nI (k - 1) from nI_subN (b := 1) hk1]
      refine r_ishr (q137 (i := 52) rfl) ?_
      rw [show ((nI W) >>> ((nI (k - 1)) &&& 31) : Int32) = nI (W / 2 ^ (k - 1)) from pk_shrN (by omega) _ (k - 1) (sh31 _ (by omega))]
      refine r_iconst (v := 1) (q137 (i := 53) rfl) (by decide) ?_
      refine r_iand (q137 (i := 54) rfl) ?_
      rw [show ((nI (W / 2 ^ (k - 1))) &&& 1 : Int32) = nI (W / 2 ^ (k - 1) % 2) from and1 (by have := Nat.div_le_self W (2 ^ (k - 1)); omega)]
      refine r_iconst (v := 1) (q137 (i := 55) rfl) (by decide) ?_
      refine r_icmp 114 (q137 (i := 56) rfl) (by decide) (fun zz => absurd zz (show ¬ (¬ nI (W / 2 ^ (k - 1) % 2) = 1) from fun y => y (by rw [hb]; rfl))) (fun _ => ?_)
      refine r_aload_n (q137 (i := 57) rfl) l0 ?_
      refine r_getR (b := 70) (q137 (i := 58) rfl) rfl (by decide) (k_47 S) (fun _ _ _ => rfl) (r_47_14 S) ?_
      refine r_iload_n (q137 (i := 59) rfl) l2 ?_
      refine r_aa6N (q137 (i := 60) rfl) (k_70 S) (by omega) (by decide) (rT S (by omega)) ?_
      refine r_iload_n (q137 (i := 61) rfl) l1 ?_
      refine r_bipush (v := 64) (q137 (i := 62) rfl) (by decide) ?_
      refine r_idiv (q137 (i := 63) rfl) (by decide) ?_
      rw [show ((nI W) / 64 : Int32) = nI (W / 64) from div64 (by omega)]
      refine r_dup2 (q137 (i := 64) rfl) rfl rfl ?_
      refine r_laN (x := hJ h (71 + k) (W / 64)) (q137 (i := 65) rfl) (kT S (x := k) (by omega)) (by omega) (by decide) rfl ?_
      refine r_lconst (v := 1) (q137 (i := 66) rfl) (by decide) ?_
      refine r_iload_n (q137 (i := 67) rfl) l1 ?_
      refine r_bipush (v := 64) (q137 (i := 68) rfl) (by decide) ?_
      refine r_irem (q137 (i := 69) rfl) (by decide) ?_
      rw [show ((nI W) - (nI W) / 64 * 64 : Int32) = nI (W % 64) from rem64 (by omega)]
      refine r_lshl (q137 (i := 70) rfl) ?_
      refine r_lor (q137 (i := 71) rfl) ?_
      refine r_lasN (q137 (i := 72) rfl) (kT S (x := k) (by omega)) (by omega) (by decide) ?_
      rw [← eh]
      refine r_iinc (y := nI (k + 1)) (q137 (i := 73) rfl) (Nat.le_of_ble_eq_true rfl) l2 (nI_1 k) rfl ?_
      have l1 := lk1 (k := 2) (v := .int (nI (k + 1))) l1 (by decide) (Or.inl rfl)
      have l0 := lk1 (k := 2) (v := .int (nI (k + 1))) l0 (by decide) (Or.inr (by decide))
      have l2 := lk0 ls 2 (.int (nI (k + 1)))
      generalize lset1 ls 2 (.int (nI (k + 1))) = ls at l2 l1 l0 ⊢
      refine r_goto 75 (q137 (i := 74) rfl) (by decide) ?_
      exact K Q bc bs hk ls l2 l1 l0
    · obtain ⟨h', J3, F3, K⟩ := ih (k + 1) h (by omega) (by omega) S e1 (J2_s0 hk1 J hb)
      refine ⟨h', J3, F3, fun Q bc bs hk ls l2 l1 l0 => ?_⟩
      refine r_iload_n (q137 (i := 44) rfl) l2 ?_
      refine r_aload_n (q137 (i := 45) rfl) l0 ?_
      refine r_getI (x := nI n) (q137 (i := 46) rfl) rfl (by decide) (k_47 S) (fun _ _ _ => rfl) e1 ?_
      refine r_icmp 120 (q137 (i := 47) rfl) (by decide) (fun zz => absurd zz (show ¬ (nI n < nI k) from fun y => absurd y (nI_nlt (by omega) (by omega)))) (fun _ => ?_)
      refine r_iload_n (q137 (i := 48) rfl) l1 ?_
      refine r_iload_n (q137 (i := 49) rfl) l2 ?_
      refine r_iconst (v := 1) (q137 (i := 50) rfl) (by decide) ?_
      refine r_isub (q137 (i := 51) rfl) ?_
      rw [show ((nI k) - 1 : Int32) = nI (k - 1) from nI_subN (b := 1) hk1]
      refine r_ishr (q137 (i := 52) rfl) ?_
      rw [show ((nI W) >>> ((nI (k - 1)) &&& 31) : Int32) = nI (W / 2 ^ (k - 1)) from pk_shrN (by omega) _ (k - 1) (sh31 _ (by omega))]
      refine r_iconst (v := 1) (q137 (i := 53) rfl) (by decide) ?_
      refine r_iand (q137 (i := 54) rfl) ?_
      rw [show ((nI (W / 2 ^ (k - 1))) &&& 1 : Int32) = nI (W / 2 ^ (k - 1) % 2) from and1 (by have := Nat.div_le_self W (2 ^ (k - 1)); omega)]
      refine r_iconst (v := 1) (q137 (i := 55) rfl) (by decide) ?_
      refine r_icmp 114 (q137 (i := 56) rfl) (by decide) (fun _ => ?_) (fun zz => absurd (show ¬ nI (W / 2 ^ (k - 1) % 2) = 1 from fun y => hb ((nI_eq (b := 1) (by omega) (by decide)).mp y)) zz)
      refine r_iinc (y := nI (k + 1)) (q137 (i := 73) rfl) (Nat.le_of_ble_eq_true rfl) l2 (nI_1 k) rfl ?_
      have l1 := lk1 (k := 2) (v := .int (nI (k + 1))) l1 (by decide) (Or.inl rfl)
      have l0 := lk1 (k := 2) (v := .int (nI (k + 1))) l0 (by decide) (Or.inr (by decide))
      have l2 := lk0 ls 2 (.int (nI (k + 1)))
      generalize lset1 ls 2 (.int (nI (k + 1))) = ls at l2 l1 l0 ⊢
      refine r_goto 75 (q137 (i := 74) rfl) (by decide) ?_
      exact K Q bc bs hk ls l2 l1 l0
set_option maxHeartbeats 2000000 in
set_option maxRecDepth 10000 in
theorem lp_g2 {d n : Nat} (hn : n ≤ 12) (hn1 : 1 ≤ n) : ∀ (m W : Nat) (h : hp), W + m = 4096 → Sh h → hI h 47 1 = nI n → J2 h n W 1 → ∃ h', J2 h' n 4096 1 ∧ Fr2 n h h' ∧ ∀ (Q : resP) (bc bs : Nat), (∀ ls : List (Nat × Value), ls.lookup 0 = some (.ref 47) → Wp (Ex d) 137 Q 126 ls [] h' bc bs) → ∀ ls : List (Nat × Value), ls.lookup 1 = some (.int (nI W)) → ls.lookup 0 = some (.ref 47) → Wp (Ex d) 137 Q 66 ls [] h bc bs := by
  intro m
  induction m with
  | zero =>
    intro W h hm S e1 J
    have e : W = 4096 := by omega
    subst e
    refine ⟨h, J, Fr2.rf n h, fun Q bc bs hk ls l1 l0 => ?_⟩
    refine r_iload_n (q137 (i := 39) rfl) l1 ?_
    refine r_sipush (v := 4096) (q137 (i := 40) rfl) (by decide) ?_
    refine r_icmp 126 (q137 (i := 41) rfl) (by decide) (fun _ => ?_) (fun zz => absurd (show 4096 ≤ nI 4096 from Int32.le_refl _) zz)
    exact hk ls l0
  | succ m ih =>
    intro W h hm S e1 J
    obtain ⟨h1, J1, F1, K1⟩ := lp_g2i (d := d) (W := W) hn (by omega) n 1 h (by omega) (by decide) S e1 J
    obtain ⟨h2, J2', F2, K2⟩ := ih (W + 1) h1 (by omega) (S.to F1.2.1) (by show h1.1 47 1 = _; rw [F1.1]; exact e1) (J2_up J1)
    refine ⟨h2, J2', F1.tr F2, fun Q bc bs hk ls l1 l0 => ?_⟩
    have K3 : ∀ ls : List (Nat × Value), ls.lookup 1 = some (.int (nI W)) → ls.lookup 0 = some (.ref 47) → Wp (Ex d) 137 Q 120 ls [] h1 bc bs := fun ls l1 l0 => by
      refine r_iinc (y := nI (W + 1)) (q137 (i := 75) rfl) (Nat.le_of_ble_eq_true rfl) l1 (nI_1 W) rfl ?_
      have l0 := lk1 (k := 1) (v := .int (nI (W + 1))) l0 (by decide) (Or.inl rfl)
      have l1 := lk0 ls 1 (.int (nI (W + 1)))
      generalize lset1 ls 1 (.int (nI (W + 1))) = ls at l1 l0 ⊢
      refine r_goto 66 (q137 (i := 76) rfl) (by decide) ?_
      exact K2 Q bc bs hk ls l1 l0
    refine r_iload_n (q137 (i := 39) rfl) l1 ?_
    refine r_sipush (v := 4096) (q137 (i := 40) rfl) (by decide) ?_
    refine r_icmp 126 (q137 (i := 41) rfl) (by decide) (fun zz => absurd zz (show ¬ (4096 ≤ nI W) from nI_ge (b := 4096) (by omega) (by decide))) (fun _ => ?_)
    refine r_iconst (v := nI 1) (q137 (i := 42) rfl) (by decide) ?_
    refine r_istore_n (ls' := lset1 ls 2 (.int (nI 1))) (q137 (i := 43) rfl) (Nat.le_of_ble_eq_true rfl) rfl ?_
    have l1 := lk1 (k := 2) (v := .int (nI 1)) l1 (by decide) (Or.inl rfl)
    have l0 := lk1 (k := 2) (v := .int (nI 1)) l0 (by decide) (Or.inr (by decide))
    have l2 := lk0 ls 2 (.int (nI 1))
    generalize lset1 ls 2 (.int (nI 1)) = ls at l2 l1 l0 ⊢
    exact K1 Q bc bs K3 ls l2 l1 l0
def Fr3 (x : Nat) (h h' : hp) : Prop := h'.2.2 = h.2.2 ∧ (∀ k, k ≠ 47 → k ≠ 68 → k ≠ 69 → k ≠ x → hI h' k = hI h k) ∧ (∀ j, j ≠ 11 → hI h' 47 j = hI h 47 j) ∧ ∀ k, (k < 71 ∨ 1070 < k) → hJ h' k = hJ h k
theorem Fr3.rf (x : Nat) (h : hp) : Fr3 x h h := ⟨rfl, fun _ _ _ _ _ => rfl, fun _ _ => rfl, fun _ _ => rfl⟩
theorem Fr3.tr {x : Nat} {h h' h'' : hp} (a : Fr3 x h h') (b : Fr3 x h' h'') : Fr3 x h h'' := ⟨b.1.trans a.1, fun k y z w u => (b.2.1 k y z w u).trans (a.2.1 k y z w u), fun j y => (b.2.2.1 j y).trans (a.2.2.1 j y), fun k y => (b.2.2.2 k y).trans (a.2.2.2 k y)⟩
theorem Fr3.S {x : Nat} {h h' : hp} (F : Fr3 x h h') (S : Sh h) : Sh h' := S.to F.1
theorem FrGM.F3 {h h' : hp} (F : FrGM h h') (x : Nat) : Fr3 x h h' := ⟨F.1, fun k y z w _ => F.2.1 k y z w, F.2.2.1, F.2.2.2⟩
theorem Fr3.A {h h' : hp} {x : Nat} (hx : x = 66 ∨ x = 67) (F : Fr3 x h h') : cirA h' = cirA h := by
  unfold cirA
  rw [F.2.1 51 (by decide) (by decide) (by decide) (by omega), F.2.1 54 (by decide) (by decide) (by decide) (by omega), F.2.1 57 (by decide) (by decide) (by decide) (by omega), F.2.1 60 (by decide) (by decide) (by decide) (by omega)]
theorem Fr3.B {h h' : hp} {x : Nat} (hx : x = 66 ∨ x = 67) (F : Fr3 x h h') : cirB h' = cirB h := by
  unfold cirB
  rw [F.2.1 52 (by decide) (by decide) (by decide) (by omega), F.2.1 55 (by decide) (by decide) (by decide) (by omega), F.2.1 58 (by decide) (by decide) (by decide) (by omega), F.2.1 61 (by decide) (by decide) (by decide) (by omega)]
set_option maxHeartbeats 2000000 in
set_option maxRecDepth 10000 in
theorem lp_g3_0 {d n cnt : Nat} (hn : n ≤ 12) (hcnt : cnt ≤ 120) {k : cir} (hK : ∀ g, g < cnt → cok n k g) {st : gs × (Nat → Nat)} (M0 : gmade n 0 st) (hC : gC st.1 + 4 * cnt < 1000) : ∀ (m g : Nat) (h : hp), g + m = cnt → Sh h → hI h 47 1 = nI n → cirA h = k → hI h 48 0 = nI cnt → MG h n (gmk n k st g).1 → (∀ i, i < g → hI h 66 i = nI ((gmk n k st g).2 i)) → ∃ h', MG h' n (gmk n k st cnt).1 ∧ (∀ i, i < cnt → hI h' 66 i = nI ((gmk n k st cnt).2 i)) ∧ Fr3 66 h h' ∧ ∀ (Q : resP) (bc bs : Nat), (∀ ls : List (Nat × Value), ls.lookup 1 = some (.int 0) → ls.lookup 0 = some (.ref 47) → Wp (Ex (d + 3)) 137 Q 165 ls [] h' bc bs) → ∀ ls : List (Nat × Value), ls.lookup 2 = some (.int (nI g)) → ls.lookup 1 = some (.int 0) → ls.lookup 0 = some (.ref 47) → Wp (Ex (d + 3)) 137 Q 135 ls [] h bc bs := by
  intro m
  induction m with
  | zero =>
    intro g h hm S e1 ek e48 G Lt
    have e : g = cnt := by omega
    subst e
    refine ⟨h, G, Lt, Fr3.rf _ h, fun Q bc bs hk ls l2 l1 l0 => ?_⟩
    refine r_iload_n (q137 (i := 84) rfl) l2 ?_
    refine r_aload_n (q137 (i := 85) rfl) l0 ?_
    refine r_getR (b := 48) (q137 (i := 86) rfl) rfl (by decide) (k_47 S) (fun _ _ _ => rfl) (r_47_2 S) ?_
    refine r_iload_n (q137 (i := 87) rfl) l1 ?_
    refine r_iaload (x := nI g) (q137 (i := 88) rfl) (k_48 S) (vp_in_nI (n := 0) (by decide) (by decide)) e48 ?_
    refine r_icmp 165 (q137 (i := 89) rfl) (by decide) (fun _ => ?_) (fun zz => absurd (show nI g ≤ nI g from Int32.le_refl _) zz)
    exact hk ls l1 l0
  | succ m ih =>
    intro g h hm S e1 ek e48 G Lt
    obtain ⟨M1, m1, m2⟩ := gmk_ok M0 hn g (by omega) (fun i hi => hK i (by omega))
    obtain ⟨h1, R1, G1, F1⟩ := sp_gateOf0 (d := d) (g := g) (st := gmk n k st g) S e1 G M1 (by rw [ek]; exact hK g (by omega)) Lt hn (by omega) (by omega)
    rw [ek] at R1 G1
    obtain ⟨h2, eh⟩ : ∃ x, x = sI h1 66 g (nI (gop n k (gmk n k st g) g).1) := ⟨_, rfl⟩
    have F2 : Fr3 66 h h2 := by
      rw [eh]
      exact (F1.F3 _).tr ⟨rfl, fun q x y z w => by
        show u2 h1.1 66 _ _ q = _
        rw [u2_n w], fun _ _ => rfl, fun _ _ => rfl⟩
    have G2 : MG h2 n (gmk n k st (g + 1)).1 := by rw [eh]; exact G1
    have L2 : ∀ i, i < g + 1 → hI h2 66 i = nI ((gmk n k st (g + 1)).2 i) := fun i hi => by
      rw [eh]
      show u1 (hI h1 66) g _ i = nI (u1 (gmk n k st g).2 g _ i)
      by_cases e : i = g
      · rw [e, u1_s, u1_s]
      · rw [u1_n e, u1_n e, F1.2.1 66 (by decide) (by decide) (by decide)]; exact Lt i (by omega)
    obtain ⟨h', G', L', F', K⟩ := ih (g + 1) h2 (by omega) (F2.S S) ((F2.2.2.1 1 (by decide)).trans e1) ((F2.A (by decide)).trans ek) ((congrFun (F2.2.1 48 (by decide) (by decide) (by decide) (by decide)) 0).trans e48) G2 L2
    refine ⟨h', G', L', F2.tr F', fun Q bc bs hk ls l2 l1 l0 => ?_⟩
    refine r_iload_n (q137 (i := 84) rfl) l2 ?_
    refine r_aload_n (q137 (i := 85) rfl) l0 ?_
    refine r_getR (b := 48) (q137 (i := 86) rfl) rfl (by decide) (k_47 S) (fun _ _ _ => rfl) (r_47_2 S) ?_
    refine r_iload_n (q137 (i := 87) rfl) l1 ?_
    refine r_iaload (x := nI cnt) (q137 (i := 88) rfl) (k_48 S) (vp_in_nI (n := 0) (by decide) (by decide)) e48 ?_
    refine r_icmp 165 (q137 (i := 89) rfl) (by decide) (fun zz => absurd zz (show ¬ (nI cnt ≤ nI g) from nI_ge (by omega) (by omega))) (fun _ => ?_)
    refine r_aload_n (q137 (i := 90) rfl) l0 ?_
    refine r_getR (b := 65) (q137 (i := 91) rfl) rfl (by decide) (k_47 S) (fun _ _ _ => rfl) (r_47_9 S) ?_
    refine r_iload_n (q137 (i := 92) rfl) l1 ?_
    refine r_aaload5 (q137 (i := 93) rfl) (k_65 S) (vp_in_nI (n := 0) (by decide) (by decide)) (r_65_0 S) ?_
    refine r_iload_n (q137 (i := 94) rfl) l2 ?_
    refine r_aload_n (q137 (i := 95) rfl) l0 ?_
    refine r_iload_n (q137 (i := 96) rfl) l1 ?_
    refine r_iload_n (q137 (i := 97) rfl) l2 ?_
    refine r_cV (d := _) (q137 (i := 98) rfl) rfl rfl rfl (k_47 S) (Nat.le_of_ble_eq_true rfl) (Nat.zero_le _) (Nat.zero_le _) R1 ?_
    show Wp _ _ _ 158 ls [.int (nI (gop n k (gmk n k st g) g).1), .int (nI g), .ref 66] h1 _ _
    refine r_iasN (q137 (i := 99) rfl) (k_66 (F1.S S)) (by omega) (by decide) ?_
    rw [← eh]
    refine r_iinc (y := nI (g + 1)) (q137 (i := 100) rfl) (Nat.le_of_ble_eq_true rfl) l2 (nI_1 g) rfl ?_
    have l1 := lk1 (k := 2) (v := .int (nI (g + 1))) l1 (by decide) (Or.inl rfl)
    have l0 := lk1 (k := 2) (v := .int (nI (g + 1))) l0 (by decide) (Or.inr (by decide))
    have l2 := lk0 ls 2 (.int (nI (g + 1)))
    generalize lset1 ls 2 (.int (nI (g + 1))) = ls at l2 l1 l0 ⊢
    refine r_goto 135 (q137 (i := 101) rfl) (by decide) ?_
    exact K Q bc bs hk ls l2 l1 l0
set_option maxHeartbeats 2000000 in
set_option maxRecDepth 10000 in
theorem lp_g3_1 {d n cnt : Nat} (hn : n ≤ 12) (hcnt : cnt ≤ 120) {k : cir} (hK : ∀ g, g < cnt → cok n k g) {st : gs × (Nat → Nat)} (M0 : gmade n 0 st) (hC : gC st.1 + 4 * cnt < 1000) : ∀ (m g : Nat) (h : hp), g + m = cnt → Sh h → hI h 47 1 = nI n → cirB h = k → hI h 48 1 = nI cnt → MG h n (gmk n k st g).1 → (∀ i, i < g → hI h 67 i = nI ((gmk n k st g).2 i)) → ∃ h', MG h' n (gmk n k st cnt).1 ∧ (∀ i, i < cnt → hI h' 67 i = nI ((gmk n k st cnt).2 i)) ∧ Fr3 67 h h' ∧ ∀ (Q : resP) (bc bs : Nat), (∀ ls : List (Nat × Value), ls.lookup 1 = some (.int 1) → ls.lookup 0 = some (.ref 47) → Wp (Ex (d + 3)) 137 Q 165 ls [] h' bc bs) → ∀ ls : List (Nat × Value), ls.lookup 2 = some (.int (nI g)) → ls.lookup 1 = some (.int 1) → ls.lookup 0 = some (.ref 47) → Wp (Ex (d + 3)) 137 Q 135 ls [] h bc bs := by
  intro m
  induction m with
  | zero =>
    intro g h hm S e1 ek e48 G Lt
    have e : g = cnt := by omega
    subst e
    refine ⟨h, G, Lt, Fr3.rf _ h, fun Q bc bs hk ls l2 l1 l0 => ?_⟩
    refine r_iload_n (q137 (i := 84) rfl) l2 ?_
    refine r_aload_n (q137 (i := 85) rfl) l0 ?_
    refine r_getR (b := 48) (q137 (i := 86) rfl) rfl (by decide) (k_47 S) (fun _ _ _ => rfl) (r_47_2 S) ?_
    refine r_iload_n (q137 (i := 87) rfl) l1 ?_
    refine r_iaload (x := nI g) (q137 (i := 88) rfl) (k_48 S) (vp_in_nI (n := 1) (by decide) (by decide)) e48 ?_
    refine r_icmp 165 (q137 (i := 89) rfl) (by decide) (fun _ => ?_) (fun zz => absurd (show nI g ≤ nI g from Int32.le_refl _) zz)
    exact hk ls l1 l0
  | succ m ih =>
    intro g h hm S e1 ek e48 G Lt
    obtain ⟨M1, m1, m2⟩ := gmk_ok M0 hn g (by omega) (fun i hi => hK i (by omega))
    obtain ⟨h1, R1, G1, F1⟩ := sp_gateOf1 (d := d) (g := g) (st := gmk n k st g) S e1 G M1 (by rw [ek]; exact hK g (by omega)) Lt hn (by omega) (by omega)
    rw [ek] at R1 G1
    obtain ⟨h2, eh⟩ : ∃ x, x = sI h1 67 g (nI (gop n k (gmk n k st g) g).1) := ⟨_, rfl⟩
    have F2 : Fr3 67 h h2 := by
      rw [eh]
      exact (F1.F3 _).tr ⟨rfl, fun q x y z w => by
        show u2 h1.1 67 _ _ q = _
        rw [u2_n w], fun _ _ => rfl, fun _ _ => rfl⟩
    have G2 : MG h2 n (gmk n k st (g + 1)).1 := by rw [eh]; exact G1
    have L2 : ∀ i, i < g + 1 → hI h2 67 i = nI ((gmk n k st (g + 1)).2 i) := fun i hi => by
      rw [eh]
      show u1 (hI h1 67) g _ i = nI (u1 (gmk n k st g).2 g _ i)
      by_cases e : i = g
      · rw [e, u1_s, u1_s]
      · rw [u1_n e, u1_n e, F1.2.1 67 (by decide) (by decide) (by decide)]; exact Lt i (by omega)
    obtain ⟨h', G', L', F', K⟩ := ih (g + 1) h2 (by omega) (F2.S S) ((F2.2.2.1 1 (by decide)).trans e1) ((F2.B (by decide)).trans ek) ((congrFun (F2.2.1 48 (by decide) (by decide) (by decide) (by decide)) 1).trans e48) G2 L2
    refine ⟨h', G', L', F2.tr F', fun Q bc bs hk ls l2 l1 l0 => ?_⟩
    refine r_iload_n (q137 (i := 84) rfl) l2 ?_
    refine r_aload_n (q137 (i := 85) rfl) l0 ?_
    refine r_getR (b := 48) (q137 (i := 86) rfl) rfl (by decide) (k_47 S) (fun _ _ _ => rfl) (r_47_2 S) ?_
    refine r_iload_n (q137 (i := 87) rfl) l1 ?_
    refine r_iaload (x := nI cnt) (q137 (i := 88) rfl) (k_48 S) (vp_in_nI (n := 1) (by decide) (by decide)) e48 ?_
    refine r_icmp 165 (q137 (i := 89) rfl) (by decide) (fun zz => absurd zz (show ¬ (nI cnt ≤ nI g) from nI_ge (by omega) (by omega))) (fun _ => ?_)
    refine r_aload_n (q137 (i := 90) rfl) l0 ?_
    refine r_getR (b := 65) (q137 (i := 91) rfl) rfl (by decide) (k_47 S) (fun _ _ _ => rfl) (r_47_9 S) ?_
    refine r_iload_n (q137 (i := 92) rfl) l1 ?_
    refine r_aaload5 (q137 (i := 93) rfl) (k_65 S) (vp_in_nI (n := 1) (by decide) (by decide)) (r_65_1 S) ?_
    refine r_iload_n (q137 (i := 94) rfl) l2 ?_
    refine r_aload_n (q137 (i := 95) rfl) l0 ?_
    refine r_iload_n (q137 (i := 96) rfl) l1 ?_
    refine r_iload_n (q137 (i := 97) rfl) l2 ?_
    refine r_cV (d := _) (q137 (i := 98) rfl) rfl rfl rfl (k_47 S) (Nat.le_of_ble_eq_true rfl) (Nat.zero_le _) (Nat.zero_le _) R1 ?_
    show Wp _ _ _ 158 ls [.int (nI (gop n k (gmk n k st g) g).1), .int (nI g), .ref 67] h1 _ _
    refine r_iasN (q137 (i := 99) rfl) (k_67 (F1.S S)) (by omega) (by decide) ?_
    rw [← eh]
    refine r_iinc (y := nI (g + 1)) (q137 (i := 100) rfl) (Nat.le_of_ble_eq_true rfl) l2 (nI_1 g) rfl ?_
    have l1 := lk1 (k := 2) (v := .int (nI (g + 1))) l1 (by decide) (Or.inl rfl)
    have l0 := lk1 (k := 2) (v := .int (nI (g + 1))) l0 (by decide) (Or.inr (by decide))
    have l2 := lk0 ls 2 (.int (nI (g + 1)))
    generalize lset1 ls 2 (.int (nI (g + 1))) = ls at l2 l1 l0 ⊢
    refine r_goto 135 (q137 (i := 101) rfl) (by decide) ?_
    exact K Q bc bs hk ls l2 l1 l0
theorem I1_MG {h : hp} {n : Nat} (hn : n ≤ 12) (I : I1 h (n + 1)) {h' : hp} (J : J2 h' n 4096 1) (F : Fr2 n h h') : MG h' n (gini (n + 1)) := by
  have e : ∀ k, hI h' k = hI h k := fun k => by unfold hI; rw [F.1]
  refine ⟨by rw [e 47]; exact I.1, fun k hk => ?_, fun k h1 h2 => ?_, fun k hk w hw => ?_⟩
  · rw [e 68, e 69]; exact I.2.1 k (by omega)
  · have h2 : k < n + 1 := h2
    omega
  · have hk : k < n + 1 := hk
    show hJ h' (71 + k) w = T0 k w
    by_cases k0 : k = 0
    · rw [k0, F.2.2 (71 + 0) (by omega), I.2.2 0 (by omega) w hw]; rfl
    · apply b64_ext
      intro i hi
      rw [J k (by omega) (by omega) w hw i hi, T0_b (by omega) (by omega) hi, decide_eq_true (by omega), Bool.true_and]
set_option maxHeartbeats 2000000 in
set_option maxRecDepth 10000 in
theorem sp_graph {d : Nat} {h : hp} {σ : st8} (M : MI h σ) (Z : zok σ) : ∃ h', Run (d + 3 + 1) 137 [.ref 47] h 0 0 none h' ∧ MI h' σ ∧ MGr h' σ ∧ FM h h' := by
  have S := M.1.1
  have e1 := M.1.2
  rcases M.2.2.2.2.2.2.1 with e10 | g
  · obtain ⟨⟨n1, n2⟩, kA, kB, _⟩ := id Z
    obtain ⟨hs, es⟩ : ∃ x, x = sI (sI h 47 10 1) 47 11 0 := ⟨_, rfl⟩
    have Ss : Sh hs := by rw [es]; exact S.to rfl
    have e1s : hI hs 47 1 = nI (zn σ) := by rw [es]; exact e1
    obtain ⟨h1, J1, F1, K1⟩ := lp_g1 (d := d + 2) n2 (zn σ + 1) 0 hs (by omega) Ss e1s ⟨by rw [es]; rfl, fun j hj => absurd hj (Nat.not_lt_zero j), fun j hj => absurd hj (Nat.not_lt_zero j)⟩
    have S1 := F1.S Ss
    have e11 : hI h1 47 1 = nI (zn σ) := (F1.2.2.1 1 (by decide)).trans e1s
    obtain ⟨h2, J2', F2, K2⟩ := lp_g2 (d := d + 3) n2 n1 4096 0 h1 rfl S1 e11 (fun j a b q hq i hi => by
      rw [J1.2.2 j (by omega) q hq, b64_0, decide_eq_false (by omega), Bool.false_and])
    have S2 : Sh h2 := S1.to F2.2.1
    have i2 : ∀ k, hI h2 k = hI h1 k := fun k => by unfold hI; rw [F2.1]
    have e12 : hI h2 47 1 = nI (zn σ) := by rw [i2]; exact e11
    have G2 := I1_MG n2 J1 J2' F2
    have is : ∀ k, k ≠ 47 → hI hs k = hI h k := fun k hk => by
      rw [es]
      show u2 (u2 h.1 47 _ _) 47 _ _ k = _
      rw [u2_n hk, u2_n hk]
    have ih : ∀ k, k ≠ 47 → k ≠ 68 → k ≠ 69 → hI h2 k = hI h k := fun k a b c => by rw [i2, F1.2.1 k a b c, is k a]
    have M0 : gmade (zn σ) 0 (gini (zn σ + 1), fun _ => 0) := ⟨gini_wf _, fun i hi => absurd hi (Nat.not_lt_zero i)⟩
    have A2 : cirA h2 = (za σ).1 := by
      rw [← M.2.1.1]
      unfold cirA
      rw [ih 51 (by decide) (by decide) (by decide), ih 54 (by decide) (by decide) (by decide), ih 57 (by decide) (by decide) (by decide), ih 60 (by decide) (by decide) (by decide)]
    have B2 : cirB h2 = (zb σ).1 := by
      rw [← M.2.2.1.1]
      unfold cirB
      rw [ih 52 (by decide) (by decide) (by decide), ih 55 (by decide) (by decide) (by decide), ih 58 (by decide) (by decide) (by decide), ih 61 (by decide) (by decide) (by decide)]
    obtain ⟨h3, G3, L3, F3, K3⟩ := lp_g3_0 (d := d) (cnt := (za σ).2.1) n2 kA.1 (k := (za σ).1) kA.2.2.1 M0 (by have := kA.1; show zn σ + 1 + _ < _; omega) (za σ).2.1 0 h2 (by omega) S2 e12 A2 (by rw [ih 48 (by decide) (by decide) (by decide)]; exact M.2.1.2.1) G2 (fun i hi => absurd hi (Nat.not_lt_zero i))
    have S3 := F3.S S2
    obtain ⟨MA1, c1, c2⟩ := gmk_ok M0 n2 (za σ).2.1 kA.1 kA.2.2.1
    have c2 : gC (gA (zn σ) (za σ).1 (za σ).2.1).1 ≤ zn σ + 1 + 4 * (za σ).2.1 := c2
    have M1 : gmade (zn σ) 0 ((gA (zn σ) (za σ).1 (za σ).2.1).1, fun _ => 0) := ⟨MA1.1, fun i hi => absurd hi (Nat.not_lt_zero i)⟩
    obtain ⟨h4, G4, L4, F4, K4⟩ := lp_g3_1 (d := d) (cnt := (zb σ).2.1) n2 kB.1 (k := (zb σ).1) kB.2.2.1 M1 (by have := kA.1; have := kB.1; show gC (gA (zn σ) (za σ).1 (za σ).2.1).1 + _ < _; omega) (zb σ).2.1 0 h3 (by omega) S3 ((F3.2.2.1 1 (by decide)).trans e12) ((F3.B (by decide)).trans B2) (by rw [F3.2.1 48 (by decide) (by decide) (by decide) (by decide), ih 48 (by decide) (by decide) (by decide)]; exact M.2.2.1.2.1) G3 (fun i hi => absurd hi (Nat.not_lt_zero i))
    have S4 := F4.S S3
    have i4 : ∀ k, k ≠ 47 → k ≠ 66 → k ≠ 67 → k ≠ 68 → k ≠ 69 → hI h4 k = hI h k := fun k a b c e f => by rw [F4.2.1 k a e f c, F3.2.1 k a e f b, ih k a e f]
    have i47 : ∀ j, j ≠ 10 → j ≠ 11 → hI h4 47 j = hI h 47 j := fun j a b => by
      rw [F4.2.2.1 j b, F3.2.2.1 j b, i2, F1.2.2.1 j b, es]
      show u1 (u1 (h.1 47) 10 _) 11 _ j = _
      rw [u1_n b, u1_n a]
    have j4 : ∀ k, (k < 71 ∨ 1070 < k) → hJ h4 k = hJ h k := fun k a => by
      rw [F4.2.2.2 k a, F3.2.2.2 k a, F2.2.2 k (by omega), F1.2.2.2 k a, es]; rfl
    have e22 : h4.2.2 = h.2.2 := by rw [F4.1, F3.1, F2.2.1, F1.1, es]; rfl
    have g10 : hI h4 47 10 = 1 := by
      rw [F4.2.2.1 10 (by decide), F3.2.2.1 10 (by decide), i2, F1.2.2.1 10 (by decide), es]; rfl
    have GR : MGr h4 σ := ⟨g10, G4, fun g hg => by rw [F4.2.1 66 (by decide) (by decide) (by decide) (by decide)]; exact L3 g hg, L4⟩
    refine ⟨h4, ?_, ⟨⟨S4, by rw [i47 1 (by decide) (by decide)]; exact e1⟩, ?_, ?_, ?_, ?_, ?_, Or.inr GR, ?_⟩, GR, ⟨e22, fun k hk => ⟨i4 k (by omega) (by omega) (by omega) (by omega) (by omega), j4 k (by omega)⟩⟩⟩
    · refine Run.of (d := d + 3) (Nat.le_of_ble_eq_true rfl) (fun Q hQ => ?_)
      show Wp (Ex (d + 3)) 137 Q 0 [(0, .ref 47)] [] h 0 0
      have T4 : ∀ ls : List (Nat × Value), ls.lookup 1 = some (.int 1) → ls.lookup 0 = some (.ref 47) → Wp (Ex (d + 3)) 137 Q 165 ls [] h4 0 0 := fun ls l1 l0 => by
        refine r_iinc (y := 2) (q137 (i := 102) rfl) (Nat.le_of_ble_eq_true rfl) l1 (by decide) rfl ?_
        have l0 := lk1 (k := 1) (v := .int 2) l0 (by decide) (Or.inl rfl)
        have l1 := lk0 ls 1 (.int 2)
        generalize lset1 ls 1 (.int 2) = ls at l1 l0 ⊢
        refine r_goto 128 (q137 (i := 103) rfl) (by decide) ?_
        refine r_iload_n (q137 (i := 79) rfl) l1 ?_
        refine r_iconst (v := 2) (q137 (i := 80) rfl) (by decide) ?_
        refine r_icmp 171 (q137 (i := 81) rfl) (by decide) (fun _ => ?_) (fun zz => absurd (show 2 ≤ (2 : Int32) from by decide) zz)
        exact r_vret (q137 (i := 104) rfl) rfl hQ
      have T3 : ∀ ls : List (Nat × Value), ls.lookup 1 = some (.int 0) → ls.lookup 0 = some (.ref 47) → Wp (Ex (d + 3)) 137 Q 165 ls [] h3 0 0 := fun ls l1 l0 => by
        refine r_iinc (y := 1) (q137 (i := 102) rfl) (Nat.le_of_ble_eq_true rfl) l1 (by decide) rfl ?_
        have l0 := lk1 (k := 1) (v := .int 1) l0 (by decide) (Or.inl rfl)
        have l1 := lk0 ls 1 (.int 1)
        generalize lset1 ls 1 (.int 1) = ls at l1 l0 ⊢
        refine r_goto 128 (q137 (i := 103) rfl) (by decide) ?_
        refine r_iload_n (q137 (i := 79) rfl) l1 ?_
        refine r_iconst (v := 2) (q137 (i := 80) rfl) (by decide) ?_
        refine r_icmp 171 (q137 (i := 81) rfl) (by decide) (fun zz => absurd zz (show ¬ (2 ≤ (1 : Int32)) from by decide)) (fun _ => ?_)
        refine r_iconst (v := nI 0) (q137 (i := 82) rfl) (by decide) ?_
        refine r_istore_n (ls' := lset1 ls 2 (.int (nI 0))) (q137 (i := 83) rfl) (Nat.le_of_ble_eq_true rfl) rfl ?_
        have l1 := lk1 (k := 2) (v := .int (nI 0)) l1 (by decide) (Or.inl rfl)
        have l0 := lk1 (k := 2) (v := .int (nI 0)) l0 (by decide) (Or.inr (by decide))
        have l2 := lk0 ls 2 (.int (nI 0))
        generalize lset1 ls 2 (.int (nI 0)) = ls at l2 l1 l0 ⊢
        exact K4 Q 0 0 T4 ls l2 l1 l0
      have T2 : ∀ ls : List (Nat × Value), ls.lookup 0 = some (.ref 47) → Wp (Ex (d + 3)) 137 Q 126 ls [] h2 0 0 := fun ls l0 => by
        refine r_iconst (v := 0) (q137 (i := 77) rfl) (by decide) ?_
        refine r_istore_n (ls' := lset1 ls 1 (.int 0)) (q137 (i := 78) rfl) (Nat.le_of_ble_eq_true rfl) rfl ?_
        have l0 := lk1 (k := 1) (v := .int 0) l0 (by decide) (Or.inl rfl)
        have l1 := lk0 ls 1 (.int 0)
        generalize lset1 ls 1 (.int 0) = ls at l1 l0 ⊢
        refine r_iload_n (q137 (i := 79) rfl) l1 ?_
        refine r_iconst (v := 2) (q137 (i := 80) rfl) (by decide) ?_
        refine r_icmp 171 (q137 (i := 81) rfl) (by decide) (fun zz => absurd zz (show ¬ (2 ≤ (0 : Int32)) from by decide)) (fun _ => ?_)
        refine r_iconst (v := nI 0) (q137 (i := 82) rfl) (by decide) ?_
        refine r_istore_n (ls' := lset1 ls 2 (.int (nI 0))) (q137 (i := 83) rfl) (Nat.le_of_ble_eq_true rfl) rfl ?_
        have l1 := lk1 (k := 2) (v := .int (nI 0)) l1 (by decide) (Or.inl rfl)
        have l0 := lk1 (k := 2) (v := .int (nI 0)) l0 (by decide) (Or.inr (by decide))
        have l2 := lk0 ls 2 (.int (nI 0))
        generalize lset1 ls 2 (.int (nI 0)) = ls at l2 l1 l0 ⊢
        exact K3 Q 0 0 T3 ls l2 l1 l0
      have T1 : ∀ ls : List (Nat × Value), ls.lookup 0 = some (.ref 47) → Wp (Ex (d + 3)) 137 Q 64 ls [] h1 0 0 := fun ls l0 => by
        refine r_iconst (v := nI 0) (q137 (i := 37) rfl) (by decide) ?_
        refine r_istore_n (ls' := lset1 ls 1 (.int (nI 0))) (q137 (i := 38) rfl) (Nat.le_of_ble_eq_true rfl) rfl ?_
        have l0 := lk1 (k := 1) (v := .int (nI 0)) l0 (by decide) (Or.inl rfl)
        have l1 := lk0 ls 1 (.int (nI 0))
        generalize lset1 ls 1 (.int (nI 0)) = ls at l1 l0 ⊢
        exact K2 Q 0 0 T2 ls l1 l0
      refine r_aload_n (q137 (i := 0) rfl) rfl ?_
      refine r_getI (x := 0) (q137 (i := 1) rfl) rfl (by decide) (k_47 S) (fun _ _ _ => rfl) e10 ?_
      refine r_if 8 (q137 (i := 2) rfl) (by decide) (fun _ => ?_) (fun zz => absurd (show (0 : Int32) = 0 from by decide) zz)
      refine r_aload_n (q137 (i := 4) rfl) rfl ?_
      refine r_iconst (v := 1) (q137 (i := 5) rfl) (by decide) ?_
      refine r_putZ (q137 (i := 6) rfl) rfl (by decide) (k_47 S) rfl rfl (by decide) ?_
      refine r_aload_n (q137 (i := 7) rfl) rfl ?_
      refine r_iconst (v := 0) (q137 (i := 8) rfl) (by decide) ?_
      refine r_putI (q137 (i := 9) rfl) rfl (by decide) (k_47 S) rfl rfl ?_
      rw [← es]
      refine r_iconst (v := nI 0) (q137 (i := 10) rfl) (by decide) ?_
      refine r_istore_n (ls' := [(1, .int (nI 0)), (0, .ref 47)]) (q137 (i := 11) rfl) (Nat.le_of_ble_eq_true rfl) rfl ?_
      exact K1 Q 0 0 T1 _ rfl rfl
    · unfold MA cirA
      rw [i4 51 (by decide) (by decide) (by decide) (by decide) (by decide), i4 54 (by decide) (by decide) (by decide) (by decide) (by decide), i4 57 (by decide) (by decide) (by decide) (by decide) (by decide), i4 60 (by decide) (by decide) (by decide) (by decide) (by decide), i4 48 (by decide) (by decide) (by decide) (by decide) (by decide), i4 63 (by decide) (by decide) (by decide) (by decide) (by decide), i4 49 (by decide) (by decide) (by decide) (by decide) (by decide)]
      exact M.2.1
    · unfold MB cirB
      rw [i4 52 (by decide) (by decide) (by decide) (by decide) (by decide), i4 55 (by decide) (by decide) (by decide) (by decide) (by decide), i4 58 (by decide) (by decide) (by decide) (by decide) (by decide), i4 61 (by decide) (by decide) (by decide) (by decide) (by decide), i4 48 (by decide) (by decide) (by decide) (by decide) (by decide), i4 64 (by decide) (by decide) (by decide) (by decide) (by decide), i4 49 (by decide) (by decide) (by decide) (by decide) (by decide)]
      exact M.2.2.1
    · unfold MV
      rw [j4 1071 (by decide), i4 1072 (by decide) (by decide) (by decide) (by decide) (by decide), i47 17 (by decide) (by decide)]
      exact M.2.2.2.1
    · rw [i4 1074 (by decide) (by decide) (by decide) (by decide) (by decide), i47 25 (by decide) (by decide), i47 26 (by decide) (by decide)]
      exact M.2.2.2.2.1
    · rw [i4 1073 (by decide) (by decide) (by decide) (by decide) (by decide)]
      exact M.2.2.2.2.2.1
    · have := M.2.2.2.2.2.2.2
      unfold MSs at this ⊢
      cases q : zs σ with
      | none =>
        rw [q] at this
        exact (i47 18 (by decide) (by decide)).trans this
      | some w =>
        rw [q] at this
        have y := this.2.1.1
        rw [e10] at y
        exact absurd y (by decide)
  · refine ⟨h, ?_, M, g, FM.rf h⟩
    have e10 := g.1
    refine Run.of (d := d + 3) (Nat.le_of_ble_eq_true rfl) (fun Q hQ => ?_)
    show Wp (Ex (d + 3)) 137 Q 0 [(0, .ref 47)] [] h 0 0
    refine r_aload_n (q137 (i := 0) rfl) rfl ?_
    refine r_getI (x := 1) (q137 (i := 1) rfl) rfl (by decide) (k_47 S) (fun _ _ _ => rfl) e10 ?_
    refine r_if 8 (q137 (i := 2) rfl) (by decide) (fun zz => absurd zz (show ¬ ((1 : Int32) = 0) from by decide)) (fun _ => ?_)
    exact r_vret (q137 (i := 3) rfl) rfl hQ
