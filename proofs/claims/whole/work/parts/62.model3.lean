/-! ===== the reference's graph ===== -/
def MT (h : hp) (C : Nat) (T : Nat → Nat → Int64) : Prop := ∀ k, k < C → ∀ w, w < 64 → hJ h (71 + k) w = T k w
def FrGM (h h' : hp) : Prop := h'.2.2 = h.2.2 ∧ (∀ k, k ≠ 47 → k ≠ 68 → k ≠ 69 → hI h' k = hI h k) ∧ (∀ j, j ≠ 11 → hI h' 47 j = hI h 47 j) ∧ ∀ k, (k < 71 ∨ 1070 < k) → hJ h' k = hJ h k
theorem FrGM.rf (h : hp) : FrGM h h := ⟨rfl, fun _ _ _ _ => rfl, fun _ _ => rfl, fun _ _ => rfl⟩
theorem FrGM.tr {h h' h'' : hp} (a : FrGM h h') (b : FrGM h' h'') : FrGM h h'' := ⟨b.1.trans a.1, fun k x y z => (b.2.1 k x y z).trans (a.2.1 k x y z), fun j x => (b.2.2.1 j x).trans (a.2.2.1 j x), fun k x => (b.2.2.2 k x).trans (a.2.2.2 k x)⟩
theorem FrGM.S {h h' : hp} (F : FrGM h h') (S : Sh h) : Sh h' := S.to F.1
theorem FrGM.M {h h' : hp} (F : FrGM h h') : FM h h' := ⟨F.1, fun k hk => ⟨F.2.1 k (by omega) (by omega) (by omega), F.2.2.2 k (by omega)⟩⟩
theorem FrGM.A {h h' : hp} (F : FrGM h h') : cirA h' = cirA h := by
  unfold cirA
  rw [F.2.1 51 (by decide) (by decide) (by decide), F.2.1 54 (by decide) (by decide) (by decide), F.2.1 57 (by decide) (by decide) (by decide), F.2.1 60 (by decide) (by decide) (by decide)]
theorem FrGM.B {h h' : hp} (F : FrGM h h') : cirB h' = cirB h := by
  unfold cirB
  rw [F.2.1 52 (by decide) (by decide) (by decide), F.2.1 55 (by decide) (by decide) (by decide), F.2.1 58 (by decide) (by decide) (by decide), F.2.1 61 (by decide) (by decide) (by decide)]
theorem xx1 (a : Nat) : a ^^^ 1 ^^^ 1 = a := by rw [Nat.xor_assoc, Nat.xor_self, Nat.xor_zero]
set_option maxHeartbeats 2000000 in
set_option maxRecDepth 10000 in
theorem sp_bits {d : Nat} {h : hp} (S : Sh h) {C : Nat} {T : Nat → Nat → Int64} (hT : MT h C T) (hC : C ≤ 1000) {p w : Nat} (hp : p < 2 * C) (hw : w < 64) : Run (d + 1) 133 [.ref 47, .int (nI p), .int (nI w)] h 0 0 (some (.long (lw T p w))) h := by
  refine Run.of (Nat.le_of_ble_eq_true rfl) (fun Q hQ => ?_)
  show Wp (Ex (d)) 133 Q 0 [(0, .ref 47), (1, .int (nI p)), (2, .int (nI w))] [] h 0 0
  refine r_aload_n (q133 (i := 0) rfl) rfl ?_
  refine r_getR (b := 70) (q133 (i := 1) rfl) rfl (by decide) (k_47 S) (fun _ _ _ => rfl) (r_47_14 S) ?_
  refine r_iload_n (q133 (i := 2) rfl) rfl ?_
  refine r_iconst (v := 2) (q133 (i := 3) rfl) (by decide) ?_
  refine r_idiv (q133 (i := 4) rfl) (by decide) ?_
  rw [show ((nI p) / 2 : Int32) = nI (p / 2) from div2 (by omega)]
  refine r_aa6N (q133 (i := 5) rfl) (k_70 S) (by omega) (by decide) (rT S (by omega)) ?_
  refine r_iload_n (q133 (i := 6) rfl) rfl ?_
  refine r_laN (x := T (p / 2) w) (q133 (i := 7) rfl) (kT S (x := p / 2) (by omega)) (by omega) (by decide) (hT _ (by omega) _ hw) ?_
  refine r_lstore_n (ls' := [(3, .long (T (p / 2) w)), (0, .ref 47), (1, .int (nI p)), (2, .int (nI w))]) (q133 (i := 8) rfl) (Nat.le_of_ble_eq_true rfl) rfl ?_
  refine r_iload_n (q133 (i := 9) rfl) rfl ?_
  refine r_iconst (v := 2) (q133 (i := 10) rfl) (by decide) ?_
  refine r_irem (q133 (i := 11) rfl) (by decide) ?_
  rw [show ((nI p) - (nI p) / 2 * 2 : Int32) = nI (p % 2) from rem2 (by omega)]
  refine r_iconst (v := 1) (q133 (i := 12) rfl) (by decide) ?_
  refine r_icmp 26 (q133 (i := 13) rfl) (by decide) (fun c15 => ?_) (fun c15 => ?_)
  · have c15 : ¬ nI (p % 2) = 1 := c15
    have e : lw T p w = T (p / 2) w := if_pos (by rcases Nat.mod_two_eq_zero_or_one p with y | y; exact y; exact absurd (by rw [y]; rfl) c15)
    rw [e] at hQ
    refine r_lload_n (q133 (i := 18) rfl) rfl ?_
    exact r_lret (q133 (i := 19) rfl) rfl hQ
  · have c15 : ¬ (¬ nI (p % 2) = 1) := c15
    have e : lw T p w = T (p / 2) w ^^^ (-1) := if_neg (fun y => c15 (by rw [y]; decide))
    rw [e] at hQ
    refine r_lload_n (q133 (i := 14) rfl) rfl ?_
    refine r_ldc2 (v := (-1)) (q133 (i := 15) rfl) rfl ?_
    refine r_lxor (q133 (i := 16) rfl) ?_
    refine r_goto 27 (q133 (i := 17) rfl) (by decide) ?_
    exact r_lret (q133 (i := 19) rfl) rfl hQ
def nodM (h : hp) (x : Nat) (l r : Int32) : hp := sI (sI (sI h 68 x l) 69 x r) 47 11 (nI (x + 1))
set_option maxHeartbeats 2000000 in
set_option maxRecDepth 10000 in
theorem sp_newNode {d : Nat} {h : hp} (S : Sh h) {x : Nat} (hx : hI h 47 11 = nI x) (hx1 : x < 1000) (l r : Int32) : Run (d + 1) 132 [.ref 47, .int l, .int r] h 0 0 (some (.int (nI x))) (nodM h x l r) := by
  refine Run.of (Nat.le_of_ble_eq_true rfl) (fun Q hQ => ?_)
  show Wp (Ex (d)) 132 Q 0 [(0, .ref 47), (1, .int l), (2, .int r)] [] h 0 0
  refine r_aload_n (q132 (i := 0) rfl) rfl ?_
  refine r_getR (b := 68) (q132 (i := 1) rfl) rfl (by decide) (k_47 S) (fun _ _ _ => rfl) (r_47_12 S) ?_
  refine r_aload_n (q132 (i := 2) rfl) rfl ?_
  refine r_getI (x := nI x) (q132 (i := 3) rfl) rfl (by decide) (k_47 S) (fun _ _ _ => rfl) hx ?_
  refine r_iload_n (q132 (i := 4) rfl) rfl ?_
  refine r_iasN (q132 (i := 5) rfl) (k_68 S) (by omega) (by decide) ?_
  refine r_aload_n (q132 (i := 6) rfl) rfl ?_
  refine r_getR (b := 69) (q132 (i := 7) rfl) rfl (by decide) (k_47 S) (fun _ _ _ => rfl) (r_47_13 S) ?_
  refine r_aload_n (q132 (i := 8) rfl) rfl ?_
  refine r_getI (x := nI x) (q132 (i := 9) rfl) rfl (by decide) (k_47 S) (fun _ _ _ => rfl) hx ?_
  refine r_iload_n (q132 (i := 10) rfl) rfl ?_
  refine r_iasN (q132 (i := 11) rfl) (k_69 S) (by omega) (by decide) ?_
  refine r_aload_n (q132 (i := 12) rfl) rfl ?_
  refine r_dup (q132 (i := 13) rfl) rfl ?_
  refine r_getI (x := nI x) (q132 (i := 14) rfl) rfl (by decide) (k_47 S) (fun _ _ _ => rfl) hx ?_
  refine r_iconst (v := 1) (q132 (i := 15) rfl) (by decide) ?_
  refine r_iadd (q132 (i := 16) rfl) ?_
  rw [show ((nI x) + 1 : Int32) = nI (x + 1) from nI_1 _]
  refine r_putI (q132 (i := 17) rfl) rfl (by decide) (k_47 S) rfl rfl ?_
  refine r_aload_n (q132 (i := 18) rfl) rfl ?_
  refine r_getI (x := nI (x + 1)) (q132 (i := 19) rfl) rfl (by decide) (k_47 S) (fun _ _ _ => rfl) rfl ?_
  refine r_iconst (v := 1) (q132 (i := 20) rfl) (by decide) ?_
  refine r_isub (q132 (i := 21) rfl) ?_
  rw [show ((nI (x + 1)) - 1 : Int32) = nI x from nI_pred _]
  exact r_iret (q132 (i := 22) rfl) rfl hQ
def filG (f g : Nat → Int64) (i : Nat) : Nat → Int64 := fun q => if q < i then g q else f q
theorem filG_s (f g : Nat → Int64) (i : Nat) : u1 (filG f g i) i (g i) = filG f g (i + 1) := by
  funext q
  unfold u1 filG
  by_cases e : q = i
  · rw [if_pos e, if_pos (by omega), e]
  · rw [if_neg e]
    by_cases y : q < i
    · rw [if_pos y, if_pos (by omega)]
    · rw [if_neg y, if_neg (by omega)]
theorem filG_0 (f g : Nat → Int64) : filG f g 0 = f := by
  funext q
  exact if_neg (Nat.not_lt_zero q)
theorem filG_in {f g : Nat → Int64} {i q : Nat} (h : q < i) : filG f g i q = g q := if_pos h
set_option maxHeartbeats 2000000 in
set_option maxRecDepth 10000 in
theorem lp_mfind {d : Nat} {h : hp} (S : Sh h) {n : Nat} {γ : gs} (G : MG h n γ) (hC : gC γ ≤ 1000) (W : gwf n γ) {l r : Nat} (hl : l < 4000) (hr : r < 4000) {Q : resP} {bc bs : Nat} (hf : ∀ k, n < k → k < gC γ → gL γ k = l → gR γ k = r → Q (some (.int (nI (2 * k)))) h) (hno : (∀ i, n < i → i < gC γ → ¬ (gL γ i = l ∧ gR γ i = r)) → ∀ ls : List (Nat × Value), ls.lookup 4 = some (.int (nI r)) → ls.lookup 3 = some (.int (nI l)) → ls.lookup 0 = some (.ref 47) → Wp (Ex d) 134 Q 110 ls [] h bc bs) : ∀ (m k : Nat), k + m = gC γ → n < k → (∀ i, n < i → i < k → ¬ (gL γ i = l ∧ gR γ i = r)) → ∀ ls : List (Nat × Value), ls.lookup 5 = some (.int (nI k)) → ls.lookup 4 = some (.int (nI r)) → ls.lookup 3 = some (.int (nI l)) → ls.lookup 0 = some (.ref 47) → Wp (Ex d) 134 Q 67 ls [] h bc bs := by
  have g1 := G.1
  intro m
  induction m with
  | zero =>
    intro k hm hk H ls l5 l4 l3 l0
    have e : k = gC γ := by omega
    subst e
    refine r_iload (q134 (i := 43) rfl) l5 ?_
    refine r_aload_n (q134 (i := 44) rfl) l0 ?_
    refine r_getI (x := nI (gC γ)) (q134 (i := 45) rfl) rfl (by decide) (k_47 S) (fun _ _ _ => rfl) g1 ?_
    refine r_icmp 110 (q134 (i := 46) rfl) (by decide) (fun _ => ?_) (fun zz => absurd (show nI (gC γ) ≤ nI (gC γ) from Int32.le_refl _) zz)
    exact hno H ls l4 l3 l0
  | succ m ih =>
    intro k hm hk H ls l5 l4 l3 l0
    obtain ⟨gl, gr⟩ := G.2.2.1 k hk (by omega)
    have w1 := W.2.1 k hk (by omega)
    have nx : ¬ (gL γ k = l ∧ gR γ k = r) → ∀ ls : List (Nat × Value), ls.lookup 5 = some (.int (nI k)) → ls.lookup 4 = some (.int (nI r)) → ls.lookup 3 = some (.int (nI l)) → ls.lookup 0 = some (.ref 47) → Wp (Ex d) 134 Q 104 ls [] h bc bs := fun y ls l5 l4 l3 l0 => by
      refine r_iinc (y := nI (k + 1)) (q134 (i := 63) rfl) (Nat.le_of_ble_eq_true rfl) l5 (nI_1 k) rfl ?_
      have l4 := lk1 (k := 5) (v := .int (nI (k + 1))) l4 (by decide) (Or.inl rfl)
      have l3 := lk1 (k := 5) (v := .int (nI (k + 1))) l3 (by decide) (Or.inr (by decide))
      have l0 := lk1 (k := 5) (v := .int (nI (k + 1))) l0 (by decide) (Or.inr (by decide))
      have l5 := lk0 ls 5 (.int (nI (k + 1)))
      generalize lset1 ls 5 (.int (nI (k + 1))) = ls at l5 l4 l3 l0 ⊢
      refine r_goto 67 (q134 (i := 64) rfl) (by decide) ?_
      exact ih (k + 1) (by omega) (by omega) (fun i a b => by
        by_cases e : i = k
        · rw [e]; exact y
        · exact H i a (by omega)) ls l5 l4 l3 l0
    refine r_iload (q134 (i := 43) rfl) l5 ?_
    refine r_aload_n (q134 (i := 44) rfl) l0 ?_
    refine r_getI (x := nI (gC γ)) (q134 (i := 45) rfl) rfl (by decide) (k_47 S) (fun _ _ _ => rfl) g1 ?_
    refine r_icmp 110 (q134 (i := 46) rfl) (by decide) (fun zz => absurd zz (show ¬ (nI (gC γ) ≤ nI k) from nI_ge (by omega) (by omega))) (fun _ => ?_)
    refine r_aload_n (q134 (i := 47) rfl) l0 ?_
    refine r_getR (b := 68) (q134 (i := 48) rfl) rfl (by decide) (k_47 S) (fun _ _ _ => rfl) (r_47_12 S) ?_
    refine r_iload (q134 (i := 49) rfl) l5 ?_
    refine r_iaN (x := nI (gL γ k)) (q134 (i := 50) rfl) (k_68 S) (by omega) (by decide) gl ?_
    refine r_iload_n (q134 (i := 51) rfl) l3 ?_
    refine r_icmp 104 (q134 (i := 52) rfl) (by decide) (fun c84 => ?_) (fun c84 => ?_)
    · have c84 : ¬ nI (gL γ k) = nI l := c84
      exact nx (fun y => c84 (by rw [y.1])) ls l5 l4 l3 l0
    · have c84 : ¬ (¬ nI (gL γ k) = nI l) := c84
      refine r_aload_n (q134 (i := 53) rfl) l0 ?_
      refine r_getR (b := 69) (q134 (i := 54) rfl) rfl (by decide) (k_47 S) (fun _ _ _ => rfl) (r_47_13 S) ?_
      refine r_iload (q134 (i := 55) rfl) l5 ?_
      refine r_iaN (x := nI (gR γ k)) (q134 (i := 56) rfl) (k_69 S) (by omega) (by decide) gr ?_
      refine r_iload (q134 (i := 57) rfl) l4 ?_
      refine r_icmp 104 (q134 (i := 58) rfl) (by decide) (fun c96 => ?_) (fun c96 => ?_)
      · have c96 : ¬ nI (gR γ k) = nI r := c96
        exact nx (fun y => c96 (by rw [y.2])) ls l5 l4 l3 l0
      · have c96 : ¬ (¬ nI (gR γ k) = nI r) := c96
        refine r_iconst (v := 2) (q134 (i := 59) rfl) (by decide) ?_
        refine r_iload (q134 (i := 60) rfl) l5 ?_
        refine r_imul (q134 (i := 61) rfl) ?_
        rw [show (2 * (nI k) : Int32) = nI (2 * k) from nI_mul 2 k]
        exact r_iret (q134 (i := 62) rfl) rfl (hf k hk (by omega) ((nI_eq (by omega) (by omega)).mp (Classical.not_not.mp c84)) ((nI_eq (by omega) (by omega)).mp (Classical.not_not.mp c96)))
set_option maxHeartbeats 2000000 in
set_option maxRecDepth 10000 in
theorem lp_mrow {d : Nat} {h : hp} (S : Sh h) {x : Nat} {T : Nat → Nat → Int64} (hT : MT h x T) (hx : x < 1000) {l r : Nat} (hl : l < 2 * x) (hr : r < 2 * x) {Q : resP} {bc bs : Nat} (hQ : Q (some (.int (nI (2 * x)))) (rJ h (71 + x) (filG (hJ h (71 + x)) (fun w => lw T l w &&& lw T r w) 64))) : ∀ (m i : Nat), i + m = 64 → ∀ ls : List (Nat × Value), ls.lookup 6 = some (.int (nI i)) → ls.lookup 5 = some (.int (nI x)) → ls.lookup 4 = some (.int (nI r)) → ls.lookup 3 = some (.int (nI l)) → ls.lookup 0 = some (.ref 47) → Wp (Ex (d + 1)) 134 Q 122 ls [] (rJ h (71 + x) (filG (hJ h (71 + x)) (fun w => lw T l w &&& lw T r w) i)) bc bs := by
  intro m
  induction m with
  | zero =>
    intro i hm ls l6 l5 l4 l3 l0
    have e : i = 64 := by omega
    subst e
    refine r_iload (q134 (i := 72) rfl) l6 ?_
    refine r_bipush (v := 64) (q134 (i := 73) rfl) (by decide) ?_
    refine r_icmp 161 (q134 (i := 74) rfl) (by decide) (fun _ => ?_) (fun zz => absurd (show 64 ≤ nI 64 from Int32.le_refl _) zz)
    refine r_iconst (v := 2) (q134 (i := 92) rfl) (by decide) ?_
    refine r_iload (q134 (i := 93) rfl) l5 ?_
    refine r_imul (q134 (i := 94) rfl) ?_
    rw [show (2 * (nI x) : Int32) = nI (2 * x) from nI_mul 2 x]
    exact r_iret (q134 (i := 95) rfl) rfl hQ
  | succ m ih =>
    intro i hm ls l6 l5 l4 l3 l0
    have S2 : Sh (rJ h (71 + x) (filG (hJ h (71 + x)) (fun w => lw T l w &&& lw T r w) i)) := S.to rfl
    have T2 : MT (rJ h (71 + x) (filG (hJ h (71 + x)) (fun w => lw T l w &&& lw T r w) i)) x T := fun k hk w hw => by
      show u1 h.2.1 (71 + x) _ (71 + k) w = _
      rw [u1_n (by omega)]
      exact hT k hk w hw
    have R1 := sp_bits (d := d) S2 T2 (by omega) hl (w := i) (by omega)
    have R2 := sp_bits (d := d) S2 T2 (by omega) hr (w := i) (by omega)
    refine r_iload (q134 (i := 72) rfl) l6 ?_
    refine r_bipush (v := 64) (q134 (i := 73) rfl) (by decide) ?_
    refine r_icmp 161 (q134 (i := 74) rfl) (by decide) (fun zz => absurd zz (show ¬ (64 ≤ nI i) from nI_ge (b := 64) (by omega) (by decide))) (fun _ => ?_)
    refine r_aload_n (q134 (i := 75) rfl) l0 ?_
    refine r_getR (b := 70) (q134 (i := 76) rfl) rfl (by decide) (k_47 S2) (fun _ _ _ => rfl) (r_47_14 S2) ?_
    refine r_iload (q134 (i := 77) rfl) l5 ?_
    refine r_aa6N (q134 (i := 78) rfl) (k_70 S2) (by omega) (by decide) (rT S2 hx) ?_
    refine r_iload (q134 (i := 79) rfl) l6 ?_
    refine r_aload_n (q134 (i := 80) rfl) l0 ?_
    refine r_iload_n (q134 (i := 81) rfl) l3 ?_
    refine r_iload (q134 (i := 82) rfl) l6 ?_
    refine r_cV (d := _) (q134 (i := 83) rfl) rfl rfl rfl (k_47 S2) (Nat.le_of_ble_eq_true rfl) (Nat.zero_le _) (Nat.zero_le _) R1 ?_
    show Wp _ _ _ 145 ls [.long (lw T l i), .int (nI i), .ref (71 + x)] (rJ h (71 + x) (filG (hJ h (71 + x)) (fun w => lw T l w &&& lw T r w) i)) _ _
    refine r_aload_n (q134 (i := 84) rfl) l0 ?_
    refine r_iload (q134 (i := 85) rfl) l4 ?_
    refine r_iload (q134 (i := 86) rfl) l6 ?_
    refine r_cV (d := _) (q134 (i := 87) rfl) rfl rfl rfl (k_47 S2) (Nat.le_of_ble_eq_true rfl) (Nat.zero_le _) (Nat.zero_le _) R2 ?_
    show Wp _ _ _ 153 ls [.long (lw T r i), .long (lw T l i), .int (nI i), .ref (71 + x)] (rJ h (71 + x) (filG (hJ h (71 + x)) (fun w => lw T l w &&& lw T r w) i)) _ _
    refine r_land (q134 (i := 88) rfl) ?_
    refine r_lasN (q134 (i := 89) rfl) (kT S2 hx) (by omega) (by decide) ?_
    refine r_iinc (y := nI (i + 1)) (q134 (i := 90) rfl) (Nat.le_of_ble_eq_true rfl) l6 (nI_1 i) rfl ?_
    have l5 := lk1 (k := 6) (v := .int (nI (i + 1))) l5 (by decide) (Or.inl rfl)
    have l4 := lk1 (k := 6) (v := .int (nI (i + 1))) l4 (by decide) (Or.inr (by decide))
    have l3 := lk1 (k := 6) (v := .int (nI (i + 1))) l3 (by decide) (Or.inr (by decide))
    have l0 := lk1 (k := 6) (v := .int (nI (i + 1))) l0 (by decide) (Or.inr (by decide))
    have l6 := lk0 ls 6 (.int (nI (i + 1)))
    generalize lset1 ls 6 (.int (nI (i + 1))) = ls at l6 l5 l4 l3 l0 ⊢
    refine r_goto 122 (q134 (i := 91) rfl) (by decide) ?_
    rw [sJ_rJ, show (lw T l i &&& lw T r i) = (fun w => lw T l w &&& lw T r w) i from rfl, filG_s]
    exact ih (i + 1) (by omega) ls l6 l5 l4 l3 l0
theorem MG_push {h : hp} {n : Nat} {γ : gs} (G : MG h n γ) (W : gwf n γ) {l r : Nat} {f : Nat → Int64} (hf : ∀ w, w < 64 → f w = (lw (gW γ) l w &&& lw (gW γ) r w)) : MG (rJ (nodM h (gC γ) (nI l) (nI r)) (71 + gC γ) f) n (gpush γ l r) ∧ (gC γ < 1000 → FrGM h (rJ (nodM h (gC γ) (nI l) (nI r)) (71 + gC γ) f)) := by
  obtain ⟨a, b, c, d⟩ := G
  have wn := W.1
  refine ⟨⟨rfl, fun k hk => ?_, fun k h1 h2 => ?_, fun k hk w hw => ?_⟩, fun hx => ⟨rfl, fun k x y z => ?_, fun j x => ?_, fun k x => ?_⟩⟩
  · show u1 (hI h 68) (gC γ) _ k = _ ∧ u1 (hI h 69) (gC γ) _ k = _
    rw [u1_n (by omega), u1_n (by omega)]; exact b k hk
  · show u1 (hI h 68) (gC γ) _ k = nI (u1 (gL γ) (gC γ) l k) ∧ u1 (hI h 69) (gC γ) _ k = nI (u1 (gR γ) (gC γ) r k)
    have h2 : k < gC γ + 1 := h2
    by_cases e : k = gC γ
    · rw [e, u1_s, u1_s, u1_s, u1_s]; exact ⟨rfl, rfl⟩
    · rw [u1_n e, u1_n e, u1_n e, u1_n e]; exact c k h1 (by omega)
  · show u1 h.2.1 (71 + gC γ) f (71 + k) w = u1 (gW γ) (gC γ) _ k w
    have hk : k < gC γ + 1 := hk
    by_cases e : k = gC γ
    · rw [e, u1_s, u1_s]; exact hf w hw
    · rw [u1_n (by omega), u1_n e]; exact d k (by omega) w hw
  · show u2 (u2 (u2 h.1 68 _ _) 69 _ _) 47 _ _ k = _
    rw [u2_n x, u2_n z, u2_n y]
  · show u1 (h.1 47) 11 _ j = _
    rw [u1_n x]
  · show u1 h.2.1 (71 + gC γ) f k = _
    rw [u1_n (by omega)]
set_option maxHeartbeats 2000000 in
set_option maxRecDepth 10000 in
theorem and_67 {d : Nat} {h : hp} (S : Sh h) {n : Nat} {γ : gs} (G : MG h n γ) (hC : gC γ < 1000) (W : gwf n γ) {l r : Nat} (hlr : l < r) (hr : r < 2 * gC γ) : ∃ h', MG h' n (gnew n γ l r).2 ∧ FrGM h h' ∧ ∀ (Q : resP), Q (some (.int (nI (gnew n γ l r).1))) h' → ∀ (bc bs : Nat) (ls : List (Nat × Value)), ls.lookup 5 = some (.int (nI (n + 1))) → ls.lookup 4 = some (.int (nI r)) → ls.lookup 3 = some (.int (nI l)) → ls.lookup 0 = some (.ref 47) → Wp (Ex (d + 1)) 134 Q 67 ls [] h bc bs := by
  have wn := W.1
  unfold gnew
  by_cases q : gfind n (gL γ) (gR γ) l r (gC γ) = 0
  · rw [if_pos q]
    have none_ := gfind_none n (gL γ) (gR γ) l r (gC γ) q
    have P := MG_push (f := filG (hJ (nodM h (gC γ) (nI l) (nI r)) (71 + gC γ)) (fun w => lw (gW γ) l w &&& lw (gW γ) r w) 64) G W (l := l) (r := r) (fun w hw => filG_in hw)
    refine ⟨_, P.1, P.2 hC, fun Q hQ bc bs ls l5 l4 l3 l0 => ?_⟩
    refine lp_mfind (d := d + 1) S G (by omega) W (l := l) (r := r) (by omega) (by omega) (fun k h1 h2 h3 h4 => absurd ⟨h3, h4⟩ (none_ k h1 h2)) (fun _ ls l4 l3 l0 => ?_) (gC γ - (n + 1)) (n + 1) (by omega) (by omega) (fun i a b => by omega) ls l5 l4 l3 l0
    have R1 := sp_newNode (d := d) S G.1 hC (nI l) (nI r)
    have S1 : Sh (nodM h (gC γ) (nI l) (nI r)) := S.to rfl
    have T1 : MT (nodM h (gC γ) (nI l) (nI r)) (gC γ) (gW γ) := G.2.2.2
    have K := lp_mrow (d := d) (bc := bc) (bs := bs) S1 T1 hC (l := l) (r := r) (by omega) hr hQ 64 0 rfl
    rw [filG_0, rJ_self] at K
    refine r_aload_n (q134 (i := 65) rfl) l0 ?_
    refine r_iload_n (q134 (i := 66) rfl) l3 ?_
    refine r_iload (q134 (i := 67) rfl) l4 ?_
    refine r_cV (d := _) (q134 (i := 68) rfl) rfl rfl rfl (k_47 S) (Nat.le_of_ble_eq_true rfl) (Nat.zero_le _) (Nat.zero_le _) R1 ?_
    show Wp _ _ _ 117 ls [.int (nI (gC γ))] (nodM h (gC γ) (nI l) (nI r)) _ _
    refine r_istore (ls' := lset1 ls 5 (.int (nI (gC γ)))) (q134 (i := 69) rfl) (Nat.le_of_ble_eq_true rfl) rfl ?_
    have l4 := lk1 (k := 5) (v := .int (nI (gC γ))) l4 (by decide) (Or.inl rfl)
    have l3 := lk1 (k := 5) (v := .int (nI (gC γ))) l3 (by decide) (Or.inr (by decide))
    have l0 := lk1 (k := 5) (v := .int (nI (gC γ))) l0 (by decide) (Or.inr (by decide))
    have l5 := lk0 ls 5 (.int (nI (gC γ)))
    generalize lset1 ls 5 (.int (nI (gC γ))) = ls at l5 l4 l3 l0 ⊢
    refine r_iconst (v := 0) (q134 (i := 70) rfl) (by decide) ?_
    refine r_istore (ls' := lset1 ls 6 (.int 0)) (q134 (i := 71) rfl) (Nat.le_of_ble_eq_true rfl) rfl ?_
    have l5 := lk1 (k := 6) (v := .int 0) l5 (by decide) (Or.inl rfl)
    have l4 := lk1 (k := 6) (v := .int 0) l4 (by decide) (Or.inr (by decide))
    have l3 := lk1 (k := 6) (v := .int 0) l3 (by decide) (Or.inr (by decide))
    have l0 := lk1 (k := 6) (v := .int 0) l0 (by decide) (Or.inr (by decide))
    have l6 := lk0 ls 6 (.int 0)
    generalize lset1 ls 6 (.int 0) = ls at l6 l5 l4 l3 l0 ⊢
    exact K ls l6 l5 l4 l3 l0
  · rw [if_neg q]
    obtain ⟨f1, f2, f3, f4⟩ := gfind_lt n (gL γ) (gR γ) l r (gC γ) q
    refine ⟨h, G, FrGM.rf h, fun Q hQ bc bs ls l5 l4 l3 l0 => ?_⟩
    refine lp_mfind (d := d + 1) S G (by omega) W (l := l) (r := r) (by omega) (by omega) (fun k h1 h2 h3 h4 => ?_) (fun y => absurd ⟨f3, f4⟩ (y _ f1 f2)) (gC γ - (n + 1)) (n + 1) (by omega) (by omega) (fun i a b => by omega) ls l5 l4 l3 l0
    have e : k = gfind n (gL γ) (gR γ) l r (gC γ) := by
      rcases Nat.lt_trichotomy k (gfind n (gL γ) (gR γ) l r (gC γ)) with y | y | y
      · exact absurd ⟨by rw [h3, f3], by rw [h4, f4]⟩ (W.2.2 _ _ h1 y f2)
      · exact y
      · exact absurd ⟨by rw [h3, f3], by rw [h4, f4]⟩ (W.2.2 _ _ f1 y h2)
    rw [e]
    exact hQ
theorem xor_is1 {a b : Nat} (ha : a < 4096) (hb : b < 4096) : nI (a ^^^ b) = 1 ↔ a = b ^^^ 1 := by
  have hx : a ^^^ b < 2 ^ 12 := Nat.xor_lt_two_pow ha hb
  constructor
  · intro y
    have y : a ^^^ b = 1 := (nI_eq (by omega) (by decide)).mp (show nI (a ^^^ b) = nI 1 from y)
    rw [← y, ← Nat.xor_assoc, Nat.xor_comm b a, Nat.xor_assoc, Nat.xor_self, Nat.xor_zero]
  · intro y
    rw [y, Nat.xor_comm b 1, Nat.xor_assoc, Nat.xor_self, Nat.xor_zero]
    rfl
set_option maxHeartbeats 2000000 in
set_option maxRecDepth 10000 in
theorem sp_mand {d : Nat} {h : hp} (S : Sh h) {n : Nat} {γ : gs} (e1 : hI h 47 1 = nI n) (G : MG h n γ) (hC : gC γ < 1000) (W : gwf n γ) {p q : Nat} (hp : p < 2 * gC γ) (hq : q < 2 * gC γ) {r : Nat × gs} (er : r = gand n γ p q) : ∃ h', Run (d + 1 + 1) 134 [.ref 47, .int (nI p), .int (nI q)] h 0 0 (some (.int (nI r.1))) h' ∧ MG h' n r.2 ∧ FrGM h h' ∧ gok n γ 1 r := by
  have ok : gok n γ 1 r := by rw [er]; exact gok_and W hp hq
  have wn := W.1
  unfold gand at er
  by_cases a1 : p = 0 ∨ q = 0 ∨ p = q ^^^ 1
  · rw [if_pos a1] at er
    refine ⟨h, ?_, by rw [er]; exact G, FrGM.rf h, ok⟩
    rw [er]
    have z : ¬ nI p = 0 → ¬ nI q = 0 → nI (p ^^^ q) = 1 := fun y1 y2 => by
      rcases a1 with y | y | y
      · exact absurd (by rw [y]; rfl) y1
      · exact absurd (by rw [y]; rfl) y2
      · exact (xor_is1 (by omega) (by omega)).mpr y
    refine Run.of (d := d + 1) (Nat.le_of_ble_eq_true rfl) (fun Q hQ => ?_)
    show Wp (Ex (d + 1)) 134 Q 0 [(0, .ref 47), (1, .int (nI p)), (2, .int (nI q))] [] h 0 0
    refine r_iload_n (q134 (i := 0) rfl) rfl ?_
    refine r_if 15 (q134 (i := 1) rfl) (by decide) (fun c1 => ?_) (fun c1 => ?_)
    · have c1 : nI p = 0 := c1
      refine r_iconst (v := 0) (q134 (i := 9) rfl) (by decide) ?_
      exact r_iret (q134 (i := 10) rfl) rfl hQ
    · have c1 : ¬ (nI p = 0) := c1
      refine r_iload_n (q134 (i := 2) rfl) rfl ?_
      refine r_if 15 (q134 (i := 3) rfl) (by decide) (fun c5 => ?_) (fun c5 => ?_)
      · have c5 : nI q = 0 := c5
        refine r_iconst (v := 0) (q134 (i := 9) rfl) (by decide) ?_
        exact r_iret (q134 (i := 10) rfl) rfl hQ
      · have c5 : ¬ (nI q = 0) := c5
        refine r_iload_n (q134 (i := 4) rfl) rfl ?_
        refine r_iload_n (q134 (i := 5) rfl) rfl ?_
        refine r_ixor (q134 (i := 6) rfl) ?_
        rw [show ((nI p) ^^^ (nI q) : Int32) = nI (p ^^^ q) from xorN p q]
        refine r_iconst (v := 1) (q134 (i := 7) rfl) (by decide) ?_
        refine r_icmp 17 (q134 (i := 8) rfl) (by decide) (fun zz => absurd zz (show ¬ (¬ nI (p ^^^ q) = 1) from fun y => y (z c1 c5))) (fun _ => ?_)
        refine r_iconst (v := 0) (q134 (i := 9) rfl) (by decide) ?_
        exact r_iret (q134 (i := 10) rfl) rfl hQ
  · rw [if_neg a1] at er
    have b1 : ¬ nI p = 0 := nI_ne0 (by have : p ≠ 0 := fun y => a1 (Or.inl y); omega) (by omega)
    have b2 : ¬ nI q = 0 := nI_ne0 (by have : q ≠ 0 := fun y => a1 (Or.inr (Or.inl y)); omega) (by omega)
    have b3 : ¬ nI (p ^^^ q) = 1 := fun y => a1 (Or.inr (Or.inr ((xor_is1 (by omega) (by omega)).mp y)))
    by_cases a2 : q = p ∨ q = 1
    · rw [if_pos a2] at er
      refine ⟨h, ?_, by rw [er]; exact G, FrGM.rf h, ok⟩
      rw [er]
      have z : ¬ nI q = nI p → nI q = 1 := fun y1 => by
        rcases a2 with y | y
        · exact absurd (by rw [y]) y1
        · rw [y]; rfl
      refine Run.of (d := d + 1) (Nat.le_of_ble_eq_true rfl) (fun Q hQ => ?_)
      show Wp (Ex (d + 1)) 134 Q 0 [(0, .ref 47), (1, .int (nI p)), (2, .int (nI q))] [] h 0 0
      refine r_iload_n (q134 (i := 0) rfl) rfl ?_
      refine r_if 15 (q134 (i := 1) rfl) (by decide) (fun zz => absurd zz (show ¬ (nI p = 0) from b1)) (fun _ => ?_)
      refine r_iload_n (q134 (i := 2) rfl) rfl ?_
      refine r_if 15 (q134 (i := 3) rfl) (by decide) (fun zz => absurd zz (show ¬ (nI q = 0) from b2)) (fun _ => ?_)
      refine r_iload_n (q134 (i := 4) rfl) rfl ?_
      refine r_iload_n (q134 (i := 5) rfl) rfl ?_
      refine r_ixor (q134 (i := 6) rfl) ?_
      rw [show ((nI p) ^^^ (nI q) : Int32) = nI (p ^^^ q) from xorN p q]
      refine r_iconst (v := 1) (q134 (i := 7) rfl) (by decide) ?_
      refine r_icmp 17 (q134 (i := 8) rfl) (by decide) (fun _ => ?_) (fun zz => absurd (show ¬ nI (p ^^^ q) = 1 from b3) zz)
      refine r_iload_n (q134 (i := 11) rfl) rfl ?_
      refine r_iload_n (q134 (i := 12) rfl) rfl ?_
      refine r_icmp 27 (q134 (i := 13) rfl) (by decide) (fun c19 => ?_) (fun c19 => ?_)
      · have c19 : nI q = nI p := c19
        refine r_iload_n (q134 (i := 17) rfl) rfl ?_
        exact r_iret (q134 (i := 18) rfl) rfl hQ
      · have c19 : ¬ (nI q = nI p) := c19
        refine r_iload_n (q134 (i := 14) rfl) rfl ?_
        refine r_iconst (v := 1) (q134 (i := 15) rfl) (by decide) ?_
        refine r_icmp 29 (q134 (i := 16) rfl) (by decide) (fun zz => absurd zz (show ¬ (¬ nI q = 1) from fun y => y (z c19))) (fun _ => ?_)
        refine r_iload_n (q134 (i := 17) rfl) rfl ?_
        exact r_iret (q134 (i := 18) rfl) rfl hQ
    · rw [if_neg a2] at er
      have b4 : ¬ nI q = nI p := neN (by omega) (by omega) (fun y => a2 (Or.inl y))
      have b5 : ¬ nI q = 1 := neN (b := 1) (by omega) (by decide) (fun y => a2 (Or.inr y))
      by_cases a3 : p = 1
      · rw [if_pos a3] at er
        refine ⟨h, ?_, by rw [er]; exact G, FrGM.rf h, ok⟩
        rw [er]
        refine Run.of (d := d + 1) (Nat.le_of_ble_eq_true rfl) (fun Q hQ => ?_)
        show Wp (Ex (d + 1)) 134 Q 0 [(0, .ref 47), (1, .int (nI p)), (2, .int (nI q))] [] h 0 0
        refine r_iload_n (q134 (i := 0) rfl) rfl ?_
        refine r_if 15 (q134 (i := 1) rfl) (by decide) (fun zz => absurd zz (show ¬ (nI p = 0) from b1)) (fun _ => ?_)
        refine r_iload_n (q134 (i := 2) rfl) rfl ?_
        refine r_if 15 (q134 (i := 3) rfl) (by decide) (fun zz => absurd zz (show ¬ (nI q = 0) from b2)) (fun _ => ?_)
        refine r_iload_n (q134 (i := 4) rfl) rfl ?_
        refine r_iload_n (q134 (i := 5) rfl) rfl ?_
        refine r_ixor (q134 (i := 6) rfl) ?_
        rw [show ((nI p) ^^^ (nI q) : Int32) = nI (p ^^^ q) from xorN p q]
        refine r_iconst (v := 1) (q134 (i := 7) rfl) (by decide) ?_
        refine r_icmp 17 (q134 (i := 8) rfl) (by decide) (fun _ => ?_) (fun zz => absurd (show ¬ nI (p ^^^ q) = 1 from b3) zz)
        refine r_iload_n (q134 (i := 11) rfl) rfl ?_
        refine r_iload_n (q134 (i := 12) rfl) rfl ?_
        refine r_icmp 27 (q134 (i := 13) rfl) (by decide) (fun zz => absurd zz (show ¬ (nI q = nI p) from b4)) (fun _ => ?_)
        refine r_iload_n (q134 (i := 14) rfl) rfl ?_
        refine r_iconst (v := 1) (q134 (i := 15) rfl) (by decide) ?_
        refine r_icmp 29 (q134 (i := 16) rfl) (by decide) (fun _ => ?_) (fun zz => absurd (show ¬ nI q = 1 from b5) zz)
        refine r_iload_n (q134 (i := 19) rfl) rfl ?_
        refine r_iconst (v := 1) (q134 (i := 20) rfl) (by decide) ?_
        refine r_icmp 36 (q134 (i := 21) rfl) (by decide) (fun zz => absurd zz (show ¬ (¬ nI p = 1) from fun y => y (by rw [a3]; rfl))) (fun _ => ?_)
        refine r_iload_n (q134 (i := 22) rfl) rfl ?_
        exact r_iret (q134 (i := 23) rfl) rfl hQ
      · rw [if_neg a3] at er
        have b6 : ¬ nI p = 1 := neN (b := 1) (by omega) (by decide) a3
        by_cases a4 : p < q
        · rw [if_pos a4] at er
          obtain ⟨h', G', F', K⟩ := and_67 (d := d) S G hC W a4 hq
          refine ⟨h', ?_, by rw [er]; exact G', F', ok⟩
          rw [er]
          refine Run.of (d := d + 1) (Nat.le_of_ble_eq_true rfl) (fun Q hQ => ?_)
          show Wp (Ex (d + 1)) 134 Q 0 [(0, .ref 47), (1, .int (nI p)), (2, .int (nI q))] [] h 0 0
          refine r_iload_n (q134 (i := 0) rfl) rfl ?_
          refine r_if 15 (q134 (i := 1) rfl) (by decide) (fun zz => absurd zz (show ¬ (nI p = 0) from b1)) (fun _ => ?_)
          refine r_iload_n (q134 (i := 2) rfl) rfl ?_
          refine r_if 15 (q134 (i := 3) rfl) (by decide) (fun zz => absurd zz (show ¬ (nI q = 0) from b2)) (fun _ => ?_)
          refine r_iload_n (q134 (i := 4) rfl) rfl ?_
          refine r_iload_n (q134 (i := 5) rfl) rfl ?_
          refine r_ixor (q134 (i := 6) rfl) ?_
          rw [show ((nI p) ^^^ (nI q) : Int32) = nI (p ^^^ q) from xorN p q]
          refine r_iconst (v := 1) (q134 (i := 7) rfl) (by decide) ?_
          refine r_icmp 17 (q134 (i := 8) rfl) (by decide) (fun _ => ?_) (fun zz => absurd (show ¬ nI (p ^^^ q) = 1 from b3) zz)
          refine r_iload_n (q134 (i := 11) rfl) rfl ?_
          refine r_iload_n (q134 (i := 12) rfl) rfl ?_
          refine r_icmp 27 (q134 (i := 13) rfl) (by decide) (fun zz => absurd zz (show ¬ (nI q = nI p) from b4)) (fun _ => ?_)
          refine r_iload_n (q134 (i := 14) rfl) rfl ?_
          refine r_iconst (v := 1) (q134 (i := 15) rfl) (by decide) ?_
          refine r_icmp 29 (q134 (i := 16) rfl) (by decide) (fun _ => ?_) (fun zz => absurd (show ¬ nI q = 1 from b5) zz)
          refine r_iload_n (q134 (i := 19) rfl) rfl ?_
          refine r_iconst (v := 1) (q134 (i := 20) rfl) (by decide) ?_
          refine r_icmp 36 (q134 (i := 21) rfl) (by decide) (fun _ => ?_) (fun zz => absurd (show ¬ nI p = 1 from b6) zz)
          refine r_iload_n (q134 (i := 24) rfl) rfl ?_
          refine r_iload_n (q134 (i := 25) rfl) rfl ?_
          refine r_icmp 45 (q134 (i := 26) rfl) (by decide) (fun zz => absurd zz (show ¬ (nI q ≤ nI p) from nI_ge a4 (by omega))) (fun _ => ?_)
          refine r_iload_n (q134 (i := 27) rfl) rfl ?_
          refine r_goto 46 (q134 (i := 28) rfl) (by decide) ?_
          refine r_istore_n (ls' := [(3, .int (nI p)), (0, .ref 47), (1, .int (nI p)), (2, .int (nI q))]) (q134 (i := 30) rfl) (Nat.le_of_ble_eq_true rfl) rfl ?_
          refine r_iload_n (q134 (i := 31) rfl) rfl ?_
          refine r_iload_n (q134 (i := 32) rfl) rfl ?_
          refine r_icmp 56 (q134 (i := 33) rfl) (by decide) (fun zz => absurd zz (show ¬ (nI q ≤ nI p) from nI_ge a4 (by omega))) (fun _ => ?_)
          refine r_iload_n (q134 (i := 34) rfl) rfl ?_
          refine r_goto 57 (q134 (i := 35) rfl) (by decide) ?_
          refine r_istore (ls' := [(4, .int (nI q)), (3, .int (nI p)), (0, .ref 47), (1, .int (nI p)), (2, .int (nI q))]) (q134 (i := 37) rfl) (Nat.le_of_ble_eq_true rfl) rfl ?_
          refine r_aload_n (q134 (i := 38) rfl) rfl ?_
          refine r_getI (x := nI n) (q134 (i := 39) rfl) rfl (by decide) (k_47 S) (fun _ _ _ => rfl) e1 ?_
          refine r_iconst (v := 1) (q134 (i := 40) rfl) (by decide) ?_
          refine r_iadd (q134 (i := 41) rfl) ?_
          rw [show ((nI n) + 1 : Int32) = nI (n + 1) from nI_1 n]
          refine r_istore (ls' := [(5, .int (nI (n + 1))), (4, .int (nI q)), (3, .int (nI p)), (0, .ref 47), (1, .int (nI p)), (2, .int (nI q))]) (q134 (i := 42) rfl) (Nat.le_of_ble_eq_true rfl) rfl ?_
          exact K Q hQ _ _ _ rfl rfl rfl rfl
        · rw [if_neg a4] at er
          have a5 : q < p := by have : q ≠ p := fun y => a2 (Or.inl y); omega
          obtain ⟨h', G', F', K⟩ := and_67 (d := d) S G hC W a5 hp
          refine ⟨h', ?_, by rw [er]; exact G', F', ok⟩
          rw [er]
          refine Run.of (d := d + 1) (Nat.le_of_ble_eq_true rfl) (fun Q hQ => ?_)
          show Wp (Ex (d + 1)) 134 Q 0 [(0, .ref 47), (1, .int (nI p)), (2, .int (nI q))] [] h 0 0
          refine r_iload_n (q134 (i := 0) rfl) rfl ?_
          refine r_if 15 (q134 (i := 1) rfl) (by decide) (fun zz => absurd zz (show ¬ (nI p = 0) from b1)) (fun _ => ?_)
          refine r_iload_n (q134 (i := 2) rfl) rfl ?_
          refine r_if 15 (q134 (i := 3) rfl) (by decide) (fun zz => absurd zz (show ¬ (nI q = 0) from b2)) (fun _ => ?_)
          refine r_iload_n (q134 (i := 4) rfl) rfl ?_
          refine r_iload_n (q134 (i := 5) rfl) rfl ?_
          refine r_ixor (q134 (i := 6) rfl) ?_
          rw [show ((nI p) ^^^ (nI q) : Int32) = nI (p ^^^ q) from xorN p q]
          refine r_iconst (v := 1) (q134 (i := 7) rfl) (by decide) ?_
          refine r_icmp 17 (q134 (i := 8) rfl) (by decide) (fun _ => ?_) (fun zz => absurd (show ¬ nI (p ^^^ q) = 1 from b3) zz)
          refine r_iload_n (q134 (i := 11) rfl) rfl ?_
          refine r_iload_n (q134 (i := 12) rfl) rfl ?_
          refine r_icmp 27 (q134 (i := 13) rfl) (by decide) (fun zz => absurd zz (show ¬ (nI q = nI p) from b4)) (fun _ => ?_)
          refine r_iload_n (q134 (i := 14) rfl) rfl ?_
          refine r_iconst (v := 1) (q134 (i := 15) rfl) (by decide) ?_
          refine r_icmp 29 (q134 (i := 16) rfl) (by decide) (fun _ => ?_) (fun zz => absurd (show ¬ nI q = 1 from b5) zz)
          refine r_iload_n (q134 (i := 19) rfl) rfl ?_
          refine r_iconst (v := 1) (q134 (i := 20) rfl) (by decide) ?_
          refine r_icmp 36 (q134 (i := 21) rfl) (by decide) (fun _ => ?_) (fun zz => absurd (show ¬ nI p = 1 from b6) zz)
          refine r_iload_n (q134 (i := 24) rfl) rfl ?_
          refine r_iload_n (q134 (i := 25) rfl) rfl ?_
          refine r_icmp 45 (q134 (i := 26) rfl) (by decide) (fun _ => ?_) (fun zz => absurd (show nI q ≤ nI p from nI_le (by omega) (by omega)) zz)
          refine r_iload_n (q134 (i := 29) rfl) rfl ?_
          refine r_istore_n (ls' := [(3, .int (nI q)), (0, .ref 47), (1, .int (nI p)), (2, .int (nI q))]) (q134 (i := 30) rfl) (Nat.le_of_ble_eq_true rfl) rfl ?_
          refine r_iload_n (q134 (i := 31) rfl) rfl ?_
          refine r_iload_n (q134 (i := 32) rfl) rfl ?_
          refine r_icmp 56 (q134 (i := 33) rfl) (by decide) (fun _ => ?_) (fun zz => absurd (show nI q ≤ nI p from nI_le (by omega) (by omega)) zz)
          refine r_iload_n (q134 (i := 36) rfl) rfl ?_
          refine r_istore (ls' := [(4, .int (nI p)), (3, .int (nI q)), (0, .ref 47), (1, .int (nI p)), (2, .int (nI q))]) (q134 (i := 37) rfl) (Nat.le_of_ble_eq_true rfl) rfl ?_
          refine r_aload_n (q134 (i := 38) rfl) rfl ?_
          refine r_getI (x := nI n) (q134 (i := 39) rfl) rfl (by decide) (k_47 S) (fun _ _ _ => rfl) e1 ?_
          refine r_iconst (v := 1) (q134 (i := 40) rfl) (by decide) ?_
          refine r_iadd (q134 (i := 41) rfl) ?_
          rw [show ((nI n) + 1 : Int32) = nI (n + 1) from nI_1 n]
          refine r_istore (ls' := [(5, .int (nI (n + 1))), (4, .int (nI p)), (3, .int (nI q)), (0, .ref 47), (1, .int (nI p)), (2, .int (nI q))]) (q134 (i := 42) rfl) (Nat.le_of_ble_eq_true rfl) rfl ?_
          exact K Q hQ _ _ _ rfl rfl rfl rfl
set_option maxHeartbeats 2000000 in
set_option maxRecDepth 10000 in
theorem sp_side0 {d : Nat} {h : hp} (S : Sh h) {n g : Nat} {lit : Nat → Nat} (e1 : hI h 47 1 = nI n) (hl : ∀ i, i < g → hI h 66 i = nI (lit i)) (hn : n ≤ 12) (hg : g ≤ 120) {s : Int32} (hs : pl s < nI (n + g)) : Run (d + 1) 135 [.ref 47, .int 0, .int s] h 0 0 (some (.int (nI (sd n lit s)))) h := by
  obtain ⟨v, hv, ev⟩ := pl_nat s (by omega) hs
  unfold sd
  rw [ev, nI_clamp (by omega)]
  by_cases s0 : s < 0
  · rw [if_pos s0]
    have ev : s ^^^ (-1) = nI v := by rw [← ev]; exact (if_pos s0).symm
    refine Run.of (d := d) (Nat.le_of_ble_eq_true rfl) (fun Q hQ => ?_)
    show Wp (Ex d) 135 Q 0 [(0, .ref 47), (1, .int 0), (2, .int s)] [] h 0 0
    refine r_iload_n (q135 (i := 0) rfl) rfl ?_
    refine r_if 10 (q135 (i := 1) rfl) (by decide) (fun zz => absurd zz (show ¬ (0 ≤ s) from fun y => nlt0 y s0)) (fun _ => ?_)
    refine r_iload_n (q135 (i := 2) rfl) rfl ?_
    refine r_iconst (v := (-1)) (q135 (i := 3) rfl) (by decide) ?_
    refine r_ixor (q135 (i := 4) rfl) ?_
    rw [show (s ^^^ (-1) : Int32) = nI v from ev]
    refine r_goto 11 (q135 (i := 5) rfl) (by decide) ?_
    refine r_istore_n (ls' := [(3, .int (nI v)), (0, .ref 47), (1, .int 0), (2, .int s)]) (q135 (i := 7) rfl) (Nat.le_of_ble_eq_true rfl) rfl ?_
    refine r_iload_n (q135 (i := 8) rfl) rfl ?_
    refine r_aload_n (q135 (i := 9) rfl) rfl ?_
    refine r_getI (x := nI n) (q135 (i := 10) rfl) rfl (by decide) (k_47 S) (fun _ _ _ => rfl) e1 ?_
    refine r_icmp 28 (q135 (i := 11) rfl) (by decide) (fun c17 => ?_) (fun c17 => ?_)
    · have c17 : nI n ≤ nI v := c17
      have hv2 : n ≤ v := (nI_leI (by omega) (by omega)).mp c17
      have es : sl n lit v = lit (v - n) := if_neg (by omega)
      rw [es] at hQ
      refine r_aload_n (q135 (i := 18) rfl) rfl ?_
      refine r_getR (b := 65) (q135 (i := 19) rfl) rfl (by decide) (k_47 S) (fun _ _ _ => rfl) (r_47_9 S) ?_
      refine r_iload_n (q135 (i := 20) rfl) rfl ?_
      refine r_aaload5 (q135 (i := 21) rfl) (k_65 S) (vp_in_nI (n := 0) (by decide) (by decide)) (r_65_0 S) ?_
      refine r_iload_n (q135 (i := 22) rfl) rfl ?_
      refine r_aload_n (q135 (i := 23) rfl) rfl ?_
      refine r_getI (x := nI n) (q135 (i := 24) rfl) rfl (by decide) (k_47 S) (fun _ _ _ => rfl) e1 ?_
      refine r_isub (q135 (i := 25) rfl) ?_
      rw [show ((nI v) - (nI n) : Int32) = nI (v - n) from nI_subN (by omega)]
      refine r_iaN (x := nI (lit (v - n))) (q135 (i := 26) rfl) (k_66 S) (by omega) (by decide) (hl _ (by omega)) ?_
      refine r_istore (ls' := [(4, .int (nI (lit (v - n)))), (3, .int (nI v)), (0, .ref 47), (1, .int 0), (2, .int s)]) (q135 (i := 27) rfl) (Nat.le_of_ble_eq_true rfl) rfl ?_
      refine r_iload_n (q135 (i := 28) rfl) rfl ?_
      refine r_if 54 (q135 (i := 29) rfl) (by decide) (fun zz => absurd zz (show ¬ (0 ≤ s) from fun y => nlt0 y s0)) (fun _ => ?_)
      refine r_iload (q135 (i := 30) rfl) rfl ?_
      refine r_iconst (v := 1) (q135 (i := 31) rfl) (by decide) ?_
      refine r_ixor (q135 (i := 32) rfl) ?_
      rw [show ((nI (lit (v - n))) ^^^ 1 : Int32) = nI ((lit (v - n)) ^^^ 1) from xor1 _]
      refine r_goto 56 (q135 (i := 33) rfl) (by decide) ?_
      exact r_iret (q135 (i := 35) rfl) rfl hQ
    · have c17 : ¬ (nI n ≤ nI v) := c17
      have hv2 : v < n := by rcases Nat.lt_or_ge v n with y | y; exact y; exact absurd (nI_le y (by omega)) c17
      have es : sl n lit v = 2 * (v + 1) := if_pos hv2
      rw [es] at hQ
      refine r_iconst (v := 2) (q135 (i := 12) rfl) (by decide) ?_
      refine r_iload_n (q135 (i := 13) rfl) rfl ?_
      refine r_iconst (v := 1) (q135 (i := 14) rfl) (by decide) ?_
      refine r_iadd (q135 (i := 15) rfl) ?_
      rw [show ((nI v) + 1 : Int32) = nI (v + 1) from nI_1 v]
      refine r_imul (q135 (i := 16) rfl) ?_
      rw [show (2 * (nI (v + 1)) : Int32) = nI (2 * (v + 1)) from nI_mul 2 (v + 1)]
      refine r_goto 41 (q135 (i := 17) rfl) (by decide) ?_
      refine r_istore (ls' := [(4, .int (nI (2 * (v + 1)))), (3, .int (nI v)), (0, .ref 47), (1, .int 0), (2, .int s)]) (q135 (i := 27) rfl) (Nat.le_of_ble_eq_true rfl) rfl ?_
      refine r_iload_n (q135 (i := 28) rfl) rfl ?_
      refine r_if 54 (q135 (i := 29) rfl) (by decide) (fun zz => absurd zz (show ¬ (0 ≤ s) from fun y => nlt0 y s0)) (fun _ => ?_)
      refine r_iload (q135 (i := 30) rfl) rfl ?_
      refine r_iconst (v := 1) (q135 (i := 31) rfl) (by decide) ?_
      refine r_ixor (q135 (i := 32) rfl) ?_
      rw [show ((nI (2 * (v + 1))) ^^^ 1 : Int32) = nI ((2 * (v + 1)) ^^^ 1) from xor1 _]
      refine r_goto 56 (q135 (i := 33) rfl) (by decide) ?_
      exact r_iret (q135 (i := 35) rfl) rfl hQ
  · rw [if_neg s0]
    have ev : s = nI v := by rw [← ev]; exact (pl_pos (Int32.not_lt.mp s0)).symm
    subst ev
    refine Run.of (d := d) (Nat.le_of_ble_eq_true rfl) (fun Q hQ => ?_)
    show Wp (Ex d) 135 Q 0 [(0, .ref 47), (1, .int 0), (2, .int (nI v))] [] h 0 0
    refine r_iload_n (q135 (i := 0) rfl) rfl ?_
    refine r_if 10 (q135 (i := 1) rfl) (by decide) (fun _ => ?_) (fun zz => absurd (show 0 ≤ nI v from nI_pos' (by omega)) zz)
    refine r_iload_n (q135 (i := 6) rfl) rfl ?_
    refine r_istore_n (ls' := [(3, .int (nI v)), (0, .ref 47), (1, .int 0), (2, .int (nI v))]) (q135 (i := 7) rfl) (Nat.le_of_ble_eq_true rfl) rfl ?_
    refine r_iload_n (q135 (i := 8) rfl) rfl ?_
    refine r_aload_n (q135 (i := 9) rfl) rfl ?_
    refine r_getI (x := nI n) (q135 (i := 10) rfl) rfl (by decide) (k_47 S) (fun _ _ _ => rfl) e1 ?_
    refine r_icmp 28 (q135 (i := 11) rfl) (by decide) (fun c17 => ?_) (fun c17 => ?_)
    · have c17 : nI n ≤ nI v := c17
      have hv2 : n ≤ v := (nI_leI (by omega) (by omega)).mp c17
      have es : sl n lit v = lit (v - n) := if_neg (by omega)
      rw [es] at hQ
      refine r_aload_n (q135 (i := 18) rfl) rfl ?_
      refine r_getR (b := 65) (q135 (i := 19) rfl) rfl (by decide) (k_47 S) (fun _ _ _ => rfl) (r_47_9 S) ?_
      refine r_iload_n (q135 (i := 20) rfl) rfl ?_
      refine r_aaload5 (q135 (i := 21) rfl) (k_65 S) (vp_in_nI (n := 0) (by decide) (by decide)) (r_65_0 S) ?_
      refine r_iload_n (q135 (i := 22) rfl) rfl ?_
      refine r_aload_n (q135 (i := 23) rfl) rfl ?_
      refine r_getI (x := nI n) (q135 (i := 24) rfl) rfl (by decide) (k_47 S) (fun _ _ _ => rfl) e1 ?_
      refine r_isub (q135 (i := 25) rfl) ?_
      rw [show ((nI v) - (nI n) : Int32) = nI (v - n) from nI_subN (by omega)]
      refine r_iaN (x := nI (lit (v - n))) (q135 (i := 26) rfl) (k_66 S) (by omega) (by decide) (hl _ (by omega)) ?_
      refine r_istore (ls' := [(4, .int (nI (lit (v - n)))), (3, .int (nI v)), (0, .ref 47), (1, .int 0), (2, .int (nI v))]) (q135 (i := 27) rfl) (Nat.le_of_ble_eq_true rfl) rfl ?_
      refine r_iload_n (q135 (i := 28) rfl) rfl ?_
      refine r_if 54 (q135 (i := 29) rfl) (by decide) (fun _ => ?_) (fun zz => absurd (show 0 ≤ nI v from nI_pos' (by omega)) zz)
      refine r_iload (q135 (i := 34) rfl) rfl ?_
      exact r_iret (q135 (i := 35) rfl) rfl hQ
    · have c17 : ¬ (nI n ≤ nI v) := c17
      have hv2 : v < n := by rcases Nat.lt_or_ge v n with y | y; exact y; exact absurd (nI_le y (by omega)) c17
      have es : sl n lit v = 2 * (v + 1) := if_pos hv2
      rw [es] at hQ
      refine r_iconst (v := 2) (q135 (i := 12) rfl) (by decide) ?_
      refine r_iload_n (q135 (i := 13) rfl) rfl ?_
      refine r_iconst (v := 1) (q135 (i := 14) rfl) (by decide) ?_
      refine r_iadd (q135 (i := 15) rfl) ?_
      rw [show ((nI v) + 1 : Int32) = nI (v + 1) from nI_1 v]
      refine r_imul (q135 (i := 16) rfl) ?_
      rw [show (2 * (nI (v + 1)) : Int32) = nI (2 * (v + 1)) from nI_mul 2 (v + 1)]
      refine r_goto 41 (q135 (i := 17) rfl) (by decide) ?_
      refine r_istore (ls' := [(4, .int (nI (2 * (v + 1)))), (3, .int (nI v)), (0, .ref 47), (1, .int 0), (2, .int (nI v))]) (q135 (i := 27) rfl) (Nat.le_of_ble_eq_true rfl) rfl ?_
      refine r_iload_n (q135 (i := 28) rfl) rfl ?_
      refine r_if 54 (q135 (i := 29) rfl) (by decide) (fun _ => ?_) (fun zz => absurd (show 0 ≤ nI v from nI_pos' (by omega)) zz)
      refine r_iload (q135 (i := 34) rfl) rfl ?_
      exact r_iret (q135 (i := 35) rfl) rfl hQ
set_option maxHeartbeats 2000000 in
set_option maxRecDepth 10000 in
theorem sp_side1 {d : Nat} {h : hp} (S : Sh h) {n g : Nat} {lit : Nat → Nat} (e1 : hI h 47 1 = nI n) (hl : ∀ i, i < g → hI h 67 i = nI (lit i)) (hn : n ≤ 12) (hg : g ≤ 120) {s : Int32} (hs : pl s < nI (n + g)) : Run (d + 1) 135 [.ref 47, .int 1, .int s] h 0 0 (some (.int (nI (sd n lit s)))) h := by
  obtain ⟨v, hv, ev⟩ := pl_nat s (by omega) hs
  unfold sd
  rw [ev, nI_clamp (by omega)]
  by_cases s0 : s < 0
  · rw [if_pos s0]
    have ev : s ^^^ (-1) = nI v := by rw [← ev]; exact (if_pos s0).symm
    refine Run.of (d := d) (Nat.le_of_ble_eq_true rfl) (fun Q hQ => ?_)
    show Wp (Ex d) 135 Q 0 [(0, .ref 47), (1, .int 1), (2, .int s)] [] h 0 0
    refine r_iload_n (q135 (i := 0) rfl) rfl ?_
    refine r_if 10 (q135 (i := 1) rfl) (by decide) (fun zz => absurd zz (show ¬ (0 ≤ s) from fun y => nlt0 y s0)) (fun _ => ?_)
    refine r_iload_n (q135 (i := 2) rfl) rfl ?_
    refine r_iconst (v := (-1)) (q135 (i := 3) rfl) (by decide) ?_
    refine r_ixor (q135 (i := 4) rfl) ?_
    rw [show (s ^^^ (-1) : Int32) = nI v from ev]
    refine r_goto 11 (q135 (i := 5) rfl) (by decide) ?_
    refine r_istore_n (ls' := [(3, .int (nI v)), (0, .ref 47), (1, .int 1), (2, .int s)]) (q135 (i := 7) rfl) (Nat.le_of_ble_eq_true rfl) rfl ?_
    refine r_iload_n (q135 (i := 8) rfl) rfl ?_
    refine r_aload_n (q135 (i := 9) rfl) rfl ?_
    refine r_getI (x := nI n) (q135 (i := 10) rfl) rfl (by decide) (k_47 S) (fun _ _ _ => rfl) e1 ?_
    refine r_icmp 28 (q135 (i := 11) rfl) (by decide) (fun c17 => ?_) (fun c17 => ?_)
    · have c17 : nI n ≤ nI v := c17
      have hv2 : n ≤ v := (nI_leI (by omega) (by omega)).mp c17
      have es : sl n lit v = lit (v - n) := if_neg (by omega)
      rw [es] at hQ
      refine r_aload_n (q135 (i := 18) rfl) rfl ?_
      refine r_getR (b := 65) (q135 (i := 19) rfl) rfl (by decide) (k_47 S) (fun _ _ _ => rfl) (r_47_9 S) ?_
      refine r_iload_n (q135 (i := 20) rfl) rfl ?_
      refine r_aaload5 (q135 (i := 21) rfl) (k_65 S) (vp_in_nI (n := 1) (by decide) (by decide)) (r_65_1 S) ?_
      refine r_iload_n (q135 (i := 22) rfl) rfl ?_
      refine r_aload_n (q135 (i := 23) rfl) rfl ?_
      refine r_getI (x := nI n) (q135 (i := 24) rfl) rfl (by decide) (k_47 S) (fun _ _ _ => rfl) e1 ?_
      refine r_isub (q135 (i := 25) rfl) ?_
      rw [show ((nI v) - (nI n) : Int32) = nI (v - n) from nI_subN (by omega)]
      refine r_iaN (x := nI (lit (v - n))) (q135 (i := 26) rfl) (k_67 S) (by omega) (by decide) (hl _ (by omega)) ?_
      refine r_istore (ls' := [(4, .int (nI (lit (v - n)))), (3, .int (nI v)), (0, .ref 47), (1, .int 1), (2, .int s)]) (q135 (i := 27) rfl) (Nat.le_of_ble_eq_true rfl) rfl ?_
      refine r_iload_n (q135 (i := 28) rfl) rfl ?_
      refine r_if 54 (q135 (i := 29) rfl) (by decide) (fun zz => absurd zz (show ¬ (0 ≤ s) from fun y => nlt0 y s0)) (fun _ => ?_)
      refine r_iload (q135 (i := 30) rfl) rfl ?_
      refine r_iconst (v := 1) (q135 (i := 31) rfl) (by decide) ?_
      refine r_ixor (q135 (i := 32) rfl) ?_
      rw [show ((nI (lit (v - n))) ^^^ 1 : Int32) = nI ((lit (v - n)) ^^^ 1) from xor1 _]
      refine r_goto 56 (q135 (i := 33) rfl) (by decide) ?_
      exact r_iret (q135 (i := 35) rfl) rfl hQ
    · have c17 : ¬ (nI n ≤ nI v) := c17
      have hv2 : v < n := by rcases Nat.lt_or_ge v n with y | y; exact y; exact absurd (nI_le y (by omega)) c17
      have es : sl n lit v = 2 * (v + 1) := if_pos hv2
      rw [es] at hQ
      refine r_iconst (v := 2) (q135 (i := 12) rfl) (by decide) ?_
      refine r_iload_n (q135 (i := 13) rfl) rfl ?_
      refine r_iconst (v := 1) (q135 (i := 14) rfl) (by decide) ?_
      refine r_iadd (q135 (i := 15) rfl) ?_
      rw [show ((nI v) + 1 : Int32) = nI (v + 1) from nI_1 v]
      refine r_imul (q135 (i := 16) rfl) ?_
      rw [show (2 * (nI (v + 1)) : Int32) = nI (2 * (v + 1)) from nI_mul 2 (v + 1)]
      refine r_goto 41 (q135 (i := 17) rfl) (by decide) ?_
      refine r_istore (ls' := [(4, .int (nI (2 * (v + 1)))), (3, .int (nI v)), (0, .ref 47), (1, .int 1), (2, .int s)]) (q135 (i := 27) rfl) (Nat.le_of_ble_eq_true rfl) rfl ?_
      refine r_iload_n (q135 (i := 28) rfl) rfl ?_
      refine r_if 54 (q135 (i := 29) rfl) (by decide) (fun zz => absurd zz (show ¬ (0 ≤ s) from fun y => nlt0 y s0)) (fun _ => ?_)
      refine r_iload (q135 (i := 30) rfl) rfl ?_
      refine r_iconst (v := 1) (q135 (i := 31) rfl) (by decide) ?_
      refine r_ixor (q135 (i := 32) rfl) ?_
      rw [show ((nI (2 * (v + 1))) ^^^ 1 : Int32) = nI ((2 * (v + 1)) ^^^ 1) from xor1 _]
      refine r_goto 56 (q135 (i := 33) rfl) (by decide) ?_
      exact r_iret (q135 (i := 35) rfl) rfl hQ
  · rw [if_neg s0]
    have ev : s = nI v := by rw [← ev]; exact (pl_pos (Int32.not_lt.mp s0)).symm
    subst ev
    refine Run.of (d := d) (Nat.le_of_ble_eq_true rfl) (fun Q hQ => ?_)
    show Wp (Ex d) 135 Q 0 [(0, .ref 47), (1, .int 1), (2, .int (nI v))] [] h 0 0
    refine r_iload_n (q135 (i := 0) rfl) rfl ?_
    refine r_if 10 (q135 (i := 1) rfl) (by decide) (fun _ => ?_) (fun zz => absurd (show 0 ≤ nI v from nI_pos' (by omega)) zz)
    refine r_iload_n (q135 (i := 6) rfl) rfl ?_
    refine r_istore_n (ls' := [(3, .int (nI v)), (0, .ref 47), (1, .int 1), (2, .int (nI v))]) (q135 (i := 7) rfl) (Nat.le_of_ble_eq_true rfl) rfl ?_
    refine r_iload_n (q135 (i := 8) rfl) rfl ?_
    refine r_aload_n (q135 (i := 9) rfl) rfl ?_
    refine r_getI (x := nI n) (q135 (i := 10) rfl) rfl (by decide) (k_47 S) (fun _ _ _ => rfl) e1 ?_
    refine r_icmp 28 (q135 (i := 11) rfl) (by decide) (fun c17 => ?_) (fun c17 => ?_)
    · have c17 : nI n ≤ nI v := c17
      have hv2 : n ≤ v := (nI_leI (by omega) (by omega)).mp c17
      have es : sl n lit v = lit (v - n) := if_neg (by omega)
      rw [es] at hQ
      refine r_aload_n (q135 (i := 18) rfl) rfl ?_
      refine r_getR (b := 65) (q135 (i := 19) rfl) rfl (by decide) (k_47 S) (fun _ _ _ => rfl) (r_47_9 S) ?_
      refine r_iload_n (q135 (i := 20) rfl) rfl ?_
      refine r_aaload5 (q135 (i := 21) rfl) (k_65 S) (vp_in_nI (n := 1) (by decide) (by decide)) (r_65_1 S) ?_
      refine r_iload_n (q135 (i := 22) rfl) rfl ?_
      refine r_aload_n (q135 (i := 23) rfl) rfl ?_
      refine r_getI (x := nI n) (q135 (i := 24) rfl) rfl (by decide) (k_47 S) (fun _ _ _ => rfl) e1 ?_
      refine r_isub (q135 (i := 25) rfl) ?_
      rw [show ((nI v) - (nI n) : Int32) = nI (v - n) from nI_subN (by omega)]
      refine r_iaN (x := nI (lit (v - n))) (q135 (i := 26) rfl) (k_67 S) (by omega) (by decide) (hl _ (by omega)) ?_
      refine r_istore (ls' := [(4, .int (nI (lit (v - n)))), (3, .int (nI v)), (0, .ref 47), (1, .int 1), (2, .int (nI v))]) (q135 (i := 27) rfl) (Nat.le_of_ble_eq_true rfl) rfl ?_
      refine r_iload_n (q135 (i := 28) rfl) rfl ?_
      refine r_if 54 (q135 (i := 29) rfl) (by decide) (fun _ => ?_) (fun zz => absurd (show 0 ≤ nI v from nI_pos' (by omega)) zz)
      refine r_iload (q135 (i := 34) rfl) rfl ?_
      exact r_iret (q135 (i := 35) rfl) rfl hQ
    · have c17 : ¬ (nI n ≤ nI v) := c17
      have hv2 : v < n := by rcases Nat.lt_or_ge v n with y | y; exact y; exact absurd (nI_le y (by omega)) c17
      have es : sl n lit v = 2 * (v + 1) := if_pos hv2
      rw [es] at hQ
      refine r_iconst (v := 2) (q135 (i := 12) rfl) (by decide) ?_
      refine r_iload_n (q135 (i := 13) rfl) rfl ?_
      refine r_iconst (v := 1) (q135 (i := 14) rfl) (by decide) ?_
      refine r_iadd (q135 (i := 15) rfl) ?_
      rw [show ((nI v) + 1 : Int32) = nI (v + 1) from nI_1 v]
      refine r_imul (q135 (i := 16) rfl) ?_
      rw [show (2 * (nI (v + 1)) : Int32) = nI (2 * (v + 1)) from nI_mul 2 (v + 1)]
      refine r_goto 41 (q135 (i := 17) rfl) (by decide) ?_
      refine r_istore (ls' := [(4, .int (nI (2 * (v + 1)))), (3, .int (nI v)), (0, .ref 47), (1, .int 1), (2, .int (nI v))]) (q135 (i := 27) rfl) (Nat.le_of_ble_eq_true rfl) rfl ?_
      refine r_iload_n (q135 (i := 28) rfl) rfl ?_
      refine r_if 54 (q135 (i := 29) rfl) (by decide) (fun _ => ?_) (fun zz => absurd (show 0 ≤ nI v from nI_pos' (by omega)) zz)
      refine r_iload (q135 (i := 34) rfl) rfl ?_
      exact r_iret (q135 (i := 35) rfl) rfl hQ
