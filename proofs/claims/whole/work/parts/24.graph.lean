/-! ===== the class's graph holds a pure graph ===== -/
def GC (h : hp) (ρ n rw : Nat) (γ : gs) : Prop :=
  ((∃ ℓ, Rw h ρ ℓ ∧ 973 * rw ≤ ℓ ∧ ℓ < 100000) ∧ 1 ≤ rw ∧ rw ≤ 64 ∧ n ≤ 12) ∧ (hI h 21 7 = nI rw ∧ hI h 21 8 = nI n ∧ hI h 21 9 = nI (gC γ) ∧ gC γ ≤ 973) ∧
  (∀ k, k < gC γ → hI h 22 k = nI (gL γ k) ∧ hI h 23 k = nI (gR γ k)) ∧ (∀ p, p < 2 * gC γ → hI h 24 p = nI (prv n (gL γ) p (gC γ))) ∧ (∀ k, n < k → k < gC γ → hI h 25 k = nI (prv n (gL γ) (gL γ k) k)) ∧
  (∀ x w, x < gC γ → w < rw → hJ h ρ (x * rw + w) = gW γ x w)
/-- what the graph's methods leave as it was -/
def FrG (ρ : Nat) (h h' : hp) : Prop := h'.2.2 = h.2.2 ∧ (∀ k, k < 21 ∨ 25 < k → hI h' k = hI h k) ∧ (∀ k, k ≠ ρ → hJ h' k = hJ h k) ∧ ∀ j, j ≠ 9 → hI h' 21 j = hI h 21 j
theorem FrG.rf (ρ : Nat) (h : hp) : FrG ρ h h := ⟨rfl, fun _ _ => rfl, fun _ _ => rfl, fun _ _ => rfl⟩
theorem FrG.tr {ρ : Nat} {h h' h'' : hp} (a : FrG ρ h h') (b : FrG ρ h' h'') : FrG ρ h h'' := ⟨b.1.trans a.1, fun k hk => (b.2.1 k hk).trans (a.2.1 k hk), fun k hk => (b.2.2.1 k hk).trans (a.2.2.1 k hk), fun j hj => (b.2.2.2 j hj).trans (a.2.2.2 j hj)⟩
theorem Sh.to {h h' : hp} (S : Sh h) (e : h'.2.2 = h.2.2) : Sh h' := by
  unfold Sh hK hR at S ⊢
  rw [e]
  exact S
theorem ix_lt {x rw w : Nat} (hx : x < 973) (hw : w < rw) : x * rw + w < 973 * rw := by
  have : (x + 1) * rw ≤ 973 * rw := Nat.mul_le_mul_right rw (by omega)
  rw [Nat.succ_mul] at this
  omega
set_option maxHeartbeats 2000000 in
set_option maxRecDepth 10000 in
theorem sp_wordOf {d : Nat} {h : hp} (S : Sh h) {ρ n rw : Nat} {γ : gs} (G : GC h ρ n rw γ) {p w : Nat} (hp : p < 2 * gC γ) (hw : w < rw) : Run (d + 1) 55 [.ref 21, .int (nI p), .int (nI w)] h 0 0 (some (.long (lw (gW γ) p w))) h := by
  obtain ⟨⟨⟨ℓ, hRw, hℓ, hℓ1⟩, hr1, hr2, hn12⟩, ⟨e7, e8, e9, hc⟩, eLR, eCh, eNx, eRow⟩ := G
  have hix : p / 2 * rw + w < ℓ := by have := ix_lt (x := p / 2) (rw := rw) (w := w) (by omega) hw; omega
  refine Run.of (Nat.le_of_ble_eq_true rfl) (fun Q hQ => ?_)
  show Wp (Ex (d)) 55 Q 0 [(0, .ref 21), (1, .int (nI p)), (2, .int (nI w))] [] h 0 0
  refine r_aload_n (q55 (i := 0) rfl) rfl ?_
  refine r_getR (b := ρ) (q55 (i := 1) rfl) rfl (by decide) (k_21 S) (fun _ _ _ => rfl) hRw.1 ?_
  refine r_iload_n (q55 (i := 2) rfl) rfl ?_
  refine r_iconst (v := 1) (q55 (i := 3) rfl) (by decide) ?_
  refine r_ishr (q55 (i := 4) rfl) ?_
  rw [show ((nI p) >>> (1 &&& 31) : Int32) = nI (p / 2) from shr1 (by omega)]
  refine r_aload_n (q55 (i := 5) rfl) rfl ?_
  refine r_getI (x := nI rw) (q55 (i := 6) rfl) rfl (by decide) (k_21 S) (fun _ _ _ => rfl) e7 ?_
  refine r_imul (q55 (i := 7) rfl) ?_
  rw [show ((nI (p / 2)) * (nI rw) : Int32) = nI (p / 2 * rw) from pk_mul _ _]
  refine r_iload_n (q55 (i := 8) rfl) rfl ?_
  refine r_iadd (q55 (i := 9) rfl) ?_
  rw [show ((nI (p / 2 * rw)) + (nI w) : Int32) = nI (p / 2 * rw + w) from nI_add _ _]
  refine r_laN (x := gW γ (p / 2) w) (q55 (i := 10) rfl) hRw.2.1 hix (by omega) (eRow _ _ (by omega) hw) ?_
  refine r_lstore_n (ls' := [(3, .long (gW γ (p / 2) w)), (0, .ref 21), (1, .int (nI p)), (2, .int (nI w))]) (q55 (i := 11) rfl) (Nat.le_of_ble_eq_true rfl) rfl ?_
  refine r_iload_n (q55 (i := 12) rfl) rfl ?_
  refine r_iconst (v := 1) (q55 (i := 13) rfl) (by decide) ?_
  refine r_iand (q55 (i := 14) rfl) ?_
  rw [show ((nI p) &&& 1 : Int32) = nI (p % 2) from and1 (by omega)]
  refine r_if 26 (q55 (i := 15) rfl) (by decide) (fun c => ?_) (fun c => ?_)
  · have c : ¬ nI (p % 2) = 0 := c
    have c : ¬ p % 2 = 0 := fun q => c (by rw [q]; rfl)
    refine r_lload_n (q55 (i := 18) rfl) rfl ?_
    refine r_ldc2 (v := (-1)) (q55 (i := 19) rfl) rfl ?_
    refine r_lxor (q55 (i := 20) rfl) ?_
    exact r_lret (q55 (i := 21) rfl) rfl (by unfold lw at hQ; first | (rw [if_pos c] at hQ; exact hQ) | (rw [if_neg c] at hQ; exact hQ))
  · have c : ¬ (¬ nI (p % 2) = 0) := c
    have c : p % 2 = 0 := Classical.not_not.mp (fun q => c (fun z => by have := (nI_eq (a := p % 2) (b := 0) (by omega) (by decide)).mp z; exact q this))
    refine r_lload_n (q55 (i := 16) rfl) rfl ?_
    refine r_goto 31 (q55 (i := 17) rfl) (by decide) ?_
    exact r_lret (q55 (i := 21) rfl) rfl (by unfold lw at hQ; first | (rw [if_pos c] at hQ; exact hQ) | (rw [if_neg c] at hQ; exact hQ))
/-- a node more, its two chains empty -/
def nodH (h : hp) (x l r : Nat) : hp := sI (sI (sI (sI (sI (sI h 22 x (nI l)) 23 x (nI r)) 25 x 0) 24 (2 * x) 0) 24 (2 * x + 1) 0) 21 9 (nI (x + 1))
set_option maxHeartbeats 2000000 in
set_option maxRecDepth 10000 in
theorem sp_addNode {d : Nat} {h : hp} (S : Sh h) {x : Nat} (hx : hI h 21 9 = nI x) (hx1 : x < 973) (l r : Nat) : Run (d + 1) 54 [.ref 21, .int (nI l), .int (nI r)] h 0 0 none (nodH h x l r) := by
  refine Run.of (Nat.le_of_ble_eq_true rfl) (fun Q hQ => ?_)
  show Wp (Ex (d)) 54 Q 0 [(0, .ref 21), (1, .int (nI l)), (2, .int (nI r))] [] h 0 0
  refine r_aload_n (q54 (i := 0) rfl) rfl ?_
  refine r_getI (x := nI x) (q54 (i := 1) rfl) rfl (by decide) (k_21 S) (fun _ _ _ => rfl) hx ?_
  refine r_istore_n (ls' := [(3, .int (nI x)), (0, .ref 21), (1, .int (nI l)), (2, .int (nI r))]) (q54 (i := 2) rfl) (Nat.le_of_ble_eq_true rfl) rfl ?_
  refine r_aload_n (q54 (i := 3) rfl) rfl ?_
  refine r_getR (b := 22) (q54 (i := 4) rfl) rfl (by decide) (k_21 S) (fun _ _ _ => rfl) (r_21_2 S) ?_
  refine r_iload_n (q54 (i := 5) rfl) rfl ?_
  refine r_iload_n (q54 (i := 6) rfl) rfl ?_
  refine r_iasN (q54 (i := 7) rfl) (k_22 S) (by omega) (by decide) ?_
  refine r_aload_n (q54 (i := 8) rfl) rfl ?_
  refine r_getR (b := 23) (q54 (i := 9) rfl) rfl (by decide) (k_21 S) (fun _ _ _ => rfl) (r_21_3 S) ?_
  refine r_iload_n (q54 (i := 10) rfl) rfl ?_
  refine r_iload_n (q54 (i := 11) rfl) rfl ?_
  refine r_iasN (q54 (i := 12) rfl) (k_23 S) (by omega) (by decide) ?_
  refine r_aload_n (q54 (i := 13) rfl) rfl ?_
  refine r_getR (b := 25) (q54 (i := 14) rfl) rfl (by decide) (k_21 S) (fun _ _ _ => rfl) (r_21_5 S) ?_
  refine r_iload_n (q54 (i := 15) rfl) rfl ?_
  refine r_iconst (v := 0) (q54 (i := 16) rfl) (by decide) ?_
  refine r_iasN (q54 (i := 17) rfl) (k_25 S) (by omega) (by decide) ?_
  refine r_aload_n (q54 (i := 18) rfl) rfl ?_
  refine r_getR (b := 24) (q54 (i := 19) rfl) rfl (by decide) (k_21 S) (fun _ _ _ => rfl) (r_21_4 S) ?_
  refine r_iconst (v := 2) (q54 (i := 20) rfl) (by decide) ?_
  refine r_iload_n (q54 (i := 21) rfl) rfl ?_
  refine r_imul (q54 (i := 22) rfl) ?_
  rw [show (2 * (nI x) : Int32) = nI (2 * x) from pk_mul 2 x]
  refine r_iconst (v := 0) (q54 (i := 23) rfl) (by decide) ?_
  refine r_iasN (q54 (i := 24) rfl) (k_24 S) (by omega) (by decide) ?_
  refine r_aload_n (q54 (i := 25) rfl) rfl ?_
  refine r_getR (b := 24) (q54 (i := 26) rfl) rfl (by decide) (k_21 S) (fun _ _ _ => rfl) (r_21_4 S) ?_
  refine r_iconst (v := 2) (q54 (i := 27) rfl) (by decide) ?_
  refine r_iload_n (q54 (i := 28) rfl) rfl ?_
  refine r_imul (q54 (i := 29) rfl) ?_
  rw [show (2 * (nI x) : Int32) = nI (2 * x) from pk_mul 2 x]
  refine r_iconst (v := 1) (q54 (i := 30) rfl) (by decide) ?_
  refine r_iadd (q54 (i := 31) rfl) ?_
  rw [show ((nI (2 * x)) + 1 : Int32) = nI (2 * x + 1) from nI_1 _]
  refine r_iconst (v := 0) (q54 (i := 32) rfl) (by decide) ?_
  refine r_iasN (q54 (i := 33) rfl) (k_24 S) (by omega) (by decide) ?_
  refine r_aload_n (q54 (i := 34) rfl) rfl ?_
  refine r_dup (q54 (i := 35) rfl) rfl ?_
  refine r_getI (x := nI x) (q54 (i := 36) rfl) rfl (by decide) (k_21 S) (fun _ _ _ => rfl) hx ?_
  refine r_iconst (v := 1) (q54 (i := 37) rfl) (by decide) ?_
  refine r_iadd (q54 (i := 38) rfl) ?_
  rw [show ((nI x) + 1 : Int32) = nI (x + 1) from nI_1 x]
  refine r_putI (q54 (i := 39) rfl) rfl (by decide) (k_21 S) rfl rfl ?_
  exact r_vret (q54 (i := 40) rfl) rfl hQ
/-- a stretch of a row written: i places from b on -/
def rowF (f : Nat → Int64) (b : Nat) (g : Nat → Int64) (i : Nat) : Nat → Int64 := fun q => if b ≤ q ∧ q < b + i then g (q - b) else f q
theorem rowF_s (f : Nat → Int64) (b : Nat) (g : Nat → Int64) (i : Nat) : u1 (rowF f b g i) (b + i) (g i) = rowF f b g (i + 1) := by
  funext q
  unfold u1 rowF
  by_cases e : q = b + i
  · rw [if_pos e, if_pos (by omega), show q - b = i by omega]
  · rw [if_neg e]
    by_cases e2 : b ≤ q ∧ q < b + i
    · rw [if_pos e2, if_pos (by omega)]
    · rw [if_neg e2, if_neg (by omega)]
theorem rowF_0 (f : Nat → Int64) (b : Nat) (g : Nat → Int64) : rowF f b g 0 = f := by
  funext q
  exact if_neg (by omega)
theorem rowF_in {f g : Nat → Int64} {b i q : Nat} (h : q < i) : rowF f b g i (b + q) = g q := by
  unfold rowF
  rw [if_pos (by omega), Nat.add_sub_cancel_left]
theorem rowF_lt {f g : Nat → Int64} {b i q : Nat} (h : q < b) : rowF f b g i q = f q := if_neg (by omega)
theorem GC.row {h : hp} {ρ n rw : Nat} {γ : gs} (G : GC h ρ n rw γ) (f : Nat → Int64) (hf : ∀ q, q < gC γ * rw → f q = hJ h ρ q) : GC (rJ h ρ f) ρ n rw γ := by
  obtain ⟨a, b, c, e, g, r⟩ := G
  refine ⟨a, b, c, e, g, fun x w hx hw => ?_⟩
  show u1 h.2.1 ρ f ρ (x * rw + w) = _
  rw [u1_s, hf, r x w hx hw]
  have : (x + 1) * rw ≤ gC γ * rw := Nat.mul_le_mul_right rw (by omega)
  rw [Nat.succ_mul] at this
  omega
theorem nod24 {h : hp} {x l r q : Nat} (hq : q < 2 * x) : hI (nodH h x l r) 24 q = hI h 24 q := by
  show u1 (u1 (hI h 24) (2 * x) 0) (2 * x + 1) 0 q = _
  rw [u1_n (by omega), u1_n (by omega)]
def addH (h : hp) (ρ n rw : Nat) (γ : gs) (l r : Nat) : hp := sI (sI (nodH (rJ h ρ (rowF (hJ h ρ) (gC γ * rw) (fun w => lw (gW γ) l w &&& lw (gW γ) r w) rw)) (gC γ) l r) 25 (gC γ) (nI (prv n (gL γ) l (gC γ)))) 24 l (nI (gC γ))
set_option maxHeartbeats 2000000 in
set_option maxRecDepth 10000 in
theorem lp_addAnd {d : Nat} {h : hp} (S : Sh h) {ρ n rw : Nat} {γ : gs} (G : GC h ρ n rw γ) {l r : Nat} (hl : l < 2 * gC γ) (hr : r < 2 * gC γ) (hc3 : gC γ < 973) {Q : resP} {bc bs : Nat} (hk : ∀ ls : List (Nat × Value), ls.lookup 4 = some (.int (nI rw)) → ls.lookup 3 = some (.int (nI (gC γ))) → ls.lookup 0 = some (.ref 21) → ls.lookup 1 = some (.int (nI l)) → ls.lookup 2 = some (.int (nI r)) → Wp (Ex (d + 1)) 53 Q 64 ls [] (rJ h ρ (rowF (hJ h ρ) (gC γ * rw) (fun w => lw (gW γ) l w &&& lw (gW γ) r w) rw)) bc bs) : ∀ (k i : Nat), i + k = rw → ∀ ls : List (Nat × Value), ls.lookup 4 = some (.int (nI i)) → ls.lookup 3 = some (.int (nI (gC γ))) → ls.lookup 0 = some (.ref 21) → ls.lookup 1 = some (.int (nI l)) → ls.lookup 2 = some (.int (nI r)) → Wp (Ex (d + 1)) 53 Q 20 ls [] (rJ h ρ (rowF (hJ h ρ) (gC γ * rw) (fun w => lw (gW γ) l w &&& lw (gW γ) r w) i)) bc bs := by
  have G0 := G
  obtain ⟨⟨⟨ℓ, hRw, hℓ, hℓ1⟩, hr1, hr2, hn12⟩, ⟨e7, e8, e9, hc⟩, eLR, eCh, eNx, eRow⟩ := G
  intro k
  induction k with
  | zero =>
    intro i hi ls l4 l3 l0 l1 l2
    have e : i = rw := by omega
    subst e
    refine r_iload (q53 (i := 11) rfl) l4 ?_
    refine r_aload_n (q53 (i := 12) rfl) l0 ?_
    refine r_getI (x := nI i) (q53 (i := 13) rfl) rfl (by decide) (k_21 S) (fun _ _ _ => rfl) e7 ?_
    refine r_icmp 64 (q53 (i := 14) rfl) (by decide) (fun _ => ?_) (fun c => absurd (show nI i ≤ nI i from Int32.le_refl _) c)
    exact hk ls l4 l3 l0 l1 l2
  | succ k ih =>
    intro i hi ls l4 l3 l0 l1 l2
    have G1 : GC (rJ h ρ (rowF (hJ h ρ) (gC γ * rw) (fun w => lw (gW γ) l w &&& lw (gW γ) r w) i)) ρ n rw γ := G0.row _ (fun q hq => rowF_lt hq)
    have hix : gC γ * rw + i < ℓ := by have := ix_lt (x := gC γ) (rw := rw) (w := i) hc3 (by omega); omega
    refine r_iload (q53 (i := 11) rfl) l4 ?_
    refine r_aload_n (q53 (i := 12) rfl) l0 ?_
    refine r_getI (x := nI rw) (q53 (i := 13) rfl) rfl (by decide) (k_21 S) (fun _ _ _ => rfl) e7 ?_
    refine r_icmp 64 (q53 (i := 14) rfl) (by decide) (fun c => absurd c (show ¬ (nI rw ≤ nI i) from nI_ge (by omega) (by omega))) (fun _ => ?_)
    refine r_aload_n (q53 (i := 15) rfl) l0 ?_
    refine r_getR (b := ρ) (q53 (i := 16) rfl) rfl (by decide) (k_21 S) (fun _ _ _ => rfl) hRw.1 ?_
    refine r_iload_n (q53 (i := 17) rfl) l3 ?_
    refine r_aload_n (q53 (i := 18) rfl) l0 ?_
    refine r_getI (x := nI rw) (q53 (i := 19) rfl) rfl (by decide) (k_21 S) (fun _ _ _ => rfl) e7 ?_
    refine r_imul (q53 (i := 20) rfl) ?_
    rw [show ((nI (gC γ)) * (nI rw) : Int32) = nI (gC γ * rw) from pk_mul _ _]
    refine r_iload (q53 (i := 21) rfl) l4 ?_
    refine r_iadd (q53 (i := 22) rfl) ?_
    rw [show ((nI (gC γ * rw)) + (nI i) : Int32) = nI (gC γ * rw + i) from nI_add _ _]
    refine r_aload_n (q53 (i := 23) rfl) l0 ?_
    refine r_iload_n (q53 (i := 24) rfl) l1 ?_
    refine r_iload (q53 (i := 25) rfl) l4 ?_
    refine r_cV (d := _) (q53 (i := 26) rfl) rfl rfl rfl (k_21 S) (Nat.le_of_ble_eq_true rfl) (Nat.zero_le _) (Nat.zero_le _) (sp_wordOf (h := (rJ h ρ (rowF (hJ h ρ) (gC γ * rw) (fun w => lw (gW γ) l w &&& lw (gW γ) r w) i))) (Sh.to S rfl) G1 hl (by omega)) ?_
    show Wp _ _ _ 49 ls [.long (lw (gW γ) l i), .int (nI (gC γ * rw + i)), .ref ρ] (rJ h ρ (rowF (hJ h ρ) (gC γ * rw) (fun w => lw (gW γ) l w &&& lw (gW γ) r w) i)) _ _
    refine r_aload_n (q53 (i := 27) rfl) l0 ?_
    refine r_iload_n (q53 (i := 28) rfl) l2 ?_
    refine r_iload (q53 (i := 29) rfl) l4 ?_
    refine r_cV (d := _) (q53 (i := 30) rfl) rfl rfl rfl (k_21 S) (Nat.le_of_ble_eq_true rfl) (Nat.zero_le _) (Nat.zero_le _) (sp_wordOf (h := (rJ h ρ (rowF (hJ h ρ) (gC γ * rw) (fun w => lw (gW γ) l w &&& lw (gW γ) r w) i))) (Sh.to S rfl) G1 hr (by omega)) ?_
    show Wp _ _ _ 56 ls [.long (lw (gW γ) r i), .long (lw (gW γ) l i), .int (nI (gC γ * rw + i)), .ref ρ] (rJ h ρ (rowF (hJ h ρ) (gC γ * rw) (fun w => lw (gW γ) l w &&& lw (gW γ) r w) i)) _ _
    refine r_land (q53 (i := 31) rfl) ?_
    refine r_lasN (q53 (i := 32) rfl) hRw.2.1 hix (by omega) ?_
    rw [sJ_rJ, show lw (gW γ) l i &&& lw (gW γ) r i = (fun w => lw (gW γ) l w &&& lw (gW γ) r w) i from rfl, rowF_s]
    refine r_iinc (y := nI (i + 1)) (q53 (i := 33) rfl) (Nat.le_of_ble_eq_true rfl) l4 (nI_1 i) rfl ?_
    have l3 := lk1 (k := 4) (v := .int (nI (i + 1))) l3 (by decide) (Or.inl rfl)
    have l0 := lk1 (k := 4) (v := .int (nI (i + 1))) l0 (by decide) (Or.inr (by decide))
    have l1 := lk1 (k := 4) (v := .int (nI (i + 1))) l1 (by decide) (Or.inr (by decide))
    have l2 := lk1 (k := 4) (v := .int (nI (i + 1))) l2 (by decide) (Or.inr (by decide))
    have l4 := lk0 ls 4 (.int (nI (i + 1)))
    generalize lset1 ls 4 (.int (nI (i + 1))) = ls at l4 l3 l0 l1 l2 ⊢
    refine r_goto 20 (q53 (i := 34) rfl) (by decide) ?_
    exact ih (i + 1) (by omega) ls l4 l3 l0 l1 l2
set_option maxHeartbeats 2000000 in
set_option maxRecDepth 10000 in
theorem sp_addAnd0 {d : Nat} {h : hp} (S : Sh h) {ρ n rw : Nat} {γ : gs} (G : GC h ρ n rw γ) {l r : Nat} (hl : l < 2 * gC γ) (hr : r < 2 * gC γ) (hc3 : gC γ < 973) (hn : n < gC γ) : Run (d + 1 + 1) 53 [.ref 21, .int (nI l), .int (nI r)] h 0 0 (some (.int (nI (2 * gC γ)))) (addH h ρ n rw γ l r) := by
  have G0 := G
  obtain ⟨⟨⟨ℓ, hRw, hℓ, hℓ1⟩, hr1, hr2, hn12⟩, ⟨e7, e8, e9, hc⟩, eLR, eCh, eNx, eRow⟩ := G
  refine Run.of (Nat.le_of_ble_eq_true rfl) (fun Q hQ => ?_)
  show Wp (Ex (d + 1)) 53 Q 0 [(0, .ref 21), (1, .int (nI l)), (2, .int (nI r))] [] h 0 0
  refine r_aload_n (q53 (i := 0) rfl) rfl ?_
  refine r_getI (x := nI (gC γ)) (q53 (i := 1) rfl) rfl (by decide) (k_21 S) (fun _ _ _ => rfl) e9 ?_
  refine r_sipush (v := 973) (q53 (i := 2) rfl) (by decide) ?_
  refine r_icmp 12 (q53 (i := 3) rfl) (by decide) (fun _ => ?_) (fun c => absurd (show nI (gC γ) < 973 from nI_lt (b := 973) hc3 (by decide)) c)
  refine r_aload_n (q53 (i := 6) rfl) rfl ?_
  refine r_getI (x := nI (gC γ)) (q53 (i := 7) rfl) rfl (by decide) (k_21 S) (fun _ _ _ => rfl) e9 ?_
  refine r_istore_n (ls' := [(3, .int (nI (gC γ))), (0, .ref 21), (1, .int (nI l)), (2, .int (nI r))]) (q53 (i := 8) rfl) (Nat.le_of_ble_eq_true rfl) rfl ?_
  refine r_iconst (v := 0) (q53 (i := 9) rfl) (by decide) ?_
  refine r_istore (ls' := [(4, .int 0), (3, .int (nI (gC γ))), (0, .ref 21), (1, .int (nI l)), (2, .int (nI r))]) (q53 (i := 10) rfl) (Nat.le_of_ble_eq_true rfl) rfl ?_
  have e0 : h = rJ h ρ (rowF (hJ h ρ) (gC γ * rw) (fun w => lw (gW γ) l w &&& lw (gW γ) r w) 0) := by rw [rowF_0, rJ_self]
  conv => arg 7; rw [e0]
  refine lp_addAnd S G0 hl hr hc3 (fun ls l4 l3 l0 l1 l2 => ?_) rw 0 (by omega) _ rfl rfl rfl rfl rfl
  refine r_aload_n (q53 (i := 35) rfl) l0 ?_
  refine r_iload_n (q53 (i := 36) rfl) l1 ?_
  refine r_iload_n (q53 (i := 37) rfl) l2 ?_
  have S1 : Sh (rJ h ρ (rowF (hJ h ρ) (gC γ * rw) (fun w => lw (gW γ) l w &&& lw (gW γ) r w) rw)) := Sh.to S rfl
  have S2 : Sh (nodH (rJ h ρ (rowF (hJ h ρ) (gC γ * rw) (fun w => lw (gW γ) l w &&& lw (gW γ) r w) rw)) (gC γ) l r) := Sh.to S rfl
  refine r_cV (d := _) (q53 (i := 38) rfl) rfl rfl rfl (k_21 S1) (Nat.le_of_ble_eq_true rfl) (Nat.zero_le _) (Nat.zero_le _) (sp_addNode S1 e9 hc3 l r) ?_
  show Wp _ _ _ 70 ls [] (nodH (rJ h ρ (rowF (hJ h ρ) (gC γ * rw) (fun w => lw (gW γ) l w &&& lw (gW γ) r w) rw)) (gC γ) l r) _ _
  refine r_aload_n (q53 (i := 39) rfl) l0 ?_
  refine r_getR (b := 25) (q53 (i := 40) rfl) rfl (by decide) (k_21 S2) (fun _ _ _ => rfl) (r_21_5 S2) ?_
  refine r_iload_n (q53 (i := 41) rfl) l3 ?_
  refine r_aload_n (q53 (i := 42) rfl) l0 ?_
  refine r_getR (b := 24) (q53 (i := 43) rfl) rfl (by decide) (k_21 S2) (fun _ _ _ => rfl) (r_21_4 S2) ?_
  refine r_iload_n (q53 (i := 44) rfl) l1 ?_
  refine r_iaN (x := nI (prv n (gL γ) l (gC γ))) (q53 (i := 45) rfl) (k_24 S2) (by omega) (by decide) ((nod24 hl).trans (eCh l hl)) ?_
  refine r_iasN (q53 (i := 46) rfl) (k_25 S2) (by omega) (by decide) ?_
  refine r_aload_n (q53 (i := 47) rfl) l0 ?_
  refine r_getR (b := 24) (q53 (i := 48) rfl) rfl (by decide) (k_21 S2) (fun _ _ _ => rfl) (r_21_4 S2) ?_
  refine r_iload_n (q53 (i := 49) rfl) l1 ?_
  refine r_iload_n (q53 (i := 50) rfl) l3 ?_
  refine r_iasN (q53 (i := 51) rfl) (k_24 S2) (by omega) (by decide) ?_
  refine r_iconst (v := 2) (q53 (i := 52) rfl) (by decide) ?_
  refine r_iload_n (q53 (i := 53) rfl) l3 ?_
  refine r_imul (q53 (i := 54) rfl) ?_
  rw [show (2 * (nI (gC γ)) : Int32) = nI (2 * gC γ) from pk_mul 2 _]
  exact r_iret (q53 (i := 55) rfl) rfl hQ
theorem u1_nn {α : Type} {f : Nat → α} {k j : Nat} {v : α} (h : j ≠ k) : u1 f k v j = f j := if_neg h
theorem addH_ok {h : hp} {ρ n rw : Nat} {γ : gs} (G : GC h ρ n rw γ) (W : gwf n γ) {l r : Nat} (hlr : l < r) (hr : r < 2 * gC γ) (hc3 : gC γ < 973) : GC (addH h ρ n rw γ l r) ρ n rw (gpush γ l r) ∧ FrG ρ h (addH h ρ n rw γ l r) := by
  obtain ⟨⟨⟨ℓ, hRw, hℓ, hℓ1⟩, hr1, hr2, hn12⟩, ⟨e7, e8, e9, hc⟩, eLR, eCh, eNx, eRow⟩ := G
  have hn : n < gC γ := W.1
  have i22 : hI (addH h ρ n rw γ l r) 22 = u1 (hI h 22) (gC γ) (nI l) := rfl
  have i23 : hI (addH h ρ n rw γ l r) 23 = u1 (hI h 23) (gC γ) (nI r) := rfl
  have i24 : hI (addH h ρ n rw γ l r) 24 = u1 (u1 (u1 (hI h 24) (2 * gC γ) 0) (2 * gC γ + 1) 0) l (nI (gC γ)) := rfl
  have i25 : hI (addH h ρ n rw γ l r) 25 = u1 (u1 (hI h 25) (gC γ) 0) (gC γ) (nI (prv n (gL γ) l (gC γ))) := rfl
  have j1 : hJ (addH h ρ n rw γ l r) ρ = rowF (hJ h ρ) (gC γ * rw) (fun w => lw (gW γ) l w &&& lw (gW γ) r w) rw := by
    show u1 h.2.1 ρ _ ρ = _
    exact u1_s
  have eC : gC (gpush γ l r) = gC γ + 1 := rfl
  have pL : ∀ p m, m ≤ gC γ → prv n (gL (gpush γ l r)) p m = prv n (gL γ) p m := fun p m hm => prv_congr n p m (fun k hk => u1_n (by omega))
  have pS : ∀ p, prv n (gL (gpush γ l r)) p (gC γ + 1) = if l = p then gC γ else prv n (gL γ) p (gC γ) := fun p => by
    have e : prv n (gL (gpush γ l r)) p (gC γ + 1) = if n < gC γ ∧ gL (gpush γ l r) (gC γ) = p then gC γ else prv n (gL (gpush γ l r)) p (gC γ) := rfl
    rw [e, pL p _ (Nat.le_refl _), show gL (gpush γ l r) (gC γ) = l from u1_s]
    by_cases q : l = p
    · rw [if_pos ⟨hn, q⟩, if_pos q]
    · rw [if_neg (fun z => q z.2), if_neg q]
  have big : ∀ p, 2 * gC γ ≤ p → prv n (gL γ) p (gC γ) = 0 := fun p hp => prv_none n _ p _ (fun k a b q => by have := W.2.1 k a b; omega)
  refine ⟨⟨⟨⟨ℓ, hRw, hℓ, hℓ1⟩, hr1, hr2, hn12⟩, ⟨e7, e8, by rw [eC]; rfl, by rw [eC]; omega⟩, fun k hk => ?_, fun p hp => ?_, fun k a hk => ?_, fun x w hx hw => ?_⟩, ⟨rfl, fun k hk => ?_, fun k hk => ?_, fun j hj => ?_⟩⟩
  · rw [eC] at hk
    rw [i22, i23]
    by_cases q : k = gC γ
    · subst q
      exact ⟨by rw [u1_s]; exact (congrArg nI (u1_s (f := gL γ) (v := l))).symm, by rw [u1_s]; exact (congrArg nI (u1_s (f := gR γ) (v := r))).symm⟩
    · rw [u1_n q, u1_n q, show gL (gpush γ l r) k = gL γ k from u1_n q, show gR (gpush γ l r) k = gR γ k from u1_n q]
      exact eLR k (by omega)
  · rw [eC] at hp ⊢
    rw [i24, pS p]
    by_cases q : p = l
    · subst q
      rw [u1_s, if_pos rfl]
    · rw [u1_n q, if_neg (fun z => q z.symm)]
      by_cases q1 : p = 2 * gC γ + 1
      · subst q1
        rw [u1_s, big _ (by omega)]
        rfl
      · rw [u1_n q1]
        by_cases q2 : p = 2 * gC γ
        · subst q2
          rw [u1_s, big _ (by omega)]
          rfl
        · rw [u1_n q2]
          exact eCh p (by omega)
  · rw [eC] at hk
    rw [i25, u1_u1]
    by_cases q : k = gC γ
    · subst q
      rw [u1_s, pL _ _ (Nat.le_refl _), show gL (gpush γ l r) (gC γ) = l from u1_s]
    · rw [u1_n q, pL _ _ (by omega), show gL (gpush γ l r) k = gL γ k from u1_n q]
      exact eNx k a (by omega)
  · rw [eC] at hx
    rw [j1]
    by_cases q : x = gC γ
    · subst q
      rw [rowF_in hw]
      exact (congrFun (u1_s (f := gW γ) (v := fun w => lw (gW γ) l w &&& lw (gW γ) r w)) w).symm
    · have hb : x * rw + w < gC γ * rw := by
        have : (x + 1) * rw ≤ gC γ * rw := Nat.mul_le_mul_right rw (by omega)
        rw [Nat.succ_mul] at this
        omega
      rw [rowF_lt hb, eRow x w (by omega) hw]
      exact (congrFun (u1_n (f := gW γ) q) w).symm
  · show u2 (u2 (u2 (u2 (u2 (u2 (u2 (u2 h.1 22 _ _) 23 _ _) 25 _ _) 24 _ _) 24 _ _) 21 _ _) 25 _ _) 24 _ _ k = _
    rw [u2_n (by omega), u2_n (by omega), u2_n (by omega), u2_n (by omega), u2_n (by omega), u2_n (by omega), u2_n (by omega), u2_n (by omega)]
  · show u1 h.2.1 ρ _ k = _
    exact u1_n hk
  · show u1 (hI h 21) 9 _ j = _
    exact u1_n hj
