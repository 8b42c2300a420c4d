/-! ===== the class's graph holds a pure graph ===== -/
def GC (h : hp) (ρ n rw : Nat) (γ : gs) : Prop :=
  ((∃ ℓ, Rw h ρ ℓ ∧ 973 * rw ≤ ℓ ∧ ℓ < 100000) ∧ 1 ≤ rw ∧ rw ≤ 64 ∧ n ≤ 12) ∧ (hI h 21 7 = nI rw ∧ hI h 21 8 = nI n ∧ hI h 21 9 = nI (gC γ) ∧ gC γ ≤ 973) ∧
  (∀ k, k < gC γ → hI h 22 k = nI (gL γ k) ∧ hI h 23 k = nI (gR γ k)) ∧ (∀ p, p < 2 * gC γ → hI h 24 p = nI (prv n (gL γ) p (gC γ))) ∧ (∀ k, n < k → k < gC γ → hI h 25 k = nI (prv n (gL γ) (gL γ k) k)) ∧
  (∀ x w, x < gC γ → w < rw → hJ h ρ (x * rw + w) = gW γ x w)
/-- what the graph's methods leave as it was -/
def FrG (ρ : Nat) (h h' : hp) : Prop := h'.2.2 = h.2.2 ∧ (∀ k, k < 21 ∨ 25 < k → hI h' k = hI h k) ∧ (∀ k, k ≠ ρ → hJ h' k = hJ h k) ∧ ∀ j, j ≠ 9 → hI h' 21 j = hI h 21 j
theorem FrG.rf (ρ : Nat) (h : hp) : FrG ρ h h := ⟨rfl, fun _ _ => rfl, fun _ _ => rfl, fun _ _ => rfl⟩
theorem FrG.tr {ρ : Nat} {h h' h'' : hp} (a : FrG ρ h h') (b : FrG ρ h' h'') : FrG ρ h h'' := ⟨b.1.trans a.1, fun k hk => (b.2.1 k hk).trans (a.2.1 k hk), fun k hk => (b.2.2.1 k hk).trans (a.2.2.1 k hk), fun j hj => (b.2.2.2 j hj).trans (a.2.2.2 j hj)⟩
theorem Sh.to {h h' : hp} (S : Sh h) (e : h'.2.2 = h.2.2) : Sh h' := by
  unfold Sh hK hR at S ⊢
  rw [e]
  exact S
theorem ix_lt {x rw w : Nat} (hx : x < 973) (hw : w < rw) : x * rw + w < 973 * rw := by
  have : (x + 1) * rw ≤ 973 * rw := Nat.mul_le_mul_right rw (by omega)
  rw [Nat.succ_mul] at this
  omega
set_option maxHeartbeats 2000000 in
set_option maxRecDepth 10000 in
theorem sp_wordOf {d : Nat} {h : hp} (S : Sh h) {ρ n rw : Nat} {γ : gs} (G : GC h ρ n rw γ) {p w : Nat} (hp : p < 2 * gC γ) (hw : w < rw) : Run (d + 1) 55 [.ref 21, .int (nI p), .int (nI w)] h 0 0 (some (.long (lw (gW γ) p w))) h := by
  obtain ⟨⟨⟨ℓ, hRw, hℓ, hℓ1⟩, hr1, hr2, hn12⟩, ⟨e7, e8, e9, hc⟩, eLR, eCh, eNx, eRow⟩ := G
  have hix : p / 2 * rw + w < ℓ := by have := ix_lt (x := p / 2) (rw := rw) (w := w) (by omega) hw; omega
  refine Run.of (Nat.le_of_ble_eq_true rfl) (fun Q hQ => ?_)
  show Wp (Ex (d)) 55 Q 0 [(0, .ref 21), (1, .int (nI p)), (2, .int (nI w))] [] h 0 0
  refine r_aload_n (q55 (i := 0) rfl) rfl ?_
  refine r_getR (b := ρ) (q55 (i := 1) rfl) rfl (by decide) (k_21 S) (fun _ _ _ => rfl) hRw.1 ?_
  refine r_iload_n (q55 (i := 2) rfl) rfl ?_
  refine r_iconst (v := 1) (q55 (i := 3) rfl) (by decide) ?_
  refine r_ishr (q55 (i := 4) rfl) ?_
  rw [show ((nI p) >>> (1 &&& 31) : Int32) = nI (p / 2) from shr1 (by omega)]
  refine r_aload_n (q55 (i := 5) rfl) rfl ?_
  refine r_getI (x := nI rw) (q55 (i := 6) rfl) rfl (by decide) (k_21 S) (fun _ _ _ => rfl) e7 ?_
  refine r_imul (q55 (i := 7) rfl) ?_
  rw [show ((nI (p / 2)) * (nI rw) : Int32) = nI (p / 2 * rw) from pk_mul _ _]
  refine r_iload_n (q55 (i := 8) rfl) rfl ?_
  refine r_iadd (q55 (i := 9) rfl) ?_
  rw [show ((nI (p / 2 * rw)) + (nI w) : Int32) = nI (p / 2 * rw + w) from nI_add _ _]
  refine r_laN (x := gW γ (p / 2) w) (q55 (i := 10) rfl) hRw.2.1 hix (by omega) (eRow _ _ (by omega) hw) ?_
  refine r_lstore_n (ls' := [(3, .long (gW γ (p / 2) w)), (0, .ref 21), (1, .int (nI p)), (2, .int (nI w))]) (q55 (i := 11) rfl) (Nat.le_of_ble_eq_true rfl) rfl ?_
  refine r_iload_n (q55 (i := 12) rfl) rfl ?_
  refine r_iconst (v := 1) (q55 (i := 13) rfl) (by decide) ?_
  refine r_iand (q55 (i := 14) rfl) ?_
  rw [show ((nI p) &&& 1 : Int32) = nI (p % 2) from and1 (by omega)]
  refine r_if 26 (q55 (i := 15) rfl) (by decide) (fun c => ?_) (fun c => ?_)
  · have c : ¬ nI (p % 2) = 0 := c
    have c : ¬ p % 2 = 0 := fun q => c (by rw [q]; rfl)
    refine r_lload_n (q55 (i := 18) rfl) rfl ?_
    refine r_ldc2 (v := (-1)) (q55 (i := 19) rfl) rfl ?_
    refine r_lxor (q55 (i := 20) rfl) ?_
    exact r_lret (q55 (i := 21) rfl) rfl (by unfold lw at hQ; first | (rw [if_pos c] at hQ; exact hQ) | (rw [if_neg c] at hQ; exact hQ))
  · have c : ¬ (¬ nI (p % 2) = 0) := c
    have c : p % 2 = 0 := Classical.not_not.mp (fun q => c (fun z => by have := (nI_eq (a := p % 2) (b := 0) (by omega) (by decide)).mp z; exact q this))
    refine r_lload_n (q55 (i := 16) rfl) rfl ?_
    refine r_goto 31 (q55 (i := 17) rfl) (by decide) ?_
    exact r_lret (q55 (i := 21) rfl) rfl (by unfold lw at hQ; first | (rw [if_pos c] at hQ; exact hQ) | (rw [if_neg c] at hQ; exact hQ))
/-- a node more, its two chains empty -/
def nodH (h : hp) (x l r : Nat) : hp := sI (sI (sI (sI (sI (sI h 22 x (nI l)) 23 x (nI r)) 25 x 0) 24 (2 * x) 0) 24 (2 * x + 1) 0) 21 9 (nI (x + 1))
set_option maxHeartbeats 2000000 in
set_option maxRecDepth 10000 in
theorem sp_addNode {d : Nat} {h : hp} (S : Sh h) {x : Nat} (hx : hI h 21 9 = nI x) (hx1 : x < 973) (l r : Nat) : Run (d + 1) 54 [.ref 21, .int (nI l), .int (nI r)] h 0 0 none (nodH h x l r) := by
  refine Run.of (Nat.le_of_ble_eq_true rfl) (fun Q hQ => ?_)
  show Wp (Ex (d)) 54 Q 0 [(0, .ref 21), (1, .int (nI l)), (2, .int (nI r))] [] h 0 0
  refine r_aload_n (q54 (i := 0) rfl) rfl ?_
  refine r_getI (x := nI x) (q54 (i := 1) rfl) rfl (by decide) (k_21 S) (fun _ _ _ => rfl) hx ?_
  refine r_istore_n (ls' := [(3, .int (nI x)), (0, .ref 21), (1, .int (nI l)), (2, .int (nI r))]) (q54 (i := 2) rfl) (Nat.le_of_ble_eq_true rfl) rfl ?_
  refine r_aload_n (q54 (i := 3) rfl) rfl ?_
  refine r_getR (b := 22) (q54 (i := 4) rfl) rfl (by decide) (k_21 S) (fun _ _ _ => rfl) (r_21_2 S) ?_
  refine r_iload_n (q54 (i := 5) rfl) rfl ?_
  refine r_iload_n (q54 (i := 6) rfl) rfl ?_
  refine r_iasN (q54 (i := 7) rfl) (k_22 S) (by omega) (by decide) ?_
  refine r_aload_n (q54 (i := 8) rfl) rfl ?_
  refine r_getR (b := 23) (q54 (i := 9) rfl) rfl (by decide) (k_21 S) (fun _ _ _ => rfl) (r_21_3 S) ?_
  refine r_iload_n (q54 (i := 10) rfl) rfl ?_
  refine r_iload_n (q54 (i := 11) rfl) rfl ?_
  refine r_iasN (q54 (i := 12) rfl) (k_23 S) (by omega) (by decide) ?_
  refine r_aload_n (q54 (i := 13) rfl) rfl ?_
  refine r_getR (b := 25) (q54 (i := 14) rfl) rfl (by decide) (k_21 S) (fun _ _ _ => rfl) (r_21_5 S) ?_
  refine r_iload_n (q54 (i := 15) rfl) rfl ?_
  refine r_iconst (v := 0) (q54 (i := 16) rfl) (by decide) ?_
  refine r_iasN (q54 (i := 17) rfl) (k_25 S) (by omega) (by decide) ?_
  refine r_aload_n (q54 (i := 18) rfl) rfl ?_
  refine r_getR (b := 24) (q54 (i := 19) rfl) rfl (by decide) (k_21 S) (fun _ _ _ => rfl) (r_21_4 S) ?_
  refine r_iconst (v := 2) (q54 (i := 20) rfl) (by decide) ?_
  refine r_iload_n (q54 (i := 21) rfl) rfl ?_
  refine r_imul (q54 (i := 22) rfl) ?_
  rw [show (2 * (nI x) : Int32) = nI (2 * x) from pk_mul 2 x]
  refine r_iconst (v := 0) (q54 (i := 23) rfl) (by decide) ?_
  refine r_iasN (q54 (i := 24) rfl) (k_24 S) (by omega) (by decide) ?_
  refine r_aload_n (q54 (i := 25) rfl) rfl ?_
  refine r_getR (b := 24) (q54 (i := 26) rfl) rfl (by decide) (k_21 S) (fun _ _ _ => rfl) (r_21_4 S) ?_
  refine r_iconst (v := 2) (q54 (i := 27) rfl) (by decide) ?_
  refine r_iload_n (q54 (i := 28) rfl) rfl ?_
  refine r_imul (q54 (i := 29) rfl) ?_
  rw [show (2 * (nI x) : Int32) = nI (2 * x) from pk_mul 2 x]
  refine r_iconst (v := 1) (q54 (i := 30) rfl) (by decide) ?_
  refine r_iadd (q54 (i := 31) rfl) ?_
  rw [show ((nI (2 * x)) + 1 : Int32) = nI (2 * x + 1) from nI_1 _]
  refine r_iconst (v := 0) (q54 (i := 32) rfl) (by decide) ?_
  refine r_iasN (q54 (i := 33) rfl) (k_24 S) (by omega) (by decide) ?_
  refine r_aload_n (q54 (i := 34) rfl) rfl ?_
  refine r_dup (q54 (i := 35) rfl) rfl ?_
  refine r_getI (x := nI x) (q54 (i := 36) rfl) rfl (by decide) (k_21 S) (fun _ _ _ => rfl) hx ?_
  refine r_iconst (v := 1) (q54 (i := 37) rfl) (by decide) ?_
  refine r_iadd (q54 (i := 38) rfl) ?_
  rw [show ((nI x) + 1 : Int32) = nI (x + 1) from nI_1 x]
  refine r_putI (q54 (i := 39) rfl) rfl (by decide) (k_21 S) rfl rfl ?_
  exact r_vret (q54 (i := 40) rfl) rfl hQ
