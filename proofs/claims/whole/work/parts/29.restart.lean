/-! ===== restart ===== -/
def litI (f : Nat → Int32) (i : Nat) : Nat → Int32 := fun q => if q < i then nI (2 * (q + 1)) else f q
theorem litI_s (f : Nat → Int32) (i : Nat) : u1 (litI f i) i (nI (2 * (i + 1))) = litI f (i + 1) := by
  funext q
  unfold u1 litI
  by_cases e : q = i
  · rw [if_pos e, if_pos (by omega), e]
  · rw [if_neg e]
    by_cases e2 : q < i
    · rw [if_pos e2, if_pos (by omega)]
    · rw [if_neg e2, if_neg (by omega)]
theorem litI_0 (f : Nat → Int32) : litI f 0 = f := by
  funext q
  exact if_neg (Nat.not_lt_zero q)
def FrL (ρ : Nat) (h h' : hp) : Prop := h'.2.2 = h.2.2 ∧ (∀ k, k ≠ 9 → k ≠ 16 → (k < 21 ∨ 25 < k) → hI h' k = hI h k) ∧ (∀ k, k ≠ ρ → hJ h' k = hJ h k) ∧ ∀ j, j ≠ 9 → hI h' 21 j = hI h 21 j
theorem FrG.L {ρ : Nat} {h h' : hp} (a : FrG ρ h h') : FrL ρ h h' := ⟨a.1, fun k _ _ hk => a.2.1 k hk, a.2.2.1, a.2.2.2⟩
theorem FrL.tr {ρ : Nat} {h h' h'' : hp} (a : FrL ρ h h') (b : FrL ρ h' h'') : FrL ρ h h'' := ⟨b.1.trans a.1, fun k x y hk => (b.2.1 k x y hk).trans (a.2.1 k x y hk), fun k hk => (b.2.2.1 k hk).trans (a.2.2.1 k hk), fun j hj => (b.2.2.2 j hj).trans (a.2.2.2 j hj)⟩
theorem FrL.lits (ρ : Nat) (h : hp) (i : Nat) (x y : Int32) : FrL ρ h (sI (sI h 9 i x) 16 i y) := by
  refine ⟨rfl, fun k a b c => ?_, fun k hk => rfl, fun j hj => rfl⟩
  show u2 (u2 h.1 9 i x) 16 i y k = _
  rw [u2_n b, u2_n a]
theorem Pt.to {h h' : hp} (P : Pt h) (e : h'.2.2 = h.2.2) (ej : hJ h' 1 = hJ h 1) : Pt h' := by
  refine ⟨?_, ej.trans P.2⟩
  have : hK h' 1 = hK h 1 := by unfold hK; rw [e]
  exact this.trans P.1
set_option maxHeartbeats 2000000 in
set_option maxRecDepth 10000 in
theorem lp_restart {d : Nat} {hB : hp} {ρ n rw : Nat} (hρ1 : ρ ≠ 1) (hn : n ≤ 12) : ∀ (k i : Nat) (h : hp), i + k = n → Sh h → Pt h → GC h ρ n rw (gini (i + 1)) → FrL ρ hB h → hI h 9 = litI (hI hB 9) i → hI h 16 = litI (hI hB 16) i →
    ∃ h', (GC h' ρ n rw (gini (n + 1)) ∧ FrL ρ hB h' ∧ hI h' 9 = litI (hI hB 9) n ∧ hI h' 16 = litI (hI hB 16) n) ∧ ∀ (Q : resP), (∀ bc bs (ls : List (Nat × Value)), ls.lookup 0 = some (.ref 21) → Wp (Ex (d + 2)) 45 Q 120 ls [] h' bc bs) → ∀ (bc bs : Nat) (ls : List (Nat × Value)), ls.lookup 2 = some (.int (nI i)) → ls.lookup 0 = some (.ref 21) → ls.lookup 1 = some (.int (nI n)) → Wp (Ex (d + 2)) 45 Q 76 ls [] h bc bs := by
  intro k
  induction k with
  | zero =>
    intro i h hi S P G F e1 e2
    have e : i = n := by omega
    subst e
    refine ⟨h, ⟨G, F, e1, e2⟩, ?_⟩
    intro Q hQ bc bs ls l2 l0 l1
    refine r_iload_n (q45 (i := 43) rfl) l2 ?_
    refine r_iload_n (q45 (i := 44) rfl) l1 ?_
    refine r_icmp 120 (q45 (i := 45) rfl) (by decide) (fun _ => ?_) (fun c => absurd (show nI i ≤ nI i from Int32.le_refl _) c)
    exact hQ bc bs ls l0
  | succ k ih =>
    intro i h hi S P G F e1 e2
    have R1 := sp_makeInput (d := d) S G P rfl (show i < n by omega) hρ1
    obtain ⟨G1, F1⟩ := ini_ok G (by omega)
    generalize hh1 : nodH (rJ h ρ (rowF (hJ h ρ) ((i + 1) * rw) (T0 (i + 1)) rw)) (i + 1) 0 0 = h1 at R1 G1 F1
    clear hh1
    have S1 := S.to F1.1
    have P1 := P.to F1.1 (F1.2.2.1 1 (Ne.symm hρ1))
    have a1 : hI h1 9 = litI (hI hB 9) i := (F1.2.1 9 (by decide)).trans e1
    have a2 : hI h1 16 = litI (hI hB 16) i := (F1.2.1 16 (by decide)).trans e2
    obtain ⟨h', hp', hk'⟩ := ih (i + 1) (sI (sI h1 9 i (nI (2 * (i + 1)))) 16 i (nI (2 * (i + 1)))) (by omega) (Sh.to S1 rfl) (P1.to rfl rfl) G1 ((F.tr F1.L).tr (FrL.lits ρ h1 i _ _))
      (by show u1 (hI h1 9) i _ = _; rw [a1, litI_s]) (by show u1 (hI h1 16) i _ = _; rw [a2, litI_s])
    refine ⟨h', hp', ?_⟩
    intro Q hQ bc bs ls l2 l0 l1
    refine r_iload_n (q45 (i := 43) rfl) l2 ?_
    refine r_iload_n (q45 (i := 44) rfl) l1 ?_
    refine r_icmp 120 (q45 (i := 45) rfl) (by decide) (fun c => absurd c (show ¬ (nI n ≤ nI i) from nI_ge (by omega) (by omega))) (fun _ => ?_)
    refine r_aload_n (q45 (i := 46) rfl) l0 ?_
    refine r_iload_n (q45 (i := 47) rfl) l2 ?_
    refine r_cV (d := _) (q45 (i := 48) rfl) rfl rfl rfl (k_21 S) (Nat.le_of_ble_eq_true rfl) (Nat.zero_le _) (Nat.zero_le _) R1 ?_
    show Wp _ _ _ 86 ls [] h1 _ _
    refine r_aload_n (q45 (i := 49) rfl) l0 ?_
    refine r_getR (b := 3) (q45 (i := 50) rfl) rfl (by decide) (k_21 S1) (fun _ _ _ => rfl) (r_21_0 S1) ?_
    refine r_getR (b := 9) (q45 (i := 51) rfl) rfl (by decide) (k_3 S1) (fun _ _ _ => rfl) (r_3_5 S1) ?_
    refine r_iload_n (q45 (i := 52) rfl) l2 ?_
    refine r_iconst (v := 2) (q45 (i := 53) rfl) (by decide) ?_
    refine r_iload_n (q45 (i := 54) rfl) l2 ?_
    refine r_iconst (v := 1) (q45 (i := 55) rfl) (by decide) ?_
    refine r_iadd (q45 (i := 56) rfl) ?_
    rw [show ((nI i) + 1 : Int32) = nI (i + 1) from nI_1 i]
    refine r_imul (q45 (i := 57) rfl) ?_
    rw [show (2 * (nI (i + 1)) : Int32) = nI (2 * (i + 1)) from pk_mul 2 _]
    refine r_iasN (q45 (i := 58) rfl) (k_9 S1) (by omega) (by decide) ?_
    refine r_aload_n (q45 (i := 59) rfl) l0 ?_
    refine r_getR (b := 10) (q45 (i := 60) rfl) rfl (by decide) (k_21 S1) (fun _ _ _ => rfl) (r_21_1 S1) ?_
    refine r_getR (b := 16) (q45 (i := 61) rfl) rfl (by decide) (k_10 S1) (fun _ _ _ => rfl) (r_10_5 S1) ?_
    refine r_iload_n (q45 (i := 62) rfl) l2 ?_
    refine r_iconst (v := 2) (q45 (i := 63) rfl) (by decide) ?_
    refine r_iload_n (q45 (i := 64) rfl) l2 ?_
    refine r_iconst (v := 1) (q45 (i := 65) rfl) (by decide) ?_
    refine r_iadd (q45 (i := 66) rfl) ?_
    rw [show ((nI i) + 1 : Int32) = nI (i + 1) from nI_1 i]
    refine r_imul (q45 (i := 67) rfl) ?_
    rw [show (2 * (nI (i + 1)) : Int32) = nI (2 * (i + 1)) from pk_mul 2 _]
    refine r_iasN (q45 (i := 68) rfl) (k_16 S1) (by omega) (by decide) ?_
    refine r_iinc (y := nI (i + 1)) (q45 (i := 69) rfl) (Nat.le_of_ble_eq_true rfl) l2 (nI_1 i) rfl ?_
    have l0 := lk1 (k := 2) (v := .int (nI (i + 1))) l0 (by decide) (Or.inr (by decide))
    have l1 := lk1 (k := 2) (v := .int (nI (i + 1))) l1 (by decide) (Or.inl rfl)
    have l2 := lk0 ls 2 (.int (nI (i + 1)))
    generalize lset1 ls 2 (.int (nI (i + 1))) = ls at l2 l0 l1 ⊢
    refine r_goto 76 (q45 (i := 70) rfl) (by decide) ?_
    exact hk' Q hQ bc bs ls l2 l0 l1
set_option maxHeartbeats 2000000 in
set_option maxRecDepth 10000 in
theorem rs_55 {d : Nat} {h : hp} (S : Sh h) (P : Pt h) {ρ ℓ n rw : Nat} (hRw : Rw h ρ ℓ) (hℓ : 973 * rw ≤ ℓ) (hℓ1 : ℓ < 100000) (hr1 : 1 ≤ rw) (hr2 : rw ≤ 64) (hn : n ≤ 12) (e7 : hI h 21 7 = nI rw) (e8 : hI h 21 8 = nI n) :
    ∃ h', (GC h' ρ n rw (gini (n + 1)) ∧ h'.2.2 = h.2.2 ∧ (∀ k, k ≠ 9 → k ≠ 16 → (k < 21 ∨ 25 < k) → hI h' k = hI h k) ∧ (∀ k, k ≠ ρ → hJ h' k = hJ h k) ∧ (hI h' 21 10 = 0 ∧ hI h' 21 11 = 0 ∧ hI h' 21 12 = 0) ∧ ∀ v, v < n → hI h' 9 v = nI (2 * (v + 1)) ∧ hI h' 16 v = nI (2 * (v + 1))) ∧
      ∀ (Q : resP), Q none h' → ∀ bc bs, Wp (Ex (d + 2)) 45 Q 55 [(0, .ref 21), (1, .int (nI n))] [] h bc bs := by
  have hρ1 : ρ ≠ 1 := by rcases hRw.2.2 with q | q <;> omega
  have GB : GC (sI (sI (sI h 21 9 0) 21 10 0) 21 11 0) ρ n rw (gini 0) := ⟨⟨⟨ℓ, hRw, hℓ, hℓ1⟩, hr1, hr2, hn⟩, ⟨e7, e8, rfl, Nat.zero_le _⟩, fun k hk => absurd hk (Nat.not_lt_zero k), fun p hp => absurd hp (Nat.not_lt_zero p), fun k _ hk => absurd hk (Nat.not_lt_zero k), fun x w hx => absurd hx (Nat.not_lt_zero x)⟩
  generalize hBe : sI (sI (sI h 21 9 0) 21 10 0) 21 11 0 = hB at GB
  have SB : Sh hB := by rw [← hBe]; exact Sh.to S rfl
  have PB : Pt hB := by rw [← hBe]; exact P.to rfl rfl
  have R1 := sp_makeFalse (d := d) SB GB
  obtain ⟨G1, F1⟩ := ini_ok GB (Nat.zero_le n)
  generalize nodH (rJ hB ρ (rowF (hJ hB ρ) (0 * rw) (T0 0) rw)) 0 0 0 = h1 at R1 G1 F1
  have S1 := SB.to F1.1
  have P1 := PB.to F1.1 (F1.2.2.1 1 (Ne.symm hρ1))
  obtain ⟨h2, ⟨G2, F2, b1, b2⟩, hk⟩ := lp_restart (d := d) (hB := h1) (n := n) (rw := rw) hρ1 hn n 0 h1 (by omega) S1 P1 G1 (FrG.rf ρ h1).L (by rw [litI_0]) (by rw [litI_0])
  have F3 := F1.L.tr F2
  have S2 := SB.to F3.1
  refine ⟨sI h2 21 12 0, ⟨G2, ?_, fun k a b c => ?_, fun k hkρ => ?_, ⟨?_, ?_, rfl⟩, fun v hv => ⟨?_, ?_⟩⟩, ?_⟩
  · show h2.2.2 = h.2.2
    rw [F3.1, ← hBe]
    rfl
  · show u2 h2.1 21 12 0 k = _
    rw [u2_n (by omega)]
    refine (F3.2.1 k a b c).trans ?_
    rw [← hBe]
    show u2 (u2 (u2 h.1 21 9 0) 21 10 0) 21 11 0 k = _
    rw [u2_n (by omega), u2_n (by omega), u2_n (by omega)]
  · show hJ h2 k = _
    rw [F3.2.2.1 k hkρ, ← hBe]
    rfl
  · show u1 (hI h2 21) 12 0 10 = 0
    rw [u1_n (by decide), F3.2.2.2 10 (by decide), ← hBe]
    rfl
  · show u1 (hI h2 21) 12 0 11 = 0
    rw [u1_n (by decide), F3.2.2.2 11 (by decide), ← hBe]
    rfl
  · show hI h2 9 v = _
    rw [b1]
    exact if_pos hv
  · show hI h2 16 v = _
    rw [b2]
    exact if_pos hv
  · intro Q hQ bc bs
    refine r_aload_n (q45 (i := 30) rfl) rfl ?_
    refine r_iconst (v := 0) (q45 (i := 31) rfl) (by decide) ?_
    refine r_putI (q45 (i := 32) rfl) rfl (by decide) (k_21 S) rfl rfl ?_
    refine r_aload_n (q45 (i := 33) rfl) rfl ?_
    refine r_iconst (v := 0) (q45 (i := 34) rfl) (by decide) ?_
    refine r_putI (q45 (i := 35) rfl) rfl (by decide) (k_21 S) rfl rfl ?_
    refine r_aload_n (q45 (i := 36) rfl) rfl ?_
    refine r_iconst (v := 0) (q45 (i := 37) rfl) (by decide) ?_
    refine r_putI (q45 (i := 38) rfl) rfl (by decide) (k_21 S) rfl rfl ?_
    rw [hBe]
    refine r_aload_n (q45 (i := 39) rfl) rfl ?_
    refine r_cV (d := _) (q45 (i := 40) rfl) rfl rfl rfl (k_21 SB) (Nat.le_of_ble_eq_true rfl) (Nat.zero_le _) (Nat.zero_le _) R1 ?_
    show Wp _ _ _ 74 [(0, .ref 21), (1, .int (nI n))] [] h1 _ _
    refine r_iconst (v := 0) (q45 (i := 41) rfl) (by decide) ?_
    refine r_istore_n (ls' := [(2, .int 0), (0, .ref 21), (1, .int (nI n))]) (q45 (i := 42) rfl) (Nat.le_of_ble_eq_true rfl) rfl ?_
    exact hk Q (fun bc bs ls l0 => by
        refine r_aload_n (q45 (i := 71) rfl) l0 ?_
        refine r_iconst (v := 0) (q45 (i := 72) rfl) (by decide) ?_
        refine r_putZ (q45 (i := 73) rfl) rfl (by decide) (k_21 S2) rfl rfl (by decide) ?_
        exact r_vret (q45 (i := 74) rfl) rfl hQ) bc bs _ rfl rfl rfl
