/-! ===== restart, whole ===== -/
def FrB (h h' : hp) : Prop := (∀ k, k ≠ 9 → k ≠ 16 → (k < 21 ∨ 25 < k) → k < 1327 → hI h' k = hI h k) ∧ (∀ k, k < 1327 → k ≠ 26 → hJ h' k = hJ h k) ∧ (∀ k, k < 1327 → hK h' k = hK h k) ∧ (∀ k j, k < 1327 → ¬ (k = 21 ∧ j = 6) → hR h' k j = hR h k j) ∧ 1327 ≤ hN h'
theorem FrB.rf {h : hp} (hn : 1327 ≤ hN h) : FrB h h := ⟨fun _ _ _ _ _ => rfl, fun _ _ _ => rfl, fun _ _ => rfl, fun _ _ _ _ => rfl, hn⟩
theorem FrB.tr {h h' h'' : hp} (a : FrB h h') (b : FrB h' h'') : FrB h h'' := ⟨fun k x y z v => (b.1 k x y z v).trans (a.1 k x y z v), fun k x y => (b.2.1 k x y).trans (a.2.1 k x y), fun k x => (b.2.2.1 k x).trans (a.2.2.1 k x), fun k i x y => (b.2.2.2.1 k i x y).trans (a.2.2.2.1 k i x y), b.2.2.2.2⟩
theorem FrB.S {h h' : hp} (a : FrB h h') (S : Sh h) : Sh h' := ⟨fun k x y => (a.2.2.1 k y).trans (S.1 k x y), fun k j x y z => (a.2.2.2.1 k j y z).trans (S.2 k j x y z)⟩
theorem FrB.P {h h' : hp} (a : FrB h h') (P : Pt h) : Pt h' := ⟨(a.2.2.1 1 (by decide)).trans P.1, (a.2.1 1 (by decide) (by decide)).trans P.2⟩
theorem FrG.B {ρ : Nat} {h h' : hp} (a : FrG ρ h h') (hρ : ρ = 26 ∨ 1327 ≤ ρ) (hn : 1327 ≤ hN h) : FrB h h' := by
  refine ⟨fun k _ _ z _ => a.2.1 k z, fun k x y => a.2.2.1 k (by omega), fun k _ => ?_, fun k i _ _ => ?_, ?_⟩
  · unfold hK; rw [a.1]
  · unfold hR; rw [a.1]
  · unfold hN; rw [a.1]; exact hn
theorem pow6 : ∀ k, k ≤ 6 → 1 ≤ 2 ^ k ∧ 2 ^ k ≤ 64 := by decide
theorem pow_le {a b : Nat} (h : a ≤ b) : 2 ^ a ≤ 2 ^ b := Nat.pow_le_pow_right (by decide) h
set_option maxHeartbeats 2000000 in
set_option maxRecDepth 10000 in
theorem rs_0 {d : Nat} {h : hp} (S : Sh h) (P : Pt h) {ρ e n : Nat} (hRw : Rw h ρ (973 * 2 ^ e)) (he : e ≤ 6) (hn : n ≤ 12) (hNN : 1327 ≤ hN h) {Q : resP} {bc bs : Nat} (hk : Wp (Ex (d + 2)) 45 Q 25 [(0, .ref 21), (1, .int (nI n))] [] (sI (sI h 21 8 (nI n)) 21 7 (nI (2 ^ (n - 6)))) bc bs) : Wp (Ex (d + 2)) 45 Q 0 [(0, .ref 21), (1, .int (nI n))] [] h bc bs := by
  refine r_aload_n (q45 (i := 0) rfl) rfl ?_
  refine r_iload_n (q45 (i := 1) rfl) rfl ?_
  refine r_putI (q45 (i := 2) rfl) rfl (by decide) (k_21 S) rfl rfl ?_
  refine r_aload_n (q45 (i := 3) rfl) rfl ?_
  refine r_iload_n (q45 (i := 4) rfl) rfl ?_
  refine r_bipush (v := 6) (q45 (i := 5) rfl) (by decide) ?_
  refine r_icmp 16 (q45 (i := 6) rfl) (by decide) (fun c9 => ?_) (fun c9 => ?_)
  · have c9 : 6 < nI n := c9
    have c9 : 6 < n := (nI_ltI (a := 6) (by decide) (by omega)).mp c9
    refine r_iconst (v := 1) (q45 (i := 9) rfl) (by decide) ?_
    refine r_iload_n (q45 (i := 10) rfl) rfl ?_
    refine r_bipush (v := 6) (q45 (i := 11) rfl) (by decide) ?_
    refine r_isub (q45 (i := 12) rfl) ?_
    rw [show ((nI n) - 6 : Int32) = nI (n - 6) from pk_sub (b := 6) (by omega)]
    refine r_ishl (q45 (i := 13) rfl) ?_
    rw [show (1 <<< ((nI (n - 6)) &&& 31) : Int32) = nI (2 ^ (n - 6)) from (by have := pk_shlN (n := 1) (nI (n - 6) &&& 31) (n - 6) (sh31 _ (by omega)) (by have := (pow6 (n - 6) (by omega)).2; omega); rw [Nat.one_mul] at this; exact this)]
    refine r_putI (q45 (i := 14) rfl) rfl (by decide) (k_21 S) rfl rfl ?_
    exact hk
  · have c9 : ¬ (6 < nI n) := c9
    have c9 : n ≤ 6 := by
        rcases Nat.lt_or_ge 6 n with q | q
        · exact absurd (nI_lt (a := 6) q (by omega)) c9
        · exact q
    refine r_iconst (v := nI (2 ^ (n - 6))) (q45 (i := 7) rfl) (by rw [show n - 6 = 0 by omega]; decide) ?_
    refine r_goto 22 (q45 (i := 8) rfl) (by decide) ?_
    refine r_putI (q45 (i := 14) rfl) rfl (by decide) (k_21 S) rfl rfl ?_
    exact hk
set_option maxHeartbeats 2000000 in
set_option maxRecDepth 10000 in
theorem sp_restart {d : Nat} {h : hp} (S : Sh h) (P : Pt h) {ρ e n : Nat} (hRw : Rw h ρ (973 * 2 ^ e)) (he : e ≤ 6) (hn : n ≤ 12) (hNN : 1327 ≤ hN h) : ∃ h' ρ' e' mc ms, Run (d + 2 + 1) 45 [.ref 21, .int (nI n)] h mc ms none h' ∧ (GC h' ρ' n (2 ^ (n - 6)) (gini (n + 1)) ∧ Rw h' ρ' (973 * 2 ^ e') ∧ e' ≤ 6 ∧ e ≤ e' ∧ mc ≤ e' - e ∧ ms ≤ 62272 * (e' - e)) ∧ FrB h h' ∧ (hI h' 21 10 = 0 ∧ hI h' 21 11 = 0 ∧ hI h' 21 12 = 0) ∧ ∀ v, v < n → hI h' 9 v = nI (2 * (v + 1)) ∧ hI h' 16 v = nI (2 * (v + 1)) := by
  obtain ⟨p1, p2⟩ := pow6 (n - 6) (by omega)
  obtain ⟨p3, p4⟩ := pow6 e he
  by_cases hg : n - 6 ≤ e
  · have hle := pow_le hg
    obtain ⟨h', ⟨G, f1, f2, f3, f4, f5⟩, hk⟩ := rs_55 (d := d) (h := (sI (sI h 21 8 (nI n)) 21 7 (nI (2 ^ (n - 6))))) (ρ := ρ) (ℓ := 973 * 2 ^ e) (n := n) (rw := 2 ^ (n - 6)) (Sh.to S rfl) (P.to rfl rfl) hRw (by omega) (by omega) p1 p2 hn rfl rfl
    have hρ := hRw.2.2
    refine ⟨h', ρ, e, 0, 0, ?_, ⟨G, ?_, he, Nat.le_refl e, Nat.zero_le _, Nat.zero_le _⟩, ⟨fun k a b c q => ?_, fun k a b => ?_, fun k a => ?_, fun k i a b => ?_, ?_⟩, f4, f5⟩
    · refine Run.of (Nat.le_of_ble_eq_true rfl) (fun Q hQ => ?_)
      refine rs_0 S P hRw he hn hNN ?_
      refine r_aload_n (q45 (i := 15) rfl) rfl ?_
      refine r_getR (b := ρ) (q45 (i := 16) rfl) rfl (by decide) (k_21 S) (fun _ _ _ => rfl) hRw.1 ?_
      refine r_alen (q45 (i := 17) rfl) hRw.2.1 (by decide) (by decide) ?_
      refine r_sipush (v := 973) (q45 (i := 18) rfl) (by decide) ?_
      refine r_aload_n (q45 (i := 19) rfl) rfl ?_
      refine r_getI (x := nI (2 ^ (n - 6))) (q45 (i := 20) rfl) rfl (by decide) (k_21 S) (fun _ _ _ => rfl) rfl ?_
      refine r_imul (q45 (i := 21) rfl) ?_
      rw [show (973 * (nI (2 ^ (n - 6))) : Int32) = nI (973 * 2 ^ (n - 6)) from pk_mul 973 _]
      refine r_icmp 55 (q45 (i := 22) rfl) (by decide) (fun _ => ?_) (fun c => absurd (show nI (973 * 2 ^ (n - 6)) ≤ Int32.ofNat (973 * 2 ^ e) from nI_le (by omega) (by omega)) c)
      exact hk Q hQ _ _
    · have : h'.2.2 = h.2.2 := f1
      unfold Rw hK hR at hRw ⊢
      rw [this]
      exact hRw
    · refine (f2 k a b c).trans ?_
      show u2 (u2 h.1 21 8 _) 21 7 _ k = _
      rw [u2_n (by omega), u2_n (by omega)]
    · exact f3 k (by omega)
    · unfold hK; rw [f1]; rfl
    · unfold hR; rw [f1]; rfl
    · unfold hN; rw [f1]; exact hNN
  · have hlt : e < n - 6 := by omega
    have hle := pow_le (show e + 1 ≤ n - 6 by omega)
    rw [Nat.pow_succ] at hle
    obtain ⟨hZ, hZe⟩ : ∃ hZ, hZ = sR (hnew (sI (sI h 21 8 (nI n)) 21 7 (nI (2 ^ (n - 6)))) 2 (973 * 2 ^ (n - 6))) 21 6 (some (hN h)) := ⟨_, rfl⟩
    have zK : ∀ k, k < 1327 → hK hZ k = hK h k := fun k hk => by rw [hZe]; exact u1_n (f := hK h) (show k ≠ hN h by omega)
    have zR : ∀ k j, k < 1327 → ¬ (k = 21 ∧ j = 6) → hR hZ k j = hR h k j := fun k j hk hj => by
      rw [hZe]
      show u2 (u1 (hR h) (hN h) (fun _ => none)) 21 6 (some (hN h)) k j = _
      have e1 : u1 (hR h) (hN h) (fun _ => none) k = hR h k := u1_n (by omega)
      by_cases q : k = 21
      · subst q
        rw [u2_s, u1_n (by omega), e1]
      · rw [u2_n q, e1]
    have zI : ∀ k, k ≠ 21 → k < 1327 → hI hZ k = hI h k := fun k a b => by
      rw [hZe]
      show u1 (u2 (u2 h.1 21 8 _) 21 7 _) (hN h) (fun _ => 0) k = _
      rw [u1_n (by omega), u2_n a, u2_n a]
    have zJ : ∀ k, k < 1327 → hJ hZ k = hJ h k := fun k a => by
      rw [hZe]
      show u1 (hJ h) (hN h) (fun _ => 0) k = _
      exact u1_n (by omega)
    have SZ : Sh hZ := ⟨fun k a b => (zK k b).trans (S.1 k a b), fun k i a b c => (zR k i b c).trans (S.2 k i a b c)⟩
    have PZ : Pt hZ := ⟨(zK 1 (by decide)).trans P.1, (zJ 1 (by decide)).trans P.2⟩
    have RZ : Rw hZ (hN h) (973 * 2 ^ (n - 6)) := by
      rw [hZe]
      refine ⟨?_, u1_s, Or.inr hNN⟩
      show u2 (u1 (hR h) (hN h) (fun _ => none)) 21 6 (some (hN h)) 21 6 = _
      rw [u2_s, u1_s]
    have z7 : hI hZ 21 7 = nI (2 ^ (n - 6)) := by
      rw [hZe]
      show u1 (u2 (u2 h.1 21 8 _) 21 7 _) (hN h) (fun _ => 0) 21 7 = _
      rw [u1_n (by omega)]
      rfl
    have z8 : hI hZ 21 8 = nI n := by
      rw [hZe]
      show u1 (u2 (u2 h.1 21 8 _) 21 7 _) (hN h) (fun _ => 0) 21 8 = _
      rw [u1_n (by omega)]
      rfl
    obtain ⟨h', ⟨G, f1, f2, f3, f4, f5⟩, hk⟩ := rs_55 (d := d) (h := hZ) (ρ := hN h) (ℓ := 973 * 2 ^ (n - 6)) (n := n) (rw := 2 ^ (n - 6)) SZ PZ RZ (by omega) (by omega) p1 p2 hn z7 z8
    refine ⟨h', hN h, n - 6, 1, 973 * 2 ^ (n - 6), ?_, ⟨G, ?_, by omega, by omega, by omega, ?_⟩, ⟨fun k a b c q => ?_, fun k a b => ?_, fun k a => ?_, fun k i a b => ?_, ?_⟩, f4, f5⟩
    · refine Run.of (Nat.le_of_ble_eq_true rfl) (fun Q hQ => ?_)
      refine rs_0 S P hRw he hn hNN ?_
      refine r_aload_n (q45 (i := 15) rfl) rfl ?_
      refine r_getR (b := ρ) (q45 (i := 16) rfl) rfl (by decide) (k_21 S) (fun _ _ _ => rfl) hRw.1 ?_
      refine r_alen (q45 (i := 17) rfl) hRw.2.1 (by decide) (by decide) ?_
      refine r_sipush (v := 973) (q45 (i := 18) rfl) (by decide) ?_
      refine r_aload_n (q45 (i := 19) rfl) rfl ?_
      refine r_getI (x := nI (2 ^ (n - 6))) (q45 (i := 20) rfl) rfl (by decide) (k_21 S) (fun _ _ _ => rfl) rfl ?_
      refine r_imul (q45 (i := 21) rfl) ?_
      rw [show (973 * (nI (2 ^ (n - 6))) : Int32) = nI (973 * 2 ^ (n - 6)) from pk_mul 973 _]
      refine r_icmp 55 (q45 (i := 22) rfl) (by decide) (fun c => absurd c (show ¬ (nI (973 * 2 ^ (n - 6)) ≤ Int32.ofNat (973 * 2 ^ e)) from nI_ge (by omega) (by omega))) (fun _ => ?_)
      refine r_aload_n (q45 (i := 23) rfl) rfl ?_
      refine r_sipush (v := 973) (q45 (i := 24) rfl) (by decide) ?_
      refine r_aload_n (q45 (i := 25) rfl) rfl ?_
      refine r_getI (x := nI (2 ^ (n - 6))) (q45 (i := 26) rfl) rfl (by decide) (k_21 S) (fun _ _ _ => rfl) rfl ?_
      refine r_imul (q45 (i := 27) rfl) ?_
      rw [show (973 * (nI (2 ^ (n - 6))) : Int32) = nI (973 * 2 ^ (n - 6)) from pk_mul 973 _]
      refine r_newa (n := 973 * 2 ^ (n - 6)) (q45 (i := 28) rfl) (by decide) (by decide) (nI_pos (by omega)) (nI_clamp (by omega)) (by omega) (Nat.le_refl 1) (Nat.le_refl _) ?_
      refine r_putR (q45 (i := 29) rfl) rfl (by decide) (show hK (hnew (sI (sI h 21 8 (nI n)) 21 7 (nI (2 ^ (n - 6)))) 2 (973 * 2 ^ (n - 6))) 21 = (0, 3) from (u1_n (f := hK h) (show 21 ≠ hN h by omega)).trans (k_21 S)) (Or.inl rfl) (Or.inr ⟨_, rfl⟩) ?_
      have := hk Q hQ 0 0
      rw [hZe] at this
      rw [Nat.sub_self, Nat.sub_self]
      exact this
    · have : h'.2.2 = hZ.2.2 := f1
      unfold Rw hK hR at RZ ⊢
      rw [this]
      exact RZ
    · have hp6 : 2 ^ (n - 6) ≤ 64 * (n - 6 - e) := Nat.le_trans p2 (by omega)
      omega
    · exact (f2 k a b c).trans (zI k (by omega) q)
    · exact (f3 k (by omega)).trans (zJ k a)
    · have := zK k a
      unfold hK at this ⊢; rw [f1]; exact this
    · have := zR k i a b
      unfold hR at this ⊢; rw [f1]; exact this
    · unfold hN; rw [f1, hZe]; show 1327 ≤ h.2.2.2.2 + 1; unfold hN at hNN; omega
