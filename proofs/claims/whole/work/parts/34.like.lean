/-! ===== SIGNS: the same, contrary, neither ===== -/
def dV (T : Nat → Nat → Int64) (V : Nat → Int64) (x y w : Nat) : Int64 := (T x w ^^^ T y w) &&& V w
noncomputable def lik (T : Nat → Nat → Int64) (V : Nat → Int64) (x y : Nat) : Int32 := @ite Int32 (∀ w, w < 64 → dV T V x y w = 0) (Classical.propDecidable _) 1 (@ite Int32 (∀ w, w < 64 → dV T V x y w = V w) (Classical.propDecidable _) 2 0)
/-- the VECTORS' set, as bits, and which words of it are used -/
def VS (h : hp) (rw u : Nat) : Prop := hI h 17 3 = nI u ∧ u ≤ 64 ∧ (∀ k, k < u → ∃ w, w < rw ∧ hI h 20 k = nI w) ∧ (∀ w, w < 64 → hJ h 19 w ≠ 0 → ∃ k, k < u ∧ hI h 20 k = nI w)
set_option maxHeartbeats 2000000 in
set_option maxRecDepth 10000 in
theorem lp_lik {d : Nat} {h : hp} (S : Sh h) {ρ n rw u : Nat} {γ : gs} (G : GC h ρ n rw γ) (V : VS h rw u) {x y : Nat} (hx : x < gC γ) (hy : y < gC γ) {Q : resP} (hQ : Q (some (.int (lik (gW γ) (hJ h 19) x y))) h) {bc bs : Nat} : ∀ (m k : Nat), k + m = u → ∀ (a b : Int32), ((a = 1 ∧ ∀ i w, i < k → hI h 20 i = nI w → w < 64 → dV (gW γ) (hJ h 19) x y w = 0) ∨ (a = 0 ∧ ∃ w, w < 64 ∧ dV (gW γ) (hJ h 19) x y w ≠ 0)) → ((b = 1 ∧ ∀ i w, i < k → hI h 20 i = nI w → w < 64 → dV (gW γ) (hJ h 19) x y w = hJ h 19 w) ∨ (b = 0 ∧ ∃ w, w < 64 ∧ dV (gW γ) (hJ h 19) x y w ≠ hJ h 19 w)) → ¬ (a = 0 ∧ b = 0) → ∀ ls : List (Nat × Value), ls.lookup 6 = some (.int (nI k)) → ls.lookup 4 = some (.int a) → ls.lookup 5 = some (.int b) → ls.lookup 0 = some (.ref 21) → ls.lookup 1 = some (.int (nI x)) → ls.lookup 2 = some (.int (nI y)) → ls.lookup 3 = some (.ref 17) → Wp (Ex d) 44 Q 9 ls [] h bc bs := by
  obtain ⟨v3, vu, vw, vc⟩ := V
  obtain ⟨⟨⟨ℓ, hRw, hℓ, hℓ1⟩, hr1, hr2, hn12⟩, ⟨e7, e8, e9, hc⟩, eLR, eCh, eNx, eRow⟩ := G
  intro m
  induction m with
  | zero =>
    intro k hk a b fa fb hab ls l6 l4 l5 l0 l1 l2 l3
    have e : k = u := by omega
    subst e
    have vz : ∀ w, hJ h 19 w = 0 → dV (gW γ) (hJ h 19) x y w = 0 := fun w hw => by
      unfold dV
      rw [hw]
      apply b64_ext
      intro i _
      rw [b64_and, b64_0, Bool.and_false]
    refine r_iload (q44 (i := 6) rfl) l6 ?_
    refine r_aload_n (q44 (i := 7) rfl) l3 ?_
    refine r_getI (x := nI k) (q44 (i := 8) rfl) rfl (by decide) (k_17 S) (fun _ _ _ => rfl) v3 ?_
    refine r_icmp 127 (q44 (i := 9) rfl) (by decide) (fun _ => ?_) (fun c => absurd (show nI k ≤ nI k from Int32.le_refl _) c)
    refine r_iload (q44 (i := 70) rfl) l4 ?_
    refine r_if 136 (q44 (i := 71) rfl) (by decide) (fun c => ?_) (fun c => ?_)
    · have c : a = 0 := c
      obtain ⟨-, w0, hw0, hw1⟩ := fa.resolve_left (fun z => by rw [z.1] at c; exact absurd c (by decide))
      obtain ⟨-, cb⟩ := fb.resolve_right (fun z => hab ⟨c, z.1⟩)
      have hl : lik (gW γ) (hJ h 19) x y = 2 := by
        unfold lik
        rw [if_neg (fun z => hw1 (z w0 hw0)), if_pos (fun w hw => by
          by_cases z : hJ h 19 w = 0
          · rw [vz w z, z]
          · obtain ⟨i, hi, he⟩ := vc w hw z
            exact cb i w hi he hw)]
      rw [hl] at hQ
      refine r_iconst (v := 2) (q44 (i := 74) rfl) (by decide) ?_
      exact r_iret (q44 (i := 75) rfl) rfl hQ
    · have c : ¬ (a = 0) := c
      obtain ⟨-, ca⟩ := fa.resolve_right (fun z => c z.1)
      have hl : lik (gW γ) (hJ h 19) x y = 1 := by
        unfold lik
        rw [if_pos (fun w hw => by
          by_cases z : hJ h 19 w = 0
          · exact vz w z
          · obtain ⟨i, hi, he⟩ := vc w hw z
            exact ca i w hi he hw)]
      rw [hl] at hQ
      refine r_iconst (v := 1) (q44 (i := 72) rfl) (by decide) ?_
      refine r_goto 137 (q44 (i := 73) rfl) (by decide) ?_
      exact r_iret (q44 (i := 75) rfl) rfl hQ
  | succ m ih =>
    intro k hk a b fa fb hab ls l6 l4 l5 l0 l1 l2 l3
    obtain ⟨w, hw, ew⟩ := vw k (by omega)
    have hix : x * rw + w < ℓ := by have := ix_lt (x := x) (rw := rw) (w := w) (by omega) hw; omega
    have hiy : y * rw + w < ℓ := by have := ix_lt (x := y) (rw := rw) (w := w) (by omega) hw; omega
    have uniq : ∀ z, z < 64 → hI h 20 k = nI z → z = w := fun z hz he => (nI_eq (by omega) (by omega)).mp (he.symm.trans ew)
    have t109 : ∀ (a2 b2 : Int32), ((a2 = 1 ∧ a = 1 ∧ dV (gW γ) (hJ h 19) x y w = 0) ∨ (a2 = 0 ∧ ¬ (a = 1 ∧ dV (gW γ) (hJ h 19) x y w = 0))) → ((b2 = 1 ∧ b = 1 ∧ dV (gW γ) (hJ h 19) x y w = hJ h 19 w) ∨ (b2 = 0 ∧ ¬ (b = 1 ∧ dV (gW γ) (hJ h 19) x y w = hJ h 19 w))) → ∀ ls : List (Nat × Value), ls.lookup 6 = some (.int (nI k)) → ls.lookup 4 = some (.int a2) → ls.lookup 5 = some (.int b2) → ls.lookup 0 = some (.ref 21) → ls.lookup 1 = some (.int (nI x)) → ls.lookup 2 = some (.int (nI y)) → ls.lookup 3 = some (.ref 17) → Wp (Ex d) 44 Q 109 ls [] h bc bs := by
      intro a2 b2 ha hb ls l6 l4 l5 l0 l1 l2 l3
      have fa2 : (a2 = 1 ∧ ∀ i w, i < k + 1 → hI h 20 i = nI w → w < 64 → dV (gW γ) (hJ h 19) x y w = 0) ∨ (a2 = 0 ∧ ∃ w, w < 64 ∧ dV (gW γ) (hJ h 19) x y w ≠ 0) := by
        rcases ha with ⟨p1, p2, p3⟩ | ⟨p1, p2⟩
        · refine Or.inl ⟨p1, fun i z hi he hz => ?_⟩
          by_cases q : i = k
          · subst q; rw [uniq z hz he]; exact p3
          · rcases fa with ⟨-, f2⟩ | ⟨f1, -⟩
            · exact f2 i z (by omega) he hz
            · rw [p2] at f1; exact absurd f1 (by decide)
        · refine Or.inr ⟨p1, ?_⟩
          rcases fa with ⟨f1, -⟩ | ⟨-, f2⟩
          · exact ⟨w, by omega, fun z => p2 ⟨f1, z⟩⟩
          · exact f2
      have fb2 : (b2 = 1 ∧ ∀ i w, i < k + 1 → hI h 20 i = nI w → w < 64 → dV (gW γ) (hJ h 19) x y w = hJ h 19 w) ∨ (b2 = 0 ∧ ∃ w, w < 64 ∧ dV (gW γ) (hJ h 19) x y w ≠ hJ h 19 w) := by
        rcases hb with ⟨p1, p2, p3⟩ | ⟨p1, p2⟩
        · refine Or.inl ⟨p1, fun i z hi he hz => ?_⟩
          by_cases q : i = k
          · subst q; rw [uniq z hz he]; exact p3
          · rcases fb with ⟨-, f2⟩ | ⟨f1, -⟩
            · exact f2 i z (by omega) he hz
            · rw [p2] at f1; exact absurd f1 (by decide)
        · refine Or.inr ⟨p1, ?_⟩
          rcases fb with ⟨f1, -⟩ | ⟨-, f2⟩
          · exact ⟨w, by omega, fun z => p2 ⟨f1, z⟩⟩
          · exact f2
      refine r_iload (q44 (i := 62) rfl) l4 ?_
      refine r_if 121 (q44 (i := 63) rfl) (by decide) (fun c1 => ?_) (fun c1 => ?_)
      · have c1 : ¬ a2 = 0 := c1
        refine r_iinc (y := nI (k + 1)) (q44 (i := 68) rfl) (Nat.le_of_ble_eq_true rfl) l6 (nI_1 k) rfl ?_
        have l4 := lk1 (k := 6) (v := .int (nI (k + 1))) l4 (by decide) (Or.inr (by decide))
        have l5 := lk1 (k := 6) (v := .int (nI (k + 1))) l5 (by decide) (Or.inl rfl)
        have l0 := lk1 (k := 6) (v := .int (nI (k + 1))) l0 (by decide) (Or.inr (by decide))
        have l1 := lk1 (k := 6) (v := .int (nI (k + 1))) l1 (by decide) (Or.inr (by decide))
        have l2 := lk1 (k := 6) (v := .int (nI (k + 1))) l2 (by decide) (Or.inr (by decide))
        have l3 := lk1 (k := 6) (v := .int (nI (k + 1))) l3 (by decide) (Or.inr (by decide))
        have l6 := lk0 ls 6 (.int (nI (k + 1)))
        generalize lset1 ls 6 (.int (nI (k + 1))) = ls at l6 l4 l5 l0 l1 l2 l3 ⊢
        refine r_goto 9 (q44 (i := 69) rfl) (by decide) ?_
        exact ih (k + 1) (by omega) a2 b2 fa2 fb2 (fun z => by first | exact c1 z.1 | exact c2 z.2) ls l6 l4 l5 l0 l1 l2 l3
      · have c1 : ¬ (¬ a2 = 0) := c1
        refine r_iload (q44 (i := 64) rfl) l5 ?_
        refine r_if 121 (q44 (i := 65) rfl) (by decide) (fun c2 => ?_) (fun c2 => ?_)
        · have c2 : ¬ b2 = 0 := c2
          refine r_iinc (y := nI (k + 1)) (q44 (i := 68) rfl) (Nat.le_of_ble_eq_true rfl) l6 (nI_1 k) rfl ?_
          have l4 := lk1 (k := 6) (v := .int (nI (k + 1))) l4 (by decide) (Or.inr (by decide))
          have l5 := lk1 (k := 6) (v := .int (nI (k + 1))) l5 (by decide) (Or.inl rfl)
          have l0 := lk1 (k := 6) (v := .int (nI (k + 1))) l0 (by decide) (Or.inr (by decide))
          have l1 := lk1 (k := 6) (v := .int (nI (k + 1))) l1 (by decide) (Or.inr (by decide))
          have l2 := lk1 (k := 6) (v := .int (nI (k + 1))) l2 (by decide) (Or.inr (by decide))
          have l3 := lk1 (k := 6) (v := .int (nI (k + 1))) l3 (by decide) (Or.inr (by decide))
          have l6 := lk0 ls 6 (.int (nI (k + 1)))
          generalize lset1 ls 6 (.int (nI (k + 1))) = ls at l6 l4 l5 l0 l1 l2 l3 ⊢
          refine r_goto 9 (q44 (i := 69) rfl) (by decide) ?_
          exact ih (k + 1) (by omega) a2 b2 fa2 fb2 (fun z => by first | exact c1 z.1 | exact c2 z.2) ls l6 l4 l5 l0 l1 l2 l3
        · have c2 : ¬ (¬ b2 = 0) := c2
          have c1 : a2 = 0 := Classical.not_not.mp c1
          have c2 : b2 = 0 := Classical.not_not.mp c2
          obtain ⟨-, w1, g1, g2⟩ := fa2.resolve_left (fun z => by rw [z.1] at c1; exact absurd c1 (by decide))
          obtain ⟨-, w2, g3, g4⟩ := fb2.resolve_left (fun z => by rw [z.1] at c2; exact absurd c2 (by decide))
          have hl : lik (gW γ) (hJ h 19) x y = 0 := by
            unfold lik
            rw [if_neg (fun z => g2 (z w1 g1)), if_neg (fun z => g4 (z w2 g3))]
          rw [hl] at hQ
          refine r_iconst (v := 0) (q44 (i := 66) rfl) (by decide) ?_
          exact r_iret (q44 (i := 67) rfl) rfl hQ
    have edv : dV (gW γ) (hJ h 19) x y w = (gW γ x w ^^^ gW γ y w) &&& hJ h 19 w := rfl
    refine r_iload (q44 (i := 6) rfl) l6 ?_
    refine r_aload_n (q44 (i := 7) rfl) l3 ?_
    refine r_getI (x := nI u) (q44 (i := 8) rfl) rfl (by decide) (k_17 S) (fun _ _ _ => rfl) v3 ?_
    refine r_icmp 127 (q44 (i := 9) rfl) (by decide) (fun c => absurd c (show ¬ (nI u ≤ nI k) from nI_ge (by omega) (by omega))) (fun _ => ?_)
    refine r_aload_n (q44 (i := 10) rfl) l3 ?_
    refine r_getR (b := 20) (q44 (i := 11) rfl) rfl (by decide) (k_17 S) (fun _ _ _ => rfl) (r_17_2 S) ?_
    refine r_iload (q44 (i := 12) rfl) l6 ?_
    refine r_iaN (x := nI w) (q44 (i := 13) rfl) (k_20 S) (by omega) (by decide) ew ?_
    refine r_istore (q44 (i := 14) rfl) (Nat.le_of_ble_eq_true rfl) rfl ?_
    have l6 := lk1 (k := 7) (v := .int (nI w)) l6 (by decide) (Or.inl rfl)
    have l4 := lk1 (k := 7) (v := .int (nI w)) l4 (by decide) (Or.inr (by decide))
    have l5 := lk1 (k := 7) (v := .int (nI w)) l5 (by decide) (Or.inr (by decide))
    have l0 := lk1 (k := 7) (v := .int (nI w)) l0 (by decide) (Or.inr (by decide))
    have l1 := lk1 (k := 7) (v := .int (nI w)) l1 (by decide) (Or.inr (by decide))
    have l2 := lk1 (k := 7) (v := .int (nI w)) l2 (by decide) (Or.inr (by decide))
    have l3 := lk1 (k := 7) (v := .int (nI w)) l3 (by decide) (Or.inr (by decide))
    have l7 := lk0 ls 7 (.int (nI w))
    generalize lset1 ls 7 (.int (nI w)) = ls at l7 l6 l4 l5 l0 l1 l2 l3 ⊢
    refine r_aload_n (q44 (i := 15) rfl) l3 ?_
    refine r_getR (b := 19) (q44 (i := 16) rfl) rfl (by decide) (k_17 S) (fun _ _ _ => rfl) (r_17_1 S) ?_
    refine r_iload (q44 (i := 17) rfl) l7 ?_
    refine r_laN (x := hJ h 19 w) (q44 (i := 18) rfl) (k_19 S) (by omega) (by decide) rfl ?_
    refine r_lstore (q44 (i := 19) rfl) (Nat.le_of_ble_eq_true rfl) rfl ?_
    have l7 := lk2 (k := 8) (v := .long (hJ h 19 w)) l7 (by decide) (by decide) (Or.inl rfl)
    have l6 := lk2 (k := 8) (v := .long (hJ h 19 w)) l6 (by decide) (by decide) (Or.inr (by decide))
    have l4 := lk2 (k := 8) (v := .long (hJ h 19 w)) l4 (by decide) (by decide) (Or.inr (by decide))
    have l5 := lk2 (k := 8) (v := .long (hJ h 19 w)) l5 (by decide) (by decide) (Or.inr (by decide))
    have l0 := lk2 (k := 8) (v := .long (hJ h 19 w)) l0 (by decide) (by decide) (Or.inr (by decide))
    have l1 := lk2 (k := 8) (v := .long (hJ h 19 w)) l1 (by decide) (by decide) (Or.inr (by decide))
    have l2 := lk2 (k := 8) (v := .long (hJ h 19 w)) l2 (by decide) (by decide) (Or.inr (by decide))
    have l3 := lk2 (k := 8) (v := .long (hJ h 19 w)) l3 (by decide) (by decide) (Or.inr (by decide))
    have l8 := lk00 ls 8 (.long (hJ h 19 w))
    generalize lset2 ls 8 (.long (hJ h 19 w)) = ls at l8 l7 l6 l4 l5 l0 l1 l2 l3 ⊢
    refine r_aload_n (q44 (i := 20) rfl) l0 ?_
    refine r_getR (b := ρ) (q44 (i := 21) rfl) rfl (by decide) (k_21 S) (fun _ _ _ => rfl) hRw.1 ?_
    refine r_iload_n (q44 (i := 22) rfl) l1 ?_
    refine r_aload_n (q44 (i := 23) rfl) l0 ?_
    refine r_getI (x := nI rw) (q44 (i := 24) rfl) rfl (by decide) (k_21 S) (fun _ _ _ => rfl) e7 ?_
    refine r_imul (q44 (i := 25) rfl) ?_
    rw [show ((nI x) * (nI rw) : Int32) = nI (x * rw) from pk_mul _ _]
    refine r_iload (q44 (i := 26) rfl) l7 ?_
    refine r_iadd (q44 (i := 27) rfl) ?_
    rw [show ((nI (x * rw)) + (nI w) : Int32) = nI (x * rw + w) from nI_add _ _]
    refine r_laN (x := gW γ x w) (q44 (i := 28) rfl) hRw.2.1 hix (by omega) (eRow _ _ hx hw) ?_
    refine r_aload_n (q44 (i := 29) rfl) l0 ?_
    refine r_getR (b := ρ) (q44 (i := 30) rfl) rfl (by decide) (k_21 S) (fun _ _ _ => rfl) hRw.1 ?_
    refine r_iload_n (q44 (i := 31) rfl) l2 ?_
    refine r_aload_n (q44 (i := 32) rfl) l0 ?_
    refine r_getI (x := nI rw) (q44 (i := 33) rfl) rfl (by decide) (k_21 S) (fun _ _ _ => rfl) e7 ?_
    refine r_imul (q44 (i := 34) rfl) ?_
    rw [show ((nI y) * (nI rw) : Int32) = nI (y * rw) from pk_mul _ _]
    refine r_iload (q44 (i := 35) rfl) l7 ?_
    refine r_iadd (q44 (i := 36) rfl) ?_
    rw [show ((nI (y * rw)) + (nI w) : Int32) = nI (y * rw + w) from nI_add _ _]
    refine r_laN (x := gW γ y w) (q44 (i := 37) rfl) hRw.2.1 hiy (by omega) (eRow _ _ hy hw) ?_
    refine r_lxor (q44 (i := 38) rfl) ?_
    refine r_lload (q44 (i := 39) rfl) l8 ?_
    refine r_land (q44 (i := 40) rfl) ?_
    rw [show (((gW γ x w) ^^^ (gW γ y w)) &&& (hJ h 19 w) : Int64) = dV (gW γ) (hJ h 19) x y w from rfl]
    refine r_lstore (q44 (i := 41) rfl) (Nat.le_of_ble_eq_true rfl) rfl ?_
    have l8 := lk2 (k := 10) (v := .long (dV (gW γ) (hJ h 19) x y w)) l8 (by decide) (by decide) (Or.inr (by decide))
    have l7 := lk2 (k := 10) (v := .long (dV (gW γ) (hJ h 19) x y w)) l7 (by decide) (by decide) (Or.inr (by decide))
    have l6 := lk2 (k := 10) (v := .long (dV (gW γ) (hJ h 19) x y w)) l6 (by decide) (by decide) (Or.inr (by decide))
    have l4 := lk2 (k := 10) (v := .long (dV (gW γ) (hJ h 19) x y w)) l4 (by decide) (by decide) (Or.inr (by decide))
    have l5 := lk2 (k := 10) (v := .long (dV (gW γ) (hJ h 19) x y w)) l5 (by decide) (by decide) (Or.inr (by decide))
    have l0 := lk2 (k := 10) (v := .long (dV (gW γ) (hJ h 19) x y w)) l0 (by decide) (by decide) (Or.inr (by decide))
    have l1 := lk2 (k := 10) (v := .long (dV (gW γ) (hJ h 19) x y w)) l1 (by decide) (by decide) (Or.inr (by decide))
    have l2 := lk2 (k := 10) (v := .long (dV (gW γ) (hJ h 19) x y w)) l2 (by decide) (by decide) (Or.inr (by decide))
    have l3 := lk2 (k := 10) (v := .long (dV (gW γ) (hJ h 19) x y w)) l3 (by decide) (by decide) (Or.inr (by decide))
    have l10 := lk00 ls 10 (.long (dV (gW γ) (hJ h 19) x y w))
    generalize lset2 ls 10 (.long (dV (gW γ) (hJ h 19) x y w)) = ls at l10 l8 l7 l6 l4 l5 l0 l1 l2 l3 ⊢
    refine r_iload (q44 (i := 42) rfl) l4 ?_
    refine r_if 86 (q44 (i := 43) rfl) (by decide) (fun c1 => ?_) (fun c1 => ?_)
    · have c1 : a = 0 := c1
      refine r_iconst (v := 0) (q44 (i := 50) rfl) (by decide) ?_
      refine r_istore (q44 (i := 51) rfl) (Nat.le_of_ble_eq_true rfl) rfl ?_
      have l10 := lk1 (k := 4) (v := .int 0) l10 (by decide) (Or.inr (by decide))
      have l8 := lk1 (k := 4) (v := .int 0) l8 (by decide) (Or.inr (by decide))
      have l7 := lk1 (k := 4) (v := .int 0) l7 (by decide) (Or.inr (by decide))
      have l6 := lk1 (k := 4) (v := .int 0) l6 (by decide) (Or.inr (by decide))
      have l5 := lk1 (k := 4) (v := .int 0) l5 (by decide) (Or.inr (by decide))
      have l0 := lk1 (k := 4) (v := .int 0) l0 (by decide) (Or.inr (by decide))
      have l1 := lk1 (k := 4) (v := .int 0) l1 (by decide) (Or.inr (by decide))
      have l2 := lk1 (k := 4) (v := .int 0) l2 (by decide) (Or.inr (by decide))
      have l3 := lk1 (k := 4) (v := .int 0) l3 (by decide) (Or.inl rfl)
      have l4 := lk0 ls 4 (.int 0)
      generalize lset1 ls 4 (.int 0) = ls at l4 l10 l8 l7 l6 l5 l0 l1 l2 l3 ⊢
      refine r_iload (q44 (i := 52) rfl) l5 ?_
      refine r_if 106 (q44 (i := 53) rfl) (by decide) (fun c3 => ?_) (fun c3 => ?_)
      · have c3 : b = 0 := c3
        refine r_iconst (v := 0) (q44 (i := 60) rfl) (by decide) ?_
        refine r_istore (q44 (i := 61) rfl) (Nat.le_of_ble_eq_true rfl) rfl ?_
        have l4 := lk1 (k := 5) (v := .int 0) l4 (by decide) (Or.inl rfl)
        have l10 := lk1 (k := 5) (v := .int 0) l10 (by decide) (Or.inr (by decide))
        have l8 := lk1 (k := 5) (v := .int 0) l8 (by decide) (Or.inr (by decide))
        have l7 := lk1 (k := 5) (v := .int 0) l7 (by decide) (Or.inr (by decide))
        have l6 := lk1 (k := 5) (v := .int 0) l6 (by decide) (Or.inr (by decide))
        have l0 := lk1 (k := 5) (v := .int 0) l0 (by decide) (Or.inr (by decide))
        have l1 := lk1 (k := 5) (v := .int 0) l1 (by decide) (Or.inr (by decide))
        have l2 := lk1 (k := 5) (v := .int 0) l2 (by decide) (Or.inr (by decide))
        have l3 := lk1 (k := 5) (v := .int 0) l3 (by decide) (Or.inr (by decide))
        have l5 := lk0 ls 5 (.int 0)
        generalize lset1 ls 5 (.int 0) = ls at l5 l4 l10 l8 l7 l6 l0 l1 l2 l3 ⊢
        exact t109 0 0 (by first | exact Or.inl ⟨rfl, by rcases fa with z | z; exact z.1; exact absurd z.1 c1, (cmp0 _ _).mp (Classical.not_not.mp c2)⟩ | exact Or.inr ⟨rfl, fun z => c2 ((cmp0 _ _).mpr z.2)⟩ | exact Or.inr ⟨rfl, fun z => by rw [z.1] at c1; exact absurd c1 (by decide)⟩) (by first | exact Or.inl ⟨rfl, by rcases fb with z | z; exact z.1; exact absurd z.1 c3, (cmp0 _ _).mp (Classical.not_not.mp c4)⟩ | exact Or.inr ⟨rfl, fun z => c4 ((cmp0 _ _).mpr z.2)⟩ | exact Or.inr ⟨rfl, fun z => by rw [z.1] at c3; exact absurd c3 (by decide)⟩) ls l6 l4 l5 l0 l1 l2 l3
      · have c3 : ¬ (b = 0) := c3
        refine r_lload (q44 (i := 54) rfl) l10 ?_
        refine r_lload (q44 (i := 55) rfl) l8 ?_
        refine r_lcmp (q44 (i := 56) rfl) ?_
        refine r_if 106 (q44 (i := 57) rfl) (by decide) (fun c4 => ?_) (fun c4 => ?_)
        · have c4 : ¬ lg_cmp (dV (gW γ) (hJ h 19) x y w) (hJ h 19 w) = 0 := c4
          refine r_iconst (v := 0) (q44 (i := 60) rfl) (by decide) ?_
          refine r_istore (q44 (i := 61) rfl) (Nat.le_of_ble_eq_true rfl) rfl ?_
          have l4 := lk1 (k := 5) (v := .int 0) l4 (by decide) (Or.inl rfl)
          have l10 := lk1 (k := 5) (v := .int 0) l10 (by decide) (Or.inr (by decide))
          have l8 := lk1 (k := 5) (v := .int 0) l8 (by decide) (Or.inr (by decide))
          have l7 := lk1 (k := 5) (v := .int 0) l7 (by decide) (Or.inr (by decide))
          have l6 := lk1 (k := 5) (v := .int 0) l6 (by decide) (Or.inr (by decide))
          have l0 := lk1 (k := 5) (v := .int 0) l0 (by decide) (Or.inr (by decide))
          have l1 := lk1 (k := 5) (v := .int 0) l1 (by decide) (Or.inr (by decide))
          have l2 := lk1 (k := 5) (v := .int 0) l2 (by decide) (Or.inr (by decide))
          have l3 := lk1 (k := 5) (v := .int 0) l3 (by decide) (Or.inr (by decide))
          have l5 := lk0 ls 5 (.int 0)
          generalize lset1 ls 5 (.int 0) = ls at l5 l4 l10 l8 l7 l6 l0 l1 l2 l3 ⊢
          exact t109 0 0 (by first | exact Or.inl ⟨rfl, by rcases fa with z | z; exact z.1; exact absurd z.1 c1, (cmp0 _ _).mp (Classical.not_not.mp c2)⟩ | exact Or.inr ⟨rfl, fun z => c2 ((cmp0 _ _).mpr z.2)⟩ | exact Or.inr ⟨rfl, fun z => by rw [z.1] at c1; exact absurd c1 (by decide)⟩) (by first | exact Or.inl ⟨rfl, by rcases fb with z | z; exact z.1; exact absurd z.1 c3, (cmp0 _ _).mp (Classical.not_not.mp c4)⟩ | exact Or.inr ⟨rfl, fun z => c4 ((cmp0 _ _).mpr z.2)⟩ | exact Or.inr ⟨rfl, fun z => by rw [z.1] at c3; exact absurd c3 (by decide)⟩) ls l6 l4 l5 l0 l1 l2 l3
        · have c4 : ¬ (¬ lg_cmp (dV (gW γ) (hJ h 19) x y w) (hJ h 19 w) = 0) := c4
          refine r_iconst (v := 1) (q44 (i := 58) rfl) (by decide) ?_
          refine r_goto 107 (q44 (i := 59) rfl) (by decide) ?_
          refine r_istore (q44 (i := 61) rfl) (Nat.le_of_ble_eq_true rfl) rfl ?_
          have l4 := lk1 (k := 5) (v := .int 1) l4 (by decide) (Or.inl rfl)
          have l10 := lk1 (k := 5) (v := .int 1) l10 (by decide) (Or.inr (by decide))
          have l8 := lk1 (k := 5) (v := .int 1) l8 (by decide) (Or.inr (by decide))
          have l7 := lk1 (k := 5) (v := .int 1) l7 (by decide) (Or.inr (by decide))
          have l6 := lk1 (k := 5) (v := .int 1) l6 (by decide) (Or.inr (by decide))
          have l0 := lk1 (k := 5) (v := .int 1) l0 (by decide) (Or.inr (by decide))
          have l1 := lk1 (k := 5) (v := .int 1) l1 (by decide) (Or.inr (by decide))
          have l2 := lk1 (k := 5) (v := .int 1) l2 (by decide) (Or.inr (by decide))
          have l3 := lk1 (k := 5) (v := .int 1) l3 (by decide) (Or.inr (by decide))
          have l5 := lk0 ls 5 (.int 1)
          generalize lset1 ls 5 (.int 1) = ls at l5 l4 l10 l8 l7 l6 l0 l1 l2 l3 ⊢
          exact t109 0 1 (by first | exact Or.inl ⟨rfl, by rcases fa with z | z; exact z.1; exact absurd z.1 c1, (cmp0 _ _).mp (Classical.not_not.mp c2)⟩ | exact Or.inr ⟨rfl, fun z => c2 ((cmp0 _ _).mpr z.2)⟩ | exact Or.inr ⟨rfl, fun z => by rw [z.1] at c1; exact absurd c1 (by decide)⟩) (by first | exact Or.inl ⟨rfl, by rcases fb with z | z; exact z.1; exact absurd z.1 c3, (cmp0 _ _).mp (Classical.not_not.mp c4)⟩ | exact Or.inr ⟨rfl, fun z => c4 ((cmp0 _ _).mpr z.2)⟩ | exact Or.inr ⟨rfl, fun z => by rw [z.1] at c3; exact absurd c3 (by decide)⟩) ls l6 l4 l5 l0 l1 l2 l3
    · have c1 : ¬ (a = 0) := c1
      refine r_lload (q44 (i := 44) rfl) l10 ?_
      refine r_lconst (v := 0) (q44 (i := 45) rfl) (by decide) ?_
      refine r_lcmp (q44 (i := 46) rfl) ?_
      refine r_if 86 (q44 (i := 47) rfl) (by decide) (fun c2 => ?_) (fun c2 => ?_)
      · have c2 : ¬ lg_cmp (dV (gW γ) (hJ h 19) x y w) 0 = 0 := c2
        refine r_iconst (v := 0) (q44 (i := 50) rfl) (by decide) ?_
        refine r_istore (q44 (i := 51) rfl) (Nat.le_of_ble_eq_true rfl) rfl ?_
        have l10 := lk1 (k := 4) (v := .int 0) l10 (by decide) (Or.inr (by decide))
        have l8 := lk1 (k := 4) (v := .int 0) l8 (by decide) (Or.inr (by decide))
        have l7 := lk1 (k := 4) (v := .int 0) l7 (by decide) (Or.inr (by decide))
        have l6 := lk1 (k := 4) (v := .int 0) l6 (by decide) (Or.inr (by decide))
        have l5 := lk1 (k := 4) (v := .int 0) l5 (by decide) (Or.inr (by decide))
        have l0 := lk1 (k := 4) (v := .int 0) l0 (by decide) (Or.inr (by decide))
        have l1 := lk1 (k := 4) (v := .int 0) l1 (by decide) (Or.inr (by decide))
        have l2 := lk1 (k := 4) (v := .int 0) l2 (by decide) (Or.inr (by decide))
        have l3 := lk1 (k := 4) (v := .int 0) l3 (by decide) (Or.inl rfl)
        have l4 := lk0 ls 4 (.int 0)
        generalize lset1 ls 4 (.int 0) = ls at l4 l10 l8 l7 l6 l5 l0 l1 l2 l3 ⊢
        refine r_iload (q44 (i := 52) rfl) l5 ?_
        refine r_if 106 (q44 (i := 53) rfl) (by decide) (fun c3 => ?_) (fun c3 => ?_)
        · have c3 : b = 0 := c3
          refine r_iconst (v := 0) (q44 (i := 60) rfl) (by decide) ?_
          refine r_istore (q44 (i := 61) rfl) (Nat.le_of_ble_eq_true rfl) rfl ?_
          have l4 := lk1 (k := 5) (v := .int 0) l4 (by decide) (Or.inl rfl)
          have l10 := lk1 (k := 5) (v := .int 0) l10 (by decide) (Or.inr (by decide))
          have l8 := lk1 (k := 5) (v := .int 0) l8 (by decide) (Or.inr (by decide))
          have l7 := lk1 (k := 5) (v := .int 0) l7 (by decide) (Or.inr (by decide))
          have l6 := lk1 (k := 5) (v := .int 0) l6 (by decide) (Or.inr (by decide))
          have l0 := lk1 (k := 5) (v := .int 0) l0 (by decide) (Or.inr (by decide))
          have l1 := lk1 (k := 5) (v := .int 0) l1 (by decide) (Or.inr (by decide))
          have l2 := lk1 (k := 5) (v := .int 0) l2 (by decide) (Or.inr (by decide))
          have l3 := lk1 (k := 5) (v := .int 0) l3 (by decide) (Or.inr (by decide))
          have l5 := lk0 ls 5 (.int 0)
          generalize lset1 ls 5 (.int 0) = ls at l5 l4 l10 l8 l7 l6 l0 l1 l2 l3 ⊢
          exact t109 0 0 (by first | exact Or.inl ⟨rfl, by rcases fa with z | z; exact z.1; exact absurd z.1 c1, (cmp0 _ _).mp (Classical.not_not.mp c2)⟩ | exact Or.inr ⟨rfl, fun z => c2 ((cmp0 _ _).mpr z.2)⟩ | exact Or.inr ⟨rfl, fun z => by rw [z.1] at c1; exact absurd c1 (by decide)⟩) (by first | exact Or.inl ⟨rfl, by rcases fb with z | z; exact z.1; exact absurd z.1 c3, (cmp0 _ _).mp (Classical.not_not.mp c4)⟩ | exact Or.inr ⟨rfl, fun z => c4 ((cmp0 _ _).mpr z.2)⟩ | exact Or.inr ⟨rfl, fun z => by rw [z.1] at c3; exact absurd c3 (by decide)⟩) ls l6 l4 l5 l0 l1 l2 l3
        · have c3 : ¬ (b = 0) := c3
          refine r_lload (q44 (i := 54) rfl) l10 ?_
          refine r_lload (q44 (i := 55) rfl) l8 ?_
          refine r_lcmp (q44 (i := 56) rfl) ?_
          refine r_if 106 (q44 (i := 57) rfl) (by decide) (fun c4 => ?_) (fun c4 => ?_)
          · have c4 : ¬ lg_cmp (dV (gW γ) (hJ h 19) x y w) (hJ h 19 w) = 0 := c4
            refine r_iconst (v := 0) (q44 (i := 60) rfl) (by decide) ?_
            refine r_istore (q44 (i := 61) rfl) (Nat.le_of_ble_eq_true rfl) rfl ?_
            have l4 := lk1 (k := 5) (v := .int 0) l4 (by decide) (Or.inl rfl)
            have l10 := lk1 (k := 5) (v := .int 0) l10 (by decide) (Or.inr (by decide))
            have l8 := lk1 (k := 5) (v := .int 0) l8 (by decide) (Or.inr (by decide))
            have l7 := lk1 (k := 5) (v := .int 0) l7 (by decide) (Or.inr (by decide))
            have l6 := lk1 (k := 5) (v := .int 0) l6 (by decide) (Or.inr (by decide))
            have l0 := lk1 (k := 5) (v := .int 0) l0 (by decide) (Or.inr (by decide))
            have l1 := lk1 (k := 5) (v := .int 0) l1 (by decide) (Or.inr (by decide))
            have l2 := lk1 (k := 5) (v := .int 0) l2 (by decide) (Or.inr (by decide))
            have l3 := lk1 (k := 5) (v := .int 0) l3 (by decide) (Or.inr (by decide))
            have l5 := lk0 ls 5 (.int 0)
            generalize lset1 ls 5 (.int 0) = ls at l5 l4 l10 l8 l7 l6 l0 l1 l2 l3 ⊢
            exact t109 0 0 (by first | exact Or.inl ⟨rfl, by rcases fa with z | z; exact z.1; exact absurd z.1 c1, (cmp0 _ _).mp (Classical.not_not.mp c2)⟩ | exact Or.inr ⟨rfl, fun z => c2 ((cmp0 _ _).mpr z.2)⟩ | exact Or.inr ⟨rfl, fun z => by rw [z.1] at c1; exact absurd c1 (by decide)⟩) (by first | exact Or.inl ⟨rfl, by rcases fb with z | z; exact z.1; exact absurd z.1 c3, (cmp0 _ _).mp (Classical.not_not.mp c4)⟩ | exact Or.inr ⟨rfl, fun z => c4 ((cmp0 _ _).mpr z.2)⟩ | exact Or.inr ⟨rfl, fun z => by rw [z.1] at c3; exact absurd c3 (by decide)⟩) ls l6 l4 l5 l0 l1 l2 l3
          · have c4 : ¬ (¬ lg_cmp (dV (gW γ) (hJ h 19) x y w) (hJ h 19 w) = 0) := c4
            refine r_iconst (v := 1) (q44 (i := 58) rfl) (by decide) ?_
            refine r_goto 107 (q44 (i := 59) rfl) (by decide) ?_
            refine r_istore (q44 (i := 61) rfl) (Nat.le_of_ble_eq_true rfl) rfl ?_
            have l4 := lk1 (k := 5) (v := .int 1) l4 (by decide) (Or.inl rfl)
            have l10 := lk1 (k := 5) (v := .int 1) l10 (by decide) (Or.inr (by decide))
            have l8 := lk1 (k := 5) (v := .int 1) l8 (by decide) (Or.inr (by decide))
            have l7 := lk1 (k := 5) (v := .int 1) l7 (by decide) (Or.inr (by decide))
            have l6 := lk1 (k := 5) (v := .int 1) l6 (by decide) (Or.inr (by decide))
            have l0 := lk1 (k := 5) (v := .int 1) l0 (by decide) (Or.inr (by decide))
            have l1 := lk1 (k := 5) (v := .int 1) l1 (by decide) (Or.inr (by decide))
            have l2 := lk1 (k := 5) (v := .int 1) l2 (by decide) (Or.inr (by decide))
            have l3 := lk1 (k := 5) (v := .int 1) l3 (by decide) (Or.inr (by decide))
            have l5 := lk0 ls 5 (.int 1)
            generalize lset1 ls 5 (.int 1) = ls at l5 l4 l10 l8 l7 l6 l0 l1 l2 l3 ⊢
            exact t109 0 1 (by first | exact Or.inl ⟨rfl, by rcases fa with z | z; exact z.1; exact absurd z.1 c1, (cmp0 _ _).mp (Classical.not_not.mp c2)⟩ | exact Or.inr ⟨rfl, fun z => c2 ((cmp0 _ _).mpr z.2)⟩ | exact Or.inr ⟨rfl, fun z => by rw [z.1] at c1; exact absurd c1 (by decide)⟩) (by first | exact Or.inl ⟨rfl, by rcases fb with z | z; exact z.1; exact absurd z.1 c3, (cmp0 _ _).mp (Classical.not_not.mp c4)⟩ | exact Or.inr ⟨rfl, fun z => c4 ((cmp0 _ _).mpr z.2)⟩ | exact Or.inr ⟨rfl, fun z => by rw [z.1] at c3; exact absurd c3 (by decide)⟩) ls l6 l4 l5 l0 l1 l2 l3
      · have c2 : ¬ (¬ lg_cmp (dV (gW γ) (hJ h 19) x y w) 0 = 0) := c2
        refine r_iconst (v := 1) (q44 (i := 48) rfl) (by decide) ?_
        refine r_goto 87 (q44 (i := 49) rfl) (by decide) ?_
        refine r_istore (q44 (i := 51) rfl) (Nat.le_of_ble_eq_true rfl) rfl ?_
        have l10 := lk1 (k := 4) (v := .int 1) l10 (by decide) (Or.inr (by decide))
        have l8 := lk1 (k := 4) (v := .int 1) l8 (by decide) (Or.inr (by decide))
        have l7 := lk1 (k := 4) (v := .int 1) l7 (by decide) (Or.inr (by decide))
        have l6 := lk1 (k := 4) (v := .int 1) l6 (by decide) (Or.inr (by decide))
        have l5 := lk1 (k := 4) (v := .int 1) l5 (by decide) (Or.inr (by decide))
        have l0 := lk1 (k := 4) (v := .int 1) l0 (by decide) (Or.inr (by decide))
        have l1 := lk1 (k := 4) (v := .int 1) l1 (by decide) (Or.inr (by decide))
        have l2 := lk1 (k := 4) (v := .int 1) l2 (by decide) (Or.inr (by decide))
        have l3 := lk1 (k := 4) (v := .int 1) l3 (by decide) (Or.inl rfl)
        have l4 := lk0 ls 4 (.int 1)
        generalize lset1 ls 4 (.int 1) = ls at l4 l10 l8 l7 l6 l5 l0 l1 l2 l3 ⊢
        refine r_iload (q44 (i := 52) rfl) l5 ?_
        refine r_if 106 (q44 (i := 53) rfl) (by decide) (fun c3 => ?_) (fun c3 => ?_)
        · have c3 : b = 0 := c3
          refine r_iconst (v := 0) (q44 (i := 60) rfl) (by decide) ?_
          refine r_istore (q44 (i := 61) rfl) (Nat.le_of_ble_eq_true rfl) rfl ?_
          have l4 := lk1 (k := 5) (v := .int 0) l4 (by decide) (Or.inl rfl)
          have l10 := lk1 (k := 5) (v := .int 0) l10 (by decide) (Or.inr (by decide))
          have l8 := lk1 (k := 5) (v := .int 0) l8 (by decide) (Or.inr (by decide))
          have l7 := lk1 (k := 5) (v := .int 0) l7 (by decide) (Or.inr (by decide))
          have l6 := lk1 (k := 5) (v := .int 0) l6 (by decide) (Or.inr (by decide))
          have l0 := lk1 (k := 5) (v := .int 0) l0 (by decide) (Or.inr (by decide))
          have l1 := lk1 (k := 5) (v := .int 0) l1 (by decide) (Or.inr (by decide))
          have l2 := lk1 (k := 5) (v := .int 0) l2 (by decide) (Or.inr (by decide))
          have l3 := lk1 (k := 5) (v := .int 0) l3 (by decide) (Or.inr (by decide))
          have l5 := lk0 ls 5 (.int 0)
          generalize lset1 ls 5 (.int 0) = ls at l5 l4 l10 l8 l7 l6 l0 l1 l2 l3 ⊢
          exact t109 1 0 (by first | exact Or.inl ⟨rfl, by rcases fa with z | z; exact z.1; exact absurd z.1 c1, (cmp0 _ _).mp (Classical.not_not.mp c2)⟩ | exact Or.inr ⟨rfl, fun z => c2 ((cmp0 _ _).mpr z.2)⟩ | exact Or.inr ⟨rfl, fun z => by rw [z.1] at c1; exact absurd c1 (by decide)⟩) (by first | exact Or.inl ⟨rfl, by rcases fb with z | z; exact z.1; exact absurd z.1 c3, (cmp0 _ _).mp (Classical.not_not.mp c4)⟩ | exact Or.inr ⟨rfl, fun z => c4 ((cmp0 _ _).mpr z.2)⟩ | exact Or.inr ⟨rfl, fun z => by rw [z.1] at c3; exact absurd c3 (by decide)⟩) ls l6 l4 l5 l0 l1 l2 l3
        · have c3 : ¬ (b = 0) := c3
          refine r_lload (q44 (i := 54) rfl) l10 ?_
          refine r_lload (q44 (i := 55) rfl) l8 ?_
          refine r_lcmp (q44 (i := 56) rfl) ?_
          refine r_if 106 (q44 (i := 57) rfl) (by decide) (fun c4 => ?_) (fun c4 => ?_)
          · have c4 : ¬ lg_cmp (dV (gW γ) (hJ h 19) x y w) (hJ h 19 w) = 0 := c4
            refine r_iconst (v := 0) (q44 (i := 60) rfl) (by decide) ?_
            refine r_istore (q44 (i := 61) rfl) (Nat.le_of_ble_eq_true rfl) rfl ?_
            have l4 := lk1 (k := 5) (v := .int 0) l4 (by decide) (Or.inl rfl)
            have l10 := lk1 (k := 5) (v := .int 0) l10 (by decide) (Or.inr (by decide))
            have l8 := lk1 (k := 5) (v := .int 0) l8 (by decide) (Or.inr (by decide))
            have l7 := lk1 (k := 5) (v := .int 0) l7 (by decide) (Or.inr (by decide))
            have l6 := lk1 (k := 5) (v := .int 0) l6 (by decide) (Or.inr (by decide))
            have l0 := lk1 (k := 5) (v := .int 0) l0 (by decide) (Or.inr (by decide))
            have l1 := lk1 (k := 5) (v := .int 0) l1 (by decide) (Or.inr (by decide))
            have l2 := lk1 (k := 5) (v := .int 0) l2 (by decide) (Or.inr (by decide))
            have l3 := lk1 (k := 5) (v := .int 0) l3 (by decide) (Or.inr (by decide))
            have l5 := lk0 ls 5 (.int 0)
            generalize lset1 ls 5 (.int 0) = ls at l5 l4 l10 l8 l7 l6 l0 l1 l2 l3 ⊢
            exact t109 1 0 (by first | exact Or.inl ⟨rfl, by rcases fa with z | z; exact z.1; exact absurd z.1 c1, (cmp0 _ _).mp (Classical.not_not.mp c2)⟩ | exact Or.inr ⟨rfl, fun z => c2 ((cmp0 _ _).mpr z.2)⟩ | exact Or.inr ⟨rfl, fun z => by rw [z.1] at c1; exact absurd c1 (by decide)⟩) (by first | exact Or.inl ⟨rfl, by rcases fb with z | z; exact z.1; exact absurd z.1 c3, (cmp0 _ _).mp (Classical.not_not.mp c4)⟩ | exact Or.inr ⟨rfl, fun z => c4 ((cmp0 _ _).mpr z.2)⟩ | exact Or.inr ⟨rfl, fun z => by rw [z.1] at c3; exact absurd c3 (by decide)⟩) ls l6 l4 l5 l0 l1 l2 l3
          · have c4 : ¬ (¬ lg_cmp (dV (gW γ) (hJ h 19) x y w) (hJ h 19 w) = 0) := c4
            refine r_iconst (v := 1) (q44 (i := 58) rfl) (by decide) ?_
            refine r_goto 107 (q44 (i := 59) rfl) (by decide) ?_
            refine r_istore (q44 (i := 61) rfl) (Nat.le_of_ble_eq_true rfl) rfl ?_
            have l4 := lk1 (k := 5) (v := .int 1) l4 (by decide) (Or.inl rfl)
            have l10 := lk1 (k := 5) (v := .int 1) l10 (by decide) (Or.inr (by decide))
            have l8 := lk1 (k := 5) (v := .int 1) l8 (by decide) (Or.inr (by decide))
            have l7 := lk1 (k := 5) (v := .int 1) l7 (by decide) (Or.inr (by decide))
            have l6 := lk1 (k := 5) (v := .int 1) l6 (by decide) (Or.inr (by decide))
            have l0 := lk1 (k := 5) (v := .int 1) l0 (by decide) (Or.inr (by decide))
            have l1 := lk1 (k := 5) (v := .int 1) l1 (by decide) (Or.inr (by decide))
            have l2 := lk1 (k := 5) (v := .int 1) l2 (by decide) (Or.inr (by decide))
            have l3 := lk1 (k := 5) (v := .int 1) l3 (by decide) (Or.inr (by decide))
            have l5 := lk0 ls 5 (.int 1)
            generalize lset1 ls 5 (.int 1) = ls at l5 l4 l10 l8 l7 l6 l0 l1 l2 l3 ⊢
            exact t109 1 1 (by first | exact Or.inl ⟨rfl, by rcases fa with z | z; exact z.1; exact absurd z.1 c1, (cmp0 _ _).mp (Classical.not_not.mp c2)⟩ | exact Or.inr ⟨rfl, fun z => c2 ((cmp0 _ _).mpr z.2)⟩ | exact Or.inr ⟨rfl, fun z => by rw [z.1] at c1; exact absurd c1 (by decide)⟩) (by first | exact Or.inl ⟨rfl, by rcases fb with z | z; exact z.1; exact absurd z.1 c3, (cmp0 _ _).mp (Classical.not_not.mp c4)⟩ | exact Or.inr ⟨rfl, fun z => c4 ((cmp0 _ _).mpr z.2)⟩ | exact Or.inr ⟨rfl, fun z => by rw [z.1] at c3; exact absurd c3 (by decide)⟩) ls l6 l4 l5 l0 l1 l2 l3
set_option maxHeartbeats 2000000 in
set_option maxRecDepth 10000 in
theorem sp_lik {d : Nat} {h : hp} (S : Sh h) {ρ n rw u : Nat} {γ : gs} (G : GC h ρ n rw γ) (V : VS h rw u) {x y : Nat} (hx : x < gC γ) (hy : y < gC γ) : Run (d + 1) 44 [.ref 21, .int (nI x), .int (nI y), .ref 17] h 0 0 (some (.int (lik (gW γ) (hJ h 19) x y))) h := by
  refine Run.of (Nat.le_of_ble_eq_true rfl) (fun Q hQ => ?_)
  show Wp (Ex (d)) 44 Q 0 [(0, .ref 21), (1, .int (nI x)), (2, .int (nI y)), (3, .ref 17)] [] h 0 0
  refine r_iconst (v := 1) (q44 (i := 0) rfl) (by decide) ?_
  refine r_istore (ls' := [(4, .int 1), (0, .ref 21), (1, .int (nI x)), (2, .int (nI y)), (3, .ref 17)]) (q44 (i := 1) rfl) (Nat.le_of_ble_eq_true rfl) rfl ?_
  refine r_iconst (v := 1) (q44 (i := 2) rfl) (by decide) ?_
  refine r_istore (ls' := [(5, .int 1), (4, .int 1), (0, .ref 21), (1, .int (nI x)), (2, .int (nI y)), (3, .ref 17)]) (q44 (i := 3) rfl) (Nat.le_of_ble_eq_true rfl) rfl ?_
  refine r_iconst (v := 0) (q44 (i := 4) rfl) (by decide) ?_
  refine r_istore (ls' := [(6, .int 0), (5, .int 1), (4, .int 1), (0, .ref 21), (1, .int (nI x)), (2, .int (nI y)), (3, .ref 17)]) (q44 (i := 5) rfl) (Nat.le_of_ble_eq_true rfl) rfl ?_
  exact lp_lik S G V hx hy hQ u 0 (by omega) 1 1 (Or.inl ⟨rfl, fun i w hi => absurd hi (Nat.not_lt_zero i)⟩) (Or.inl ⟨rfl, fun i w hi => absurd hi (Nat.not_lt_zero i)⟩) (by decide) _ rfl rfl rfl rfl rfl rfl rfl
