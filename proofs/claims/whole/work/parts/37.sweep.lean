/-! ===== the sweep of the class ===== -/
noncomputable def repT (T : Nat → Nat → Int64) (n x : Nat) (rep : Nat → Nat) : Nat → Nat → sst → Nat × sst
  | 0, _, s => (2 * x, s)
  | m + 1, c, s => if rep c = 2 * c then (match (askT T n c x 2 s).1 with
      | some p => (p, (askT T n c x 2 s).2)
      | none => repT T n x rep m (c + 1) (askT T n c x 2 s).2) else repT T n x rep m (c + 1) s
theorem askT_le (T : Nat → Nat → Int64) (n c x : Nat) : ∀ (m : Nat) (s : sst) (p : Nat), (askT T n c x m s).1 = some p → p ≤ 2 * c + 1
  | 0, s, p, h => by cases h
  | m + 1, s, p, h => by
    unfold askT at h
    split at h
    · cases h
    · split at h
      · have e : pP T s.1.1 c x = p := Option.some.inj h
        rw [← e]
        exact pP_le _ _ _ _
      · exact askT_le T n c x m _ p h
theorem repT_le (T : Nat → Nat → Int64) (n x : Nat) (rep : Nat → Nat) : ∀ (m c : Nat) (s : sst), c + m = x → (repT T n x rep m c s).1 ≤ 2 * x
  | 0, c, s, h => Nat.le_refl _
  | m + 1, c, s, h => by
    unfold repT
    split
    · cases e : (askT T n c x 2 s).1 with
      | some p => have := askT_le T n c x 2 s p e; show p ≤ _; omega
      | none => exact repT_le T n x rep m (c + 1) _ (by omega)
    · exact repT_le T n x rep m (c + 1) _ (by omega)
set_option maxHeartbeats 2000000 in
set_option maxRecDepth 10000 in
theorem lp_rep {d : Nat} {ρ n rw : Nat} {γ : gs} (hρ : ρ ≠ 19) (Pz : ∀ p q, p < 2 * gC γ → q < 2 * gC γ → apt (gW γ) p q (64 * rw) = apt (gW γ) p q (2 ^ n)) (hrw : ∀ w, w < 2 ^ n → w / 64 < rw ∧ w < 4096) {x : Nat} (hx : x < gC γ) {rep : Nat → Nat} (hre : ∀ k, k < x → rep k ≤ 2 * k) : ∀ (m c : Nat) (s : sst) (h : hp), c + m = x → Sh h → GC h ρ n rw γ → SW h rw s → (hI h 31 = fun k => nI (rep k)) → ∃ h', SW h' rw (repT (gW γ) n x rep m c s).2 ∧ FrS h h' ∧ ∀ (Q : resP), Q (some (.int (nI (repT (gW γ) n x rep m c s).1))) h' → ∀ (bc bs : Nat) (ls : List (Nat × Value)), ls.lookup 4 = some (.int (nI c)) → ls.lookup 0 = some (.ref 30) → ls.lookup 1 = some (.int (nI x)) → ls.lookup 2 = some (.ref 21) → ls.lookup 3 = some (.ref 17) → Wp (Ex (d + 3)) 61 Q 3 ls [] h bc bs := by
  intro m
  induction m with
  | zero =>
    intro c s h ht S G W H
    have e : c = x := by omega
    subst e
    refine ⟨h, W, FrS.rf h, ?_⟩
    intro Q hQ bc bs ls l4 l0 l1 l2 l3
    have hQ : Q (some (.int (nI (2 * c)))) h := hQ
    refine r_iload (q61 (i := 2) rfl) l4 ?_
    refine r_iload_n (q61 (i := 3) rfl) l1 ?_
    refine r_icmp 49 (q61 (i := 4) rfl) (by decide) (fun _ => ?_) (fun zz => absurd (show nI c ≤ nI c from Int32.le_refl _) zz)
    refine r_iconst (v := 2) (q61 (i := 27) rfl) (by decide) ?_
    refine r_iload_n (q61 (i := 28) rfl) l1 ?_
    refine r_imul (q61 (i := 29) rfl) ?_
    rw [show (2 * (nI c) : Int32) = nI (2 * c) from nI_mul 2 c]
    exact r_iret (q61 (i := 30) rfl) rfl hQ
  | succ m ih =>
    intro c s h ht S G W H
    have hc9 := G.2.1.2.2.2
    have hcr := hre c (by omega)
    by_cases hr : rep c = 2 * c
    · obtain ⟨h1, R1, W1, F1⟩ := sp_ask (d := d) hρ Pz hrw (show c < x by omega) hx S G W
      have S1 := F1.S S
      cases ea : (askT (gW γ) n c x 2 s).1 with
      | some p =>
        have hp := askT_le _ _ _ _ 2 s p ea
        have e : repT (gW γ) n x rep (m + 1) c s = (p, (askT (gW γ) n c x 2 s).2) := by
          show (if _ then _ else _) = _
          rw [if_pos hr, ea]
        rw [e]
        rw [ea] at R1
        refine ⟨h1, W1, F1, ?_⟩
        intro Q hQ bc bs ls l4 l0 l1 l2 l3
        refine r_iload (q61 (i := 2) rfl) l4 ?_
        refine r_iload_n (q61 (i := 3) rfl) l1 ?_
        refine r_icmp 49 (q61 (i := 4) rfl) (by decide) (fun zz => absurd zz (show ¬ (nI x ≤ nI c) from nI_ge (by omega) (by omega))) (fun _ => ?_)
        refine r_aload_n (q61 (i := 5) rfl) l0 ?_
        refine r_getR (b := 31) (q61 (i := 6) rfl) rfl (by decide) (k_30 S) (fun _ _ _ => rfl) (r_30_0 S) ?_
        refine r_iload (q61 (i := 7) rfl) l4 ?_
        refine r_iaN (x := nI (rep c)) (q61 (i := 8) rfl) (k_31 S) (by omega) (by decide) (congrFun H c) ?_
        refine r_iconst (v := 2) (q61 (i := 9) rfl) (by decide) ?_
        refine r_iload (q61 (i := 10) rfl) l4 ?_
        refine r_imul (q61 (i := 11) rfl) ?_
        rw [show (2 * (nI c) : Int32) = nI (2 * c) from nI_mul 2 c]
        refine r_icmp 43 (q61 (i := 12) rfl) (by decide) (fun zz => absurd zz (show ¬ (¬ nI (rep c) = nI (2 * c)) from fun z => z (by rw [hr]))) (fun _ => ?_)
        refine r_aload_n (q61 (i := 13) rfl) l0 ?_
        refine r_iload (q61 (i := 14) rfl) l4 ?_
        refine r_iload_n (q61 (i := 15) rfl) l1 ?_
        refine r_aload_n (q61 (i := 16) rfl) l2 ?_
        refine r_aload_n (q61 (i := 17) rfl) l3 ?_
        refine r_cV (d := _) (q61 (i := 18) rfl) rfl rfl rfl (k_30 S) (Nat.le_of_ble_eq_true rfl) (Nat.zero_le _) (Nat.zero_le _) R1 ?_
        show Wp _ _ _ 32 ls [.int (nI p)] h1 _ _
        refine r_istore (q61 (i := 19) rfl) (Nat.le_of_ble_eq_true rfl) rfl ?_
        have l4 := lk1 (k := 5) (v := .int (nI p)) l4 (by decide) (Or.inl rfl)
        have l0 := lk1 (k := 5) (v := .int (nI p)) l0 (by decide) (Or.inr (by decide))
        have l1 := lk1 (k := 5) (v := .int (nI p)) l1 (by decide) (Or.inr (by decide))
        have l2 := lk1 (k := 5) (v := .int (nI p)) l2 (by decide) (Or.inr (by decide))
        have l3 := lk1 (k := 5) (v := .int (nI p)) l3 (by decide) (Or.inr (by decide))
        have l5 := lk0 ls 5 (.int (nI p))
        generalize lset1 ls 5 (.int (nI p)) = ls at l5 l4 l0 l1 l2 l3 ⊢
        refine r_iload (q61 (i := 20) rfl) l5 ?_
        refine r_iconst (v := (-1)) (q61 (i := 21) rfl) (by decide) ?_
        refine r_icmp 43 (q61 (i := 22) rfl) (by decide) (fun zz => absurd zz (show ¬ (nI p = (-1)) from nI_ne1 (by omega))) (fun _ => ?_)
        refine r_iload (q61 (i := 23) rfl) l5 ?_
        exact r_iret (q61 (i := 24) rfl) rfl hQ
      | none =>
        have e : repT (gW γ) n x rep (m + 1) c s = repT (gW γ) n x rep m (c + 1) (askT (gW γ) n c x 2 s).2 := by
          show (if _ then _ else _) = _
          rw [if_pos hr, ea]
        rw [e]
        rw [ea] at R1
        obtain ⟨h', W', F', hk⟩ := ih (c + 1) _ h1 (by omega) S1 (F1.G hρ G) W1 ((F1.2.1 31 (by decide) (by decide) (by decide) (by decide)).trans H)
        refine ⟨h', W', F1.tr F', ?_⟩
        intro Q hQ bc bs ls l4 l0 l1 l2 l3
        refine r_iload (q61 (i := 2) rfl) l4 ?_
        refine r_iload_n (q61 (i := 3) rfl) l1 ?_
        refine r_icmp 49 (q61 (i := 4) rfl) (by decide) (fun zz => absurd zz (show ¬ (nI x ≤ nI c) from nI_ge (by omega) (by omega))) (fun _ => ?_)
        refine r_aload_n (q61 (i := 5) rfl) l0 ?_
        refine r_getR (b := 31) (q61 (i := 6) rfl) rfl (by decide) (k_30 S) (fun _ _ _ => rfl) (r_30_0 S) ?_
        refine r_iload (q61 (i := 7) rfl) l4 ?_
        refine r_iaN (x := nI (rep c)) (q61 (i := 8) rfl) (k_31 S) (by omega) (by decide) (congrFun H c) ?_
        refine r_iconst (v := 2) (q61 (i := 9) rfl) (by decide) ?_
        refine r_iload (q61 (i := 10) rfl) l4 ?_
        refine r_imul (q61 (i := 11) rfl) ?_
        rw [show (2 * (nI c) : Int32) = nI (2 * c) from nI_mul 2 c]
        refine r_icmp 43 (q61 (i := 12) rfl) (by decide) (fun zz => absurd zz (show ¬ (¬ nI (rep c) = nI (2 * c)) from fun z => z (by rw [hr]))) (fun _ => ?_)
        refine r_aload_n (q61 (i := 13) rfl) l0 ?_
        refine r_iload (q61 (i := 14) rfl) l4 ?_
        refine r_iload_n (q61 (i := 15) rfl) l1 ?_
        refine r_aload_n (q61 (i := 16) rfl) l2 ?_
        refine r_aload_n (q61 (i := 17) rfl) l3 ?_
        refine r_cV (d := _) (q61 (i := 18) rfl) rfl rfl rfl (k_30 S) (Nat.le_of_ble_eq_true rfl) (Nat.zero_le _) (Nat.zero_le _) R1 ?_
        show Wp _ _ _ 32 ls [.int (-1)] h1 _ _
        refine r_istore (q61 (i := 19) rfl) (Nat.le_of_ble_eq_true rfl) rfl ?_
        have l4 := lk1 (k := 5) (v := .int (-1)) l4 (by decide) (Or.inl rfl)
        have l0 := lk1 (k := 5) (v := .int (-1)) l0 (by decide) (Or.inr (by decide))
        have l1 := lk1 (k := 5) (v := .int (-1)) l1 (by decide) (Or.inr (by decide))
        have l2 := lk1 (k := 5) (v := .int (-1)) l2 (by decide) (Or.inr (by decide))
        have l3 := lk1 (k := 5) (v := .int (-1)) l3 (by decide) (Or.inr (by decide))
        have l5 := lk0 ls 5 (.int (-1))
        generalize lset1 ls 5 (.int (-1)) = ls at l5 l4 l0 l1 l2 l3 ⊢
        refine r_iload (q61 (i := 20) rfl) l5 ?_
        refine r_iconst (v := (-1)) (q61 (i := 21) rfl) (by decide) ?_
        refine r_icmp 43 (q61 (i := 22) rfl) (by decide) (fun _ => ?_) (fun zz => absurd (show (-1 : Int32) = (-1) from by decide) zz)
        refine r_iinc (y := nI (c + 1)) (q61 (i := 25) rfl) (Nat.le_of_ble_eq_true rfl) l4 (nI_1 c) rfl ?_
        have l5 := lk1 (k := 4) (v := .int (nI (c + 1))) l5 (by decide) (Or.inr (by decide))
        have l0 := lk1 (k := 4) (v := .int (nI (c + 1))) l0 (by decide) (Or.inr (by decide))
        have l1 := lk1 (k := 4) (v := .int (nI (c + 1))) l1 (by decide) (Or.inr (by decide))
        have l2 := lk1 (k := 4) (v := .int (nI (c + 1))) l2 (by decide) (Or.inr (by decide))
        have l3 := lk1 (k := 4) (v := .int (nI (c + 1))) l3 (by decide) (Or.inl rfl)
        have l4 := lk0 ls 4 (.int (nI (c + 1)))
        generalize lset1 ls 4 (.int (nI (c + 1))) = ls at l4 l5 l0 l1 l2 l3 ⊢
        refine r_goto 3 (q61 (i := 26) rfl) (by decide) ?_
        exact hk Q hQ bc bs ls l4 l0 l1 l2 l3
    · have e : repT (gW γ) n x rep (m + 1) c s = repT (gW γ) n x rep m (c + 1) s := by
        show (if _ then _ else _) = _
        rw [if_neg hr]
      rw [e]
      obtain ⟨h', W', F', hk⟩ := ih (c + 1) s h (by omega) S G W H
      refine ⟨h', W', F', ?_⟩
      intro Q hQ bc bs ls l4 l0 l1 l2 l3
      refine r_iload (q61 (i := 2) rfl) l4 ?_
      refine r_iload_n (q61 (i := 3) rfl) l1 ?_
      refine r_icmp 49 (q61 (i := 4) rfl) (by decide) (fun zz => absurd zz (show ¬ (nI x ≤ nI c) from nI_ge (by omega) (by omega))) (fun _ => ?_)
      refine r_aload_n (q61 (i := 5) rfl) l0 ?_
      refine r_getR (b := 31) (q61 (i := 6) rfl) rfl (by decide) (k_30 S) (fun _ _ _ => rfl) (r_30_0 S) ?_
      refine r_iload (q61 (i := 7) rfl) l4 ?_
      refine r_iaN (x := nI (rep c)) (q61 (i := 8) rfl) (k_31 S) (by omega) (by decide) (congrFun H c) ?_
      refine r_iconst (v := 2) (q61 (i := 9) rfl) (by decide) ?_
      refine r_iload (q61 (i := 10) rfl) l4 ?_
      refine r_imul (q61 (i := 11) rfl) ?_
      rw [show (2 * (nI c) : Int32) = nI (2 * c) from nI_mul 2 c]
      refine r_icmp 43 (q61 (i := 12) rfl) (by decide) (fun _ => ?_) (fun zz => absurd (show ¬ nI (rep c) = nI (2 * c) from neN (by omega) (by omega) hr) zz)
      refine r_iinc (y := nI (c + 1)) (q61 (i := 25) rfl) (Nat.le_of_ble_eq_true rfl) l4 (nI_1 c) rfl ?_
      have l0 := lk1 (k := 4) (v := .int (nI (c + 1))) l0 (by decide) (Or.inr (by decide))
      have l1 := lk1 (k := 4) (v := .int (nI (c + 1))) l1 (by decide) (Or.inr (by decide))
      have l2 := lk1 (k := 4) (v := .int (nI (c + 1))) l2 (by decide) (Or.inr (by decide))
      have l3 := lk1 (k := 4) (v := .int (nI (c + 1))) l3 (by decide) (Or.inl rfl)
      have l4 := lk0 ls 4 (.int (nI (c + 1)))
      generalize lset1 ls 4 (.int (nI (c + 1))) = ls at l4 l0 l1 l2 l3 ⊢
      refine r_goto 3 (q61 (i := 26) rfl) (by decide) ?_
      exact hk Q hQ bc bs ls l4 l0 l1 l2 l3
set_option maxHeartbeats 2000000 in
set_option maxRecDepth 10000 in
theorem sp_rep {d : Nat} {ρ n rw : Nat} {γ : gs} (hρ : ρ ≠ 19) (Pz : ∀ p q, p < 2 * gC γ → q < 2 * gC γ → apt (gW γ) p q (64 * rw) = apt (gW γ) p q (2 ^ n)) (hrw : ∀ w, w < 2 ^ n → w / 64 < rw ∧ w < 4096) {x : Nat} (hx : x < gC γ) {rep : Nat → Nat} (hre : ∀ k, k < x → rep k ≤ 2 * k) {s : sst} {h : hp} (S : Sh h) (G : GC h ρ n rw γ) (W : SW h rw s) (H : hI h 31 = fun k => nI (rep k)) : ∃ h', Run (d + 3 + 1) 61 [.ref 30, .int (nI x), .ref 21, .ref 17] h 0 0 (some (.int (nI (repT (gW γ) n x rep x 0 s).1))) h' ∧ SW h' rw (repT (gW γ) n x rep x 0 s).2 ∧ FrS h h' := by
  obtain ⟨h', W', F', hk⟩ := lp_rep (d := d) hρ Pz hrw hx hre x 0 s h (Nat.zero_add x) S G W H
  refine ⟨h', ?_, W', F'⟩
  refine Run.of (Nat.le_of_ble_eq_true rfl) (fun Q hQ => ?_)
  show Wp (Ex (d + 3)) 61 Q 0 [(0, .ref 30), (1, .int (nI x)), (2, .ref 21), (3, .ref 17)] [] h 0 0
  refine r_iconst (v := 0) (q61 (i := 0) rfl) (by decide) ?_
  refine r_istore (ls' := [(4, .int 0), (0, .ref 30), (1, .int (nI x)), (2, .ref 21), (3, .ref 17)]) (q61 (i := 1) rfl) (Nat.le_of_ble_eq_true rfl) rfl ?_
  exact hk Q hQ _ _ _ rfl rfl rfl rfl rfl
abbrev swt : Type := sst × (Nat → Nat) × Nat
/-- the SWEEP behind the nodes up to i -/
noncomputable def swT (T : Nat → Nat → Int64) (n : Nat) (v : vs) (rep : Nat → Nat) : Nat → swt
  | 0 => ((v, 0, 0), u1 rep 0 0, 0)
  | i + 1 => ((repT T n (i + 1) (swT T n v rep i).2.1 (i + 1) 0 (swT T n v rep i).1).2, u1 (swT T n v rep i).2.1 (i + 1) (repT T n (i + 1) (swT T n v rep i).2.1 (i + 1) 0 (swT T n v rep i).1).1, (swT T n v rep i).2.2 + if (repT T n (i + 1) (swT T n v rep i).2.1 (i + 1) 0 (swT T n v rep i).1).1 = 2 * (i + 1) then 0 else 1)
theorem swT_le (T : Nat → Nat → Int64) (n : Nat) (v : vs) (rep : Nat → Nat) : ∀ i k, k ≤ i → (swT T n v rep i).2.1 k ≤ 2 * k
  | 0, k, h => by
    have e : k = 0 := by omega
    subst e
    exact Nat.le_refl 0
  | i + 1, k, h => by
    show u1 (swT T n v rep i).2.1 (i + 1) _ k ≤ _
    by_cases q : k = i + 1
    · rw [q, u1_s]
      exact repT_le _ _ _ _ _ _ _ (by omega)
    · rw [u1_n q]
      exact swT_le T n v rep i k (by omega)
def FrT (h h' : hp) : Prop := h'.2.2 = h.2.2 ∧ (∀ k, k ≠ 17 → k ≠ 18 → k ≠ 20 → k ≠ 30 → k ≠ 31 → k ≠ 32 → hI h' k = hI h k) ∧ ∀ k, k ≠ 19 → hJ h' k = hJ h k
theorem FrT.tr {h h' h'' : hp} (a : FrT h h') (b : FrT h' h'') : FrT h h'' := ⟨b.1.trans a.1, fun k x y z t u v => (b.2.1 k x y z t u v).trans (a.2.1 k x y z t u v), fun k x => (b.2.2 k x).trans (a.2.2 k x)⟩
theorem FrS.T {h h' : hp} (F : FrS h h') : FrT h h' := ⟨F.1, fun k x y z t _ _ => F.2.1 k x y z t, F.2.2.1⟩
theorem FrT.S {h h' : hp} (F : FrT h h') (S : Sh h) : Sh h' := S.to F.1
theorem FrT.G {h h' : hp} (F : FrT h h') {ρ n rw : Nat} {γ : gs} (hρ : ρ ≠ 19) (G : GC h ρ n rw γ) : GC h' ρ n rw γ := by
  obtain ⟨h2, hi, hj⟩ := F
  unfold GC Rw hR hK at *
  rw [h2, hi 21 (by decide) (by decide) (by decide) (by decide) (by decide) (by decide), hi 22 (by decide) (by decide) (by decide) (by decide) (by decide) (by decide), hi 23 (by decide) (by decide) (by decide) (by decide) (by decide) (by decide), hi 24 (by decide) (by decide) (by decide) (by decide) (by decide) (by decide), hi 25 (by decide) (by decide) (by decide) (by decide) (by decide) (by decide), hj ρ hρ]
  exact G
theorem FrT.w {h : hp} {a : Nat} (ha : a = 30 ∨ a = 31 ∨ a = 32) (i : Nat) (v : Int32) : FrT h (sI h a i v) := ⟨rfl, fun k _ _ _ x y z => by
  show u2 h.1 a _ _ k = _
  rw [u2_n (by omega)], fun _ _ => rfl⟩
def SWR (h : hp) (rw : Nat) (r : swt) : Prop := SW h rw r.1 ∧ (hI h 31 = fun k => nI (r.2.1 k)) ∧ hI h 30 4 = nI r.2.2
theorem nIu1 (f : Nat → Nat) (k v : Nat) : u1 (fun j => nI (f j)) k (nI v) = fun j => nI (u1 f k v j) := by
  funext j
  unfold u1
  split <;> rfl
set_option maxHeartbeats 2000000 in
set_option maxRecDepth 10000 in
theorem lp_run {d : Nat} {ρ n rw : Nat} {γ : gs} (hρ : ρ ≠ 19) (Pz : ∀ p q, p < 2 * gC γ → q < 2 * gC γ → apt (gW γ) p q (64 * rw) = apt (gW γ) p q (2 ^ n)) (hrw : ∀ w, w < 2 ^ n → w / 64 < rw ∧ w < 4096)  {v : vs} {rep : Nat → Nat} : ∀ (m i : Nat) (h : hp), i + 1 + m = gC γ → Sh h → GC h ρ n rw γ → SWR h rw (swT (gW γ) n v rep i) → ∃ h', SWR h' rw (swT (gW γ) n v rep (gC γ - 1)) ∧ FrT h h' ∧ ∀ (Q : resP), Q none h' → ∀ (bc bs : Nat) (ls : List (Nat × Value)), ls.lookup 3 = some (.int (nI (i + 1))) → ls.lookup 0 = some (.ref 30) → ls.lookup 1 = some (.ref 21) → ls.lookup 2 = some (.ref 17) → Wp (Ex (d + 4)) 60 Q 24 ls [] h bc bs := by
  intro m
  induction m with
  | zero =>
    intro i h hm S G W
    have e : i + 1 = gC γ := by omega
    have e9 := G.2.1.2.2.1
    refine ⟨h, by rw [← e]; exact W, (FrS.rf h).T, ?_⟩
    intro Q hQ bc bs ls l3 l0 l1 l2
    rw [← e] at e9
    refine r_iload_n (q60 (i := 16) rfl) l3 ?_
    refine r_aload_n (q60 (i := 17) rfl) l1 ?_
    refine r_getI (x := nI (i + 1)) (q60 (i := 18) rfl) rfl (by decide) (k_21 S) (fun _ _ _ => rfl) e9 ?_
    refine r_icmp 73 (q60 (i := 19) rfl) (by decide) (fun _ => ?_) (fun zz => absurd (show nI (i + 1) ≤ nI (i + 1) from Int32.le_refl _) zz)
    exact r_vret (q60 (i := 45) rfl) rfl hQ
  | succ m ih =>
    intro i h hm S G W
    have e9 := G.2.1.2.2.1
    have hc9 := G.2.1.2.2.2
    obtain ⟨W1, W2, W3⟩ := W
    obtain ⟨h1, R1, X1, F1⟩ := sp_rep (d := d) hρ Pz hrw (show i + 1 < gC γ by omega) (fun k hk => swT_le (gW γ) n v rep i k (by omega)) S G W1 W2
    have S1 := F1.S S
    have hle := repT_le (gW γ) n (i + 1) (swT (gW γ) n v rep i).2.1 (i + 1) 0 (swT (gW γ) n v rep i).1 (Nat.zero_add _)
    obtain ⟨r, er⟩ : ∃ r, r = (repT (gW γ) n (i + 1) (swT (gW γ) n v rep i).2.1 (i + 1) 0 (swT (gW γ) n v rep i).1).1 := ⟨_, rfl⟩
    rw [← er] at hle R1
    have H31 : hI h1 31 = fun k => nI ((swT (gW γ) n v rep i).2.1 k) := (F1.2.1 31 (by decide) (by decide) (by decide) (by decide)).trans W2
    have H4 : hI h1 30 4 = nI (swT (gW γ) n v rep i).2.2 := (F1.2.2.2 4 (by decide) (by decide)).trans W3
    have X2 : SW (sI h1 31 (i + 1) (nI r)) rw (swT (gW γ) n v rep (i + 1)).1 := X1
    have H32 : hI (sI h1 31 (i + 1) (nI r)) 31 = fun k => nI ((swT (gW γ) n v rep (i + 1)).2.1 k) := by
      show u1 (hI h1 31) (i + 1) (nI r) = _
      rw [H31, nIu1, er]
      rfl
    have F2 : FrT h (sI h1 31 (i + 1) (nI r)) := F1.T.tr (FrT.w (by decide) _ _)
    by_cases q : r = 2 * (i + 1)
    · have e : (swT (gW γ) n v rep (i + 1)).2.2 = (swT (gW γ) n v rep i).2.2 := by
        show (swT (gW γ) n v rep i).2.2 + (if _ then 0 else 1) = _
        rw [← er, if_pos q, Nat.add_zero]
      obtain ⟨h', W', F', hk⟩ := ih (i + 1) (sI h1 31 (i + 1) (nI r)) (by omega) (F2.S S) (F2.G hρ G) ⟨X2, H32, by rw [e]; exact H4⟩
      refine ⟨h', W', F2.tr F', ?_⟩
      intro Q hQ bc bs ls l3 l0 l1 l2
      have c54 : nI r = nI (2 * (i + 1)) := by rw [q]
      refine r_iload_n (q60 (i := 16) rfl) l3 ?_
      refine r_aload_n (q60 (i := 17) rfl) l1 ?_
      refine r_getI (x := nI (gC γ)) (q60 (i := 18) rfl) rfl (by decide) (k_21 S) (fun _ _ _ => rfl) e9 ?_
      refine r_icmp 73 (q60 (i := 19) rfl) (by decide) (fun zz => absurd zz (show ¬ (nI (gC γ) ≤ nI (i + 1)) from nI_ge (by omega) (by omega))) (fun _ => ?_)
      refine r_aload_n (q60 (i := 20) rfl) l0 ?_
      refine r_getR (b := 31) (q60 (i := 21) rfl) rfl (by decide) (k_30 S) (fun _ _ _ => rfl) (r_30_0 S) ?_
      refine r_iload_n (q60 (i := 22) rfl) l3 ?_
      refine r_aload_n (q60 (i := 23) rfl) l0 ?_
      refine r_iload_n (q60 (i := 24) rfl) l3 ?_
      refine r_aload_n (q60 (i := 25) rfl) l1 ?_
      refine r_aload_n (q60 (i := 26) rfl) l2 ?_
      refine r_cV (d := _) (q60 (i := 27) rfl) rfl rfl rfl (k_30 S) (Nat.le_of_ble_eq_true rfl) (Nat.zero_le _) (Nat.zero_le _) R1 ?_
      show Wp _ _ _ 44 ls [.int (nI r), .int (nI (i + 1)), .ref 31] h1 _ _
      refine r_iasN (q60 (i := 28) rfl) (k_31 S1) (by omega) (by decide) ?_
      refine r_aload_n (q60 (i := 29) rfl) l0 ?_
      refine r_getR (b := 31) (q60 (i := 30) rfl) rfl (by decide) (k_30 S1) (fun _ _ _ => rfl) (r_30_0 S1) ?_
      refine r_iload_n (q60 (i := 31) rfl) l3 ?_
      refine r_iaN (x := nI r) (q60 (i := 32) rfl) (k_31 S1) (by omega) (by decide) u1_s ?_
      refine r_iconst (v := 2) (q60 (i := 33) rfl) (by decide) ?_
      refine r_iload_n (q60 (i := 34) rfl) l3 ?_
      refine r_imul (q60 (i := 35) rfl) ?_
      rw [show (2 * (nI (i + 1)) : Int32) = nI (2 * (i + 1)) from nI_mul 2 (i + 1)]
      refine r_icmp 67 (q60 (i := 36) rfl) (by decide) (fun _ => ?_) (fun zz => absurd (show nI r = nI (2 * (i + 1)) from c54) zz)
      refine r_iinc (y := nI (i + 1 + 1)) (q60 (i := 43) rfl) (Nat.le_of_ble_eq_true rfl) l3 (nI_1 (i + 1)) rfl ?_
      have l0 := lk1 (k := 3) (v := .int (nI (i + 1 + 1))) l0 (by decide) (Or.inr (by decide))
      have l1 := lk1 (k := 3) (v := .int (nI (i + 1 + 1))) l1 (by decide) (Or.inr (by decide))
      have l2 := lk1 (k := 3) (v := .int (nI (i + 1 + 1))) l2 (by decide) (Or.inl rfl)
      have l3 := lk0 ls 3 (.int (nI (i + 1 + 1)))
      generalize lset1 ls 3 (.int (nI (i + 1 + 1))) = ls at l3 l0 l1 l2 ⊢
      refine r_goto 24 (q60 (i := 44) rfl) (by decide) ?_
      exact hk Q hQ bc bs ls l3 l0 l1 l2
    · have e : (swT (gW γ) n v rep (i + 1)).2.2 = (swT (gW γ) n v rep i).2.2 + 1 := by
        show (swT (gW γ) n v rep i).2.2 + (if _ then 0 else 1) = _
        rw [← er, if_neg q]
      have F3 := F2.tr (FrT.w (h := sI h1 31 (i + 1) (nI r)) (a := 30) (by decide) 4 (nI ((swT (gW γ) n v rep i).2.2 + 1)))
      obtain ⟨h', W', F', hk⟩ := ih (i + 1) (sI (sI h1 31 (i + 1) (nI r)) 30 4 (nI ((swT (gW γ) n v rep i).2.2 + 1))) (by omega) (F3.S S) (F3.G hρ G) ⟨X2, H32, by rw [e]; rfl⟩
      refine ⟨h', W', F3.tr F', ?_⟩
      intro Q hQ bc bs ls l3 l0 l1 l2
      have c54 := neN (a := r) (b := 2 * (i + 1)) (by omega) (by omega) q
      refine r_iload_n (q60 (i := 16) rfl) l3 ?_
      refine r_aload_n (q60 (i := 17) rfl) l1 ?_
      refine r_getI (x := nI (gC γ)) (q60 (i := 18) rfl) rfl (by decide) (k_21 S) (fun _ _ _ => rfl) e9 ?_
      refine r_icmp 73 (q60 (i := 19) rfl) (by decide) (fun zz => absurd zz (show ¬ (nI (gC γ) ≤ nI (i + 1)) from nI_ge (by omega) (by omega))) (fun _ => ?_)
      refine r_aload_n (q60 (i := 20) rfl) l0 ?_
      refine r_getR (b := 31) (q60 (i := 21) rfl) rfl (by decide) (k_30 S) (fun _ _ _ => rfl) (r_30_0 S) ?_
      refine r_iload_n (q60 (i := 22) rfl) l3 ?_
      refine r_aload_n (q60 (i := 23) rfl) l0 ?_
      refine r_iload_n (q60 (i := 24) rfl) l3 ?_
      refine r_aload_n (q60 (i := 25) rfl) l1 ?_
      refine r_aload_n (q60 (i := 26) rfl) l2 ?_
      refine r_cV (d := _) (q60 (i := 27) rfl) rfl rfl rfl (k_30 S) (Nat.le_of_ble_eq_true rfl) (Nat.zero_le _) (Nat.zero_le _) R1 ?_
      show Wp _ _ _ 44 ls [.int (nI r), .int (nI (i + 1)), .ref 31] h1 _ _
      refine r_iasN (q60 (i := 28) rfl) (k_31 S1) (by omega) (by decide) ?_
      refine r_aload_n (q60 (i := 29) rfl) l0 ?_
      refine r_getR (b := 31) (q60 (i := 30) rfl) rfl (by decide) (k_30 S1) (fun _ _ _ => rfl) (r_30_0 S1) ?_
      refine r_iload_n (q60 (i := 31) rfl) l3 ?_
      refine r_iaN (x := nI r) (q60 (i := 32) rfl) (k_31 S1) (by omega) (by decide) u1_s ?_
      refine r_iconst (v := 2) (q60 (i := 33) rfl) (by decide) ?_
      refine r_iload_n (q60 (i := 34) rfl) l3 ?_
      refine r_imul (q60 (i := 35) rfl) ?_
      rw [show (2 * (nI (i + 1)) : Int32) = nI (2 * (i + 1)) from nI_mul 2 (i + 1)]
      refine r_icmp 67 (q60 (i := 36) rfl) (by decide) (fun zz => absurd zz (show ¬ (nI r = nI (2 * (i + 1))) from c54)) (fun _ => ?_)
      refine r_aload_n (q60 (i := 37) rfl) l0 ?_
      refine r_dup (q60 (i := 38) rfl) rfl ?_
      refine r_getI (x := nI (swT (gW γ) n v rep i).2.2) (q60 (i := 39) rfl) rfl (by decide) (k_30 S1) (fun _ _ _ => rfl) H4 ?_
      refine r_iconst (v := 1) (q60 (i := 40) rfl) (by decide) ?_
      refine r_iadd (q60 (i := 41) rfl) ?_
      rw [show ((nI (swT (gW γ) n v rep i).2.2) + 1 : Int32) = nI ((swT (gW γ) n v rep i).2.2 + 1) from nI_1 _]
      refine r_putI (q60 (i := 42) rfl) rfl (by decide) (k_30 S1) rfl rfl ?_
      refine r_iinc (y := nI (i + 1 + 1)) (q60 (i := 43) rfl) (Nat.le_of_ble_eq_true rfl) l3 (nI_1 (i + 1)) rfl ?_
      have l0 := lk1 (k := 3) (v := .int (nI (i + 1 + 1))) l0 (by decide) (Or.inr (by decide))
      have l1 := lk1 (k := 3) (v := .int (nI (i + 1 + 1))) l1 (by decide) (Or.inr (by decide))
      have l2 := lk1 (k := 3) (v := .int (nI (i + 1 + 1))) l2 (by decide) (Or.inl rfl)
      have l3 := lk0 ls 3 (.int (nI (i + 1 + 1)))
      generalize lset1 ls 3 (.int (nI (i + 1 + 1))) = ls at l3 l0 l1 l2 ⊢
      refine r_goto 24 (q60 (i := 44) rfl) (by decide) ?_
      exact hk Q hQ bc bs ls l3 l0 l1 l2
set_option maxHeartbeats 2000000 in
set_option maxRecDepth 10000 in
theorem sp_run {d : Nat} {ρ n rw : Nat} {γ : gs} (hρ : ρ ≠ 19) (Pz : ∀ p q, p < 2 * gC γ → q < 2 * gC γ → apt (gW γ) p q (64 * rw) = apt (gW γ) p q (2 ^ n)) (hrw : ∀ w, w < 2 ^ n → w / 64 < rw ∧ w < 4096)  (hc1 : 1 ≤ gC γ) {v : vs} {rep : Nat → Nat} {h : hp} (S : Sh h) (G : GC h ρ n rw γ) (C : VC h rw v) (K : vok v) (H : hI h 31 = fun k => nI (rep k)) : ∃ h', Run (d + 4 + 1) 60 [.ref 30, .ref 21, .ref 17] h 0 0 none h' ∧ SWR h' rw (swT (gW γ) n v rep (gC γ - 1)) ∧ FrT h h' := by
  have F0 : FrT h (sI (sI (sI (sI h 30 2 0) 30 3 0) 30 4 0) 31 0 0) := (((FrT.w (by decide) _ _).tr (FrT.w (by decide) _ _)).tr (FrT.w (by decide) _ _)).tr (FrT.w (by decide) _ _)
  obtain ⟨h', W', F', hk⟩ := lp_run (d := d) hρ Pz hrw (v := v) (rep := rep) (gC γ - 1) 0 (sI (sI (sI (sI h 30 2 0) 30 3 0) 30 4 0) 31 0 0) (by omega) (F0.S S) (F0.G hρ G) ⟨⟨C, rfl, rfl, K⟩, by
    show u1 (hI h 31) 0 (nI 0) = _
    rw [H, nIu1]
    rfl, rfl⟩
  refine ⟨h', ?_, W', F0.tr F'⟩
  refine Run.of (Nat.le_of_ble_eq_true rfl) (fun Q hQ => ?_)
  show Wp (Ex (d + 4)) 60 Q 0 [(0, .ref 30), (1, .ref 21), (2, .ref 17)] [] h 0 0
  refine r_aload_n (q60 (i := 0) rfl) rfl ?_
  refine r_iconst (v := 0) (q60 (i := 1) rfl) (by decide) ?_
  refine r_putI (q60 (i := 2) rfl) rfl (by decide) (k_30 S) rfl rfl ?_
  refine r_aload_n (q60 (i := 3) rfl) rfl ?_
  refine r_iconst (v := 0) (q60 (i := 4) rfl) (by decide) ?_
  refine r_putI (q60 (i := 5) rfl) rfl (by decide) (k_30 S) rfl rfl ?_
  refine r_aload_n (q60 (i := 6) rfl) rfl ?_
  refine r_iconst (v := 0) (q60 (i := 7) rfl) (by decide) ?_
  refine r_putI (q60 (i := 8) rfl) rfl (by decide) (k_30 S) rfl rfl ?_
  refine r_aload_n (q60 (i := 9) rfl) rfl ?_
  refine r_getR (b := 31) (q60 (i := 10) rfl) rfl (by decide) (k_30 S) (fun _ _ _ => rfl) (r_30_0 S) ?_
  refine r_iconst (v := 0) (q60 (i := 11) rfl) (by decide) ?_
  refine r_iconst (v := 0) (q60 (i := 12) rfl) (by decide) ?_
  refine r_iastore (q60 (i := 13) rfl) (k_31 S) (vp_in_nI (n := 0) (by decide) (by decide)) ?_
  show Wp _ _ _ _ _ _ (sI (sI (sI (sI h 30 2 0) 30 3 0) 30 4 0) 31 0 0) _ _
  refine r_iconst (v := 1) (q60 (i := 14) rfl) (by decide) ?_
  refine r_istore_n (ls' := [(3, .int 1), (0, .ref 30), (1, .ref 21), (2, .ref 17)]) (q60 (i := 15) rfl) (Nat.le_of_ble_eq_true rfl) rfl ?_
  exact hk Q hQ _ _ _ rfl rfl rfl rfl
