/-! ===== makeAnd ===== -/
def newH (h : hp) (ρ n rw : Nat) (γ : gs) (l r : Nat) : hp := if gfind n (gL γ) (gR γ) l r (gC γ) = 0 then addH h ρ n rw γ l r else h
theorem newH_ok {h : hp} {ρ n rw : Nat} {γ : gs} (G : GC h ρ n rw γ) (W : gwf n γ) {l r : Nat} (hlr : l < r) (hr : r < 2 * gC γ) (hc3 : gC γ < 973) : GC (newH h ρ n rw γ l r) ρ n rw (gnew n γ l r).2 ∧ FrG ρ h (newH h ρ n rw γ l r) := by
  unfold newH gnew
  split
  · exact addH_ok G W hlr hr hc3
  · exact ⟨G, FrG.rf ρ h⟩
theorem neN {a b : Nat} (ha : a < 2 ^ 31) (hb : b < 2 ^ 31) (h : a ≠ b) : ¬ nI a = nI b := fun z => h ((nI_eq ha hb).mp z)
set_option maxHeartbeats 2000000 in
set_option maxRecDepth 10000 in
theorem lp_makeAnd {d : Nat} {h : hp} (S : Sh h) {ρ n rw : Nat} {γ : gs} (G : GC h ρ n rw γ) (W : gwf n γ) {l r : Nat} (hlr : l < r) (hr : r < 2 * gC γ) (hc3 : gC γ < 973) {Q : resP} (hQ : Q (some (.int (nI (gnew n γ l r).1))) (newH h ρ n rw γ l r)) {bc bs : Nat} : ∀ (m t : Nat), m ≤ gC γ → t + m ≤ gC γ → gfind n (gL γ) (gR γ) l r (gC γ) = gfind n (gL γ) (gR γ) l r m → ∀ ls : List (Nat × Value), ls.lookup 5 = some (.int (nI (prv n (gL γ) l m))) → ls.lookup 6 = some (.int (nI t)) → ls.lookup 3 = some (.int (nI l)) → ls.lookup 4 = some (.int (nI r)) → ls.lookup 0 = some (.ref 21) → Wp (Ex (d + 2)) 52 Q 60 ls [] h bc bs := by
  have G0 := G
  obtain ⟨⟨⟨ℓ, hRw, hℓ, hℓ1⟩, hr1, hr2, hn12⟩, ⟨e7, e8, e9, hc⟩, eLR, eCh, eNx, eRow⟩ := G
  intro m
  induction m using Nat.strongRecOn with
  | _ m ih =>
    intro t hm ht hg ls l5 l6 l3 l4 l0
    have fin : gfind n (gL γ) (gR γ) l r m = 0 → Wp (Ex (d + 2)) 52 Q 105 ls [] h bc bs := by
      intro hz
      refine r_aload_n (q52 (i := 61) rfl) l0 ?_
      refine r_iload_n (q52 (i := 62) rfl) l3 ?_
      refine r_iload (q52 (i := 63) rfl) l4 ?_
      refine r_cV (d := _) (q52 (i := 64) rfl) rfl rfl rfl (k_21 S) (Nat.le_of_ble_eq_true rfl) (Nat.zero_le _) (Nat.zero_le _) (sp_addAnd0 S G0 (by omega) hr hc3 W.1) ?_
      exact r_iret (q52 (i := 65) rfl) rfl (by unfold newH gnew at hQ; rw [if_pos (hg.trans hz), if_pos (hg.trans hz)] at hQ; exact hQ)
    refine r_iload (q52 (i := 39) rfl) l6 ?_
    refine r_sipush (v := 973) (q52 (i := 40) rfl) (by decide) ?_
    refine r_icmp 105 (q52 (i := 41) rfl) (by decide) (fun c1 => ?_) (fun c1 => ?_)
    · have c1 : 973 ≤ nI t := c1
      have c1 : 973 ≤ t := (nI_leI (a := 973) (by decide) (by omega)).mp c1
      exact fin (by rw [show m = 0 by omega]; rfl)
    · have c1 : ¬ (973 ≤ nI t) := c1
      refine r_iload (q52 (i := 42) rfl) l5 ?_
      refine r_if 105 (q52 (i := 43) rfl) (by decide) (fun c2 => ?_) (fun c2 => ?_)
      · have c2 : nI (prv n (gL γ) l m) = 0 := c2
        have c2 : prv n (gL γ) l m = 0 := (nI_eq (b := 0) (by have := prv_lt n (gL γ) l m; by_cases q : prv n (gL γ) l m = 0; omega; have := this q; omega) (by decide)).mp c2
        exact fin (gfind_0 n _ _ l r m c2)
      · have c2 : ¬ (nI (prv n (gL γ) l m) = 0) := c2
        have c2 : prv n (gL γ) l m ≠ 0 := fun q => c2 (by rw [q]; rfl)
        obtain ⟨x1, x2, x3⟩ := prv_lt n (gL γ) l m c2
        have gp := gfind_prv n (gL γ) (gR γ) l r m c2
        generalize hx : prv n (gL γ) l m = x at l5 x1 x2 x3 gp c2 ⊢
        refine r_aload_n (q52 (i := 44) rfl) l0 ?_
        refine r_getR (b := 23) (q52 (i := 45) rfl) rfl (by decide) (k_21 S) (fun _ _ _ => rfl) (r_21_3 S) ?_
        refine r_iload (q52 (i := 46) rfl) l5 ?_
        refine r_iaN (x := nI (gR γ x)) (q52 (i := 47) rfl) (k_23 S) (by omega) (by decide) ((eLR x (by omega)).2) ?_
        refine r_iload (q52 (i := 48) rfl) l4 ?_
        refine r_icmp 90 (q52 (i := 49) rfl) (by decide) (fun c3 => ?_) (fun c3 => ?_)
        · have c3 : ¬ nI (gR γ x) = nI r := c3
          have c3 : gR γ x ≠ r := fun q => c3 (by rw [q])
          rw [if_neg c3] at gp
          refine r_aload_n (q52 (i := 54) rfl) l0 ?_
          refine r_getR (b := 25) (q52 (i := 55) rfl) rfl (by decide) (k_21 S) (fun _ _ _ => rfl) (r_21_5 S) ?_
          refine r_iload (q52 (i := 56) rfl) l5 ?_
          refine r_iaN (x := nI (prv n (gL γ) l x)) (q52 (i := 57) rfl) (k_25 S) (by omega) (by decide) (by rw [eNx x x1 (by omega), x3]) ?_
          refine r_istore (q52 (i := 58) rfl) (Nat.le_of_ble_eq_true rfl) rfl ?_
          have l6 := lk1 (k := 5) (v := .int (nI (prv n (gL γ) l x))) l6 (by decide) (Or.inr (by decide))
          have l3 := lk1 (k := 5) (v := .int (nI (prv n (gL γ) l x))) l3 (by decide) (Or.inr (by decide))
          have l4 := lk1 (k := 5) (v := .int (nI (prv n (gL γ) l x))) l4 (by decide) (Or.inl rfl)
          have l0 := lk1 (k := 5) (v := .int (nI (prv n (gL γ) l x))) l0 (by decide) (Or.inr (by decide))
          have l5 := lk0 ls 5 (.int (nI (prv n (gL γ) l x)))
          generalize lset1 ls 5 (.int (nI (prv n (gL γ) l x))) = ls at l5 l6 l3 l4 l0 ⊢
          refine r_iinc (y := nI (t + 1)) (q52 (i := 59) rfl) (Nat.le_of_ble_eq_true rfl) l6 (nI_1 t) rfl ?_
          have l5 := lk1 (k := 6) (v := .int (nI (t + 1))) l5 (by decide) (Or.inl rfl)
          have l3 := lk1 (k := 6) (v := .int (nI (t + 1))) l3 (by decide) (Or.inr (by decide))
          have l4 := lk1 (k := 6) (v := .int (nI (t + 1))) l4 (by decide) (Or.inr (by decide))
          have l0 := lk1 (k := 6) (v := .int (nI (t + 1))) l0 (by decide) (Or.inr (by decide))
          have l6 := lk0 ls 6 (.int (nI (t + 1)))
          generalize lset1 ls 6 (.int (nI (t + 1))) = ls at l6 l5 l3 l4 l0 ⊢
          refine r_goto 60 (q52 (i := 60) rfl) (by decide) ?_
          exact ih x x2 (t + 1) (by omega) (by omega) (hg.trans gp) ls l5 l6 l3 l4 l0
        · have c3 : ¬ (¬ nI (gR γ x) = nI r) := c3
          have c3 : gR γ x = r := (nI_eq (by have := W.2.1 x x1 (by omega); omega) (by omega)).mp (Classical.not_not.mp c3)
          rw [if_pos c3] at gp
          refine r_iconst (v := 2) (q52 (i := 50) rfl) (by decide) ?_
          refine r_iload (q52 (i := 51) rfl) l5 ?_
          refine r_imul (q52 (i := 52) rfl) ?_
          rw [show (2 * (nI x) : Int32) = nI (2 * x) from pk_mul 2 x]
          exact r_iret (q52 (i := 53) rfl) rfl (by unfold newH gnew at hQ; rw [hg, gp, if_neg c2, if_neg c2] at hQ; exact hQ)
set_option maxHeartbeats 2000000 in
set_option maxRecDepth 10000 in
theorem mA_0 {d : Nat} {h : hp} (S : Sh h) {ρ n rw : Nat} {γ : gs} (G : GC h ρ n rw γ) (W : gwf n γ) {p q : Nat} (hp : p < 2 * gC γ) (hq : q < 2 * gC γ) (hc3 : gC γ < 973) (h0 : p = 0) : Run (d + 2 + 1) 52 [.ref 21, .int (nI p), .int (nI q)] h 0 0 (some (.int (nI 0))) h := by
  have G0 := G
  obtain ⟨⟨⟨ℓ, hRw, hℓ, hℓ1⟩, hr1, hr2, hn12⟩, ⟨e7, e8, e9, hc⟩, eLR, eCh, eNx, eRow⟩ := G
  refine Run.of (Nat.le_of_ble_eq_true rfl) (fun Q hQ => ?_)
  show Wp (Ex (d + 2)) 52 Q 0 [(0, .ref 21), (1, .int (nI p)), (2, .int (nI q))] [] h 0 0
  refine r_iload_n (q52 (i := 0) rfl) rfl ?_
  refine r_if 15 (q52 (i := 1) rfl) (by decide) (fun _ => ?_) (fun c => absurd (show nI p = 0 from (congrArg nI h0 : nI p = nI 0)) c)
  refine r_iconst (v := 0) (q52 (i := 9) rfl) (by decide) ?_
  exact r_iret (q52 (i := 10) rfl) rfl hQ
set_option maxHeartbeats 2000000 in
set_option maxRecDepth 10000 in
theorem mA_1 {d : Nat} {h : hp} (S : Sh h) {ρ n rw : Nat} {γ : gs} (G : GC h ρ n rw γ) (W : gwf n γ) {p q : Nat} (hp : p < 2 * gC γ) (hq : q < 2 * gC γ) (hc3 : gC γ < 973) (h0 : p ≠ 0) (h1 : q = 0) : Run (d + 2 + 1) 52 [.ref 21, .int (nI p), .int (nI q)] h 0 0 (some (.int (nI 0))) h := by
  have G0 := G
  obtain ⟨⟨⟨ℓ, hRw, hℓ, hℓ1⟩, hr1, hr2, hn12⟩, ⟨e7, e8, e9, hc⟩, eLR, eCh, eNx, eRow⟩ := G
  refine Run.of (Nat.le_of_ble_eq_true rfl) (fun Q hQ => ?_)
  show Wp (Ex (d + 2)) 52 Q 0 [(0, .ref 21), (1, .int (nI p)), (2, .int (nI q))] [] h 0 0
  refine r_iload_n (q52 (i := 0) rfl) rfl ?_
  refine r_if 15 (q52 (i := 1) rfl) (by decide) (fun c => absurd c (show ¬ (nI p = 0) from neN (b := 0) (by omega) (by decide) h0)) (fun _ => ?_)
  refine r_iload_n (q52 (i := 2) rfl) rfl ?_
  refine r_if 15 (q52 (i := 3) rfl) (by decide) (fun _ => ?_) (fun c => absurd (show nI q = 0 from (congrArg nI h1 : nI q = nI 0)) c)
  refine r_iconst (v := 0) (q52 (i := 9) rfl) (by decide) ?_
  exact r_iret (q52 (i := 10) rfl) rfl hQ
set_option maxHeartbeats 2000000 in
set_option maxRecDepth 10000 in
theorem mA_2 {d : Nat} {h : hp} (S : Sh h) {ρ n rw : Nat} {γ : gs} (G : GC h ρ n rw γ) (W : gwf n γ) {p q : Nat} (hp : p < 2 * gC γ) (hq : q < 2 * gC γ) (hc3 : gC γ < 973) (h0 : p ≠ 0) (h1 : q ≠ 0) (h2 : p = q ^^^ 1) : Run (d + 2 + 1) 52 [.ref 21, .int (nI p), .int (nI q)] h 0 0 (some (.int (nI 0))) h := by
  have G0 := G
  obtain ⟨⟨⟨ℓ, hRw, hℓ, hℓ1⟩, hr1, hr2, hn12⟩, ⟨e7, e8, e9, hc⟩, eLR, eCh, eNx, eRow⟩ := G
  refine Run.of (Nat.le_of_ble_eq_true rfl) (fun Q hQ => ?_)
  show Wp (Ex (d + 2)) 52 Q 0 [(0, .ref 21), (1, .int (nI p)), (2, .int (nI q))] [] h 0 0
  refine r_iload_n (q52 (i := 0) rfl) rfl ?_
  refine r_if 15 (q52 (i := 1) rfl) (by decide) (fun c => absurd c (show ¬ (nI p = 0) from neN (b := 0) (by omega) (by decide) h0)) (fun _ => ?_)
  refine r_iload_n (q52 (i := 2) rfl) rfl ?_
  refine r_if 15 (q52 (i := 3) rfl) (by decide) (fun c => absurd c (show ¬ (nI q = 0) from neN (b := 0) (by omega) (by decide) h1)) (fun _ => ?_)
  refine r_iload_n (q52 (i := 4) rfl) rfl ?_
  refine r_iload_n (q52 (i := 5) rfl) rfl ?_
  refine r_iconst (v := 1) (q52 (i := 6) rfl) (by decide) ?_
  refine r_ixor (q52 (i := 7) rfl) ?_
  rw [show ((nI q) ^^^ 1 : Int32) = nI (q ^^^ 1) from xor1 q]
  refine r_icmp 17 (q52 (i := 8) rfl) (by decide) (fun c => absurd c (show ¬ (¬ nI p = nI (q ^^^ 1)) from fun z => z (congrArg nI h2))) (fun _ => ?_)
  refine r_iconst (v := 0) (q52 (i := 9) rfl) (by decide) ?_
  exact r_iret (q52 (i := 10) rfl) rfl hQ
set_option maxHeartbeats 2000000 in
set_option maxRecDepth 10000 in
theorem mA_3 {d : Nat} {h : hp} (S : Sh h) {ρ n rw : Nat} {γ : gs} (G : GC h ρ n rw γ) (W : gwf n γ) {p q : Nat} (hp : p < 2 * gC γ) (hq : q < 2 * gC γ) (hc3 : gC γ < 973) (h0 : p ≠ 0) (h1 : q ≠ 0) (h2 : p ≠ q ^^^ 1) (h3 : q = p) : Run (d + 2 + 1) 52 [.ref 21, .int (nI p), .int (nI q)] h 0 0 (some (.int (nI p))) h := by
  have G0 := G
  obtain ⟨⟨⟨ℓ, hRw, hℓ, hℓ1⟩, hr1, hr2, hn12⟩, ⟨e7, e8, e9, hc⟩, eLR, eCh, eNx, eRow⟩ := G
  refine Run.of (Nat.le_of_ble_eq_true rfl) (fun Q hQ => ?_)
  show Wp (Ex (d + 2)) 52 Q 0 [(0, .ref 21), (1, .int (nI p)), (2, .int (nI q))] [] h 0 0
  refine r_iload_n (q52 (i := 0) rfl) rfl ?_
  refine r_if 15 (q52 (i := 1) rfl) (by decide) (fun c => absurd c (show ¬ (nI p = 0) from neN (b := 0) (by omega) (by decide) h0)) (fun _ => ?_)
  refine r_iload_n (q52 (i := 2) rfl) rfl ?_
  refine r_if 15 (q52 (i := 3) rfl) (by decide) (fun c => absurd c (show ¬ (nI q = 0) from neN (b := 0) (by omega) (by decide) h1)) (fun _ => ?_)
  refine r_iload_n (q52 (i := 4) rfl) rfl ?_
  refine r_iload_n (q52 (i := 5) rfl) rfl ?_
  refine r_iconst (v := 1) (q52 (i := 6) rfl) (by decide) ?_
  refine r_ixor (q52 (i := 7) rfl) ?_
  rw [show ((nI q) ^^^ 1 : Int32) = nI (q ^^^ 1) from xor1 q]
  refine r_icmp 17 (q52 (i := 8) rfl) (by decide) (fun _ => ?_) (fun c => absurd (show ¬ nI p = nI (q ^^^ 1) from neN (by omega) (by have := xor1_lt hq; omega) h2) c)
  refine r_iload_n (q52 (i := 11) rfl) rfl ?_
  refine r_iload_n (q52 (i := 12) rfl) rfl ?_
  refine r_icmp 27 (q52 (i := 13) rfl) (by decide) (fun _ => ?_) (fun c => absurd (show nI q = nI p from congrArg nI h3) c)
  refine r_iload_n (q52 (i := 17) rfl) rfl ?_
  exact r_iret (q52 (i := 18) rfl) rfl hQ
set_option maxHeartbeats 2000000 in
set_option maxRecDepth 10000 in
theorem mA_4 {d : Nat} {h : hp} (S : Sh h) {ρ n rw : Nat} {γ : gs} (G : GC h ρ n rw γ) (W : gwf n γ) {p q : Nat} (hp : p < 2 * gC γ) (hq : q < 2 * gC γ) (hc3 : gC γ < 973) (h0 : p ≠ 0) (h1 : q ≠ 0) (h2 : p ≠ q ^^^ 1) (h3 : q ≠ p) (h4 : q = 1) : Run (d + 2 + 1) 52 [.ref 21, .int (nI p), .int (nI q)] h 0 0 (some (.int (nI p))) h := by
  have G0 := G
  obtain ⟨⟨⟨ℓ, hRw, hℓ, hℓ1⟩, hr1, hr2, hn12⟩, ⟨e7, e8, e9, hc⟩, eLR, eCh, eNx, eRow⟩ := G
  refine Run.of (Nat.le_of_ble_eq_true rfl) (fun Q hQ => ?_)
  show Wp (Ex (d + 2)) 52 Q 0 [(0, .ref 21), (1, .int (nI p)), (2, .int (nI q))] [] h 0 0
  refine r_iload_n (q52 (i := 0) rfl) rfl ?_
  refine r_if 15 (q52 (i := 1) rfl) (by decide) (fun c => absurd c (show ¬ (nI p = 0) from neN (b := 0) (by omega) (by decide) h0)) (fun _ => ?_)
  refine r_iload_n (q52 (i := 2) rfl) rfl ?_
  refine r_if 15 (q52 (i := 3) rfl) (by decide) (fun c => absurd c (show ¬ (nI q = 0) from neN (b := 0) (by omega) (by decide) h1)) (fun _ => ?_)
  refine r_iload_n (q52 (i := 4) rfl) rfl ?_
  refine r_iload_n (q52 (i := 5) rfl) rfl ?_
  refine r_iconst (v := 1) (q52 (i := 6) rfl) (by decide) ?_
  refine r_ixor (q52 (i := 7) rfl) ?_
  rw [show ((nI q) ^^^ 1 : Int32) = nI (q ^^^ 1) from xor1 q]
  refine r_icmp 17 (q52 (i := 8) rfl) (by decide) (fun _ => ?_) (fun c => absurd (show ¬ nI p = nI (q ^^^ 1) from neN (by omega) (by have := xor1_lt hq; omega) h2) c)
  refine r_iload_n (q52 (i := 11) rfl) rfl ?_
  refine r_iload_n (q52 (i := 12) rfl) rfl ?_
  refine r_icmp 27 (q52 (i := 13) rfl) (by decide) (fun c => absurd c (show ¬ (nI q = nI p) from neN (by omega) (by omega) h3)) (fun _ => ?_)
  refine r_iload_n (q52 (i := 14) rfl) rfl ?_
  refine r_iconst (v := 1) (q52 (i := 15) rfl) (by decide) ?_
  refine r_icmp 29 (q52 (i := 16) rfl) (by decide) (fun c => absurd c (show ¬ (¬ nI q = 1) from fun z => z (congrArg nI h4))) (fun _ => ?_)
  refine r_iload_n (q52 (i := 17) rfl) rfl ?_
  exact r_iret (q52 (i := 18) rfl) rfl hQ
set_option maxHeartbeats 2000000 in
set_option maxRecDepth 10000 in
theorem mA_5 {d : Nat} {h : hp} (S : Sh h) {ρ n rw : Nat} {γ : gs} (G : GC h ρ n rw γ) (W : gwf n γ) {p q : Nat} (hp : p < 2 * gC γ) (hq : q < 2 * gC γ) (hc3 : gC γ < 973) (h0 : p ≠ 0) (h1 : q ≠ 0) (h2 : p ≠ q ^^^ 1) (h3 : q ≠ p) (h4 : q ≠ 1) (h5 : p = 1) : Run (d + 2 + 1) 52 [.ref 21, .int (nI p), .int (nI q)] h 0 0 (some (.int (nI q))) h := by
  have G0 := G
  obtain ⟨⟨⟨ℓ, hRw, hℓ, hℓ1⟩, hr1, hr2, hn12⟩, ⟨e7, e8, e9, hc⟩, eLR, eCh, eNx, eRow⟩ := G
  refine Run.of (Nat.le_of_ble_eq_true rfl) (fun Q hQ => ?_)
  show Wp (Ex (d + 2)) 52 Q 0 [(0, .ref 21), (1, .int (nI p)), (2, .int (nI q))] [] h 0 0
  refine r_iload_n (q52 (i := 0) rfl) rfl ?_
  refine r_if 15 (q52 (i := 1) rfl) (by decide) (fun c => absurd c (show ¬ (nI p = 0) from neN (b := 0) (by omega) (by decide) h0)) (fun _ => ?_)
  refine r_iload_n (q52 (i := 2) rfl) rfl ?_
  refine r_if 15 (q52 (i := 3) rfl) (by decide) (fun c => absurd c (show ¬ (nI q = 0) from neN (b := 0) (by omega) (by decide) h1)) (fun _ => ?_)
  refine r_iload_n (q52 (i := 4) rfl) rfl ?_
  refine r_iload_n (q52 (i := 5) rfl) rfl ?_
  refine r_iconst (v := 1) (q52 (i := 6) rfl) (by decide) ?_
  refine r_ixor (q52 (i := 7) rfl) ?_
  rw [show ((nI q) ^^^ 1 : Int32) = nI (q ^^^ 1) from xor1 q]
  refine r_icmp 17 (q52 (i := 8) rfl) (by decide) (fun _ => ?_) (fun c => absurd (show ¬ nI p = nI (q ^^^ 1) from neN (by omega) (by have := xor1_lt hq; omega) h2) c)
  refine r_iload_n (q52 (i := 11) rfl) rfl ?_
  refine r_iload_n (q52 (i := 12) rfl) rfl ?_
  refine r_icmp 27 (q52 (i := 13) rfl) (by decide) (fun c => absurd c (show ¬ (nI q = nI p) from neN (by omega) (by omega) h3)) (fun _ => ?_)
  refine r_iload_n (q52 (i := 14) rfl) rfl ?_
  refine r_iconst (v := 1) (q52 (i := 15) rfl) (by decide) ?_
  refine r_icmp 29 (q52 (i := 16) rfl) (by decide) (fun _ => ?_) (fun c => absurd (show ¬ nI q = 1 from neN (b := 1) (by omega) (by decide) h4) c)
  refine r_iload_n (q52 (i := 19) rfl) rfl ?_
  refine r_iconst (v := 1) (q52 (i := 20) rfl) (by decide) ?_
  refine r_icmp 36 (q52 (i := 21) rfl) (by decide) (fun c => absurd c (show ¬ (¬ nI p = 1) from fun z => z (congrArg nI h5))) (fun _ => ?_)
  refine r_iload_n (q52 (i := 22) rfl) rfl ?_
  exact r_iret (q52 (i := 23) rfl) rfl hQ
set_option maxHeartbeats 2000000 in
set_option maxRecDepth 10000 in
theorem mA_6 {d : Nat} {h : hp} (S : Sh h) {ρ n rw : Nat} {γ : gs} (G : GC h ρ n rw γ) (W : gwf n γ) {p q : Nat} (hp : p < 2 * gC γ) (hq : q < 2 * gC γ) (hc3 : gC γ < 973) (h0 : p ≠ 0) (h1 : q ≠ 0) (h2 : p ≠ q ^^^ 1) (h3 : q ≠ p) (h4 : q ≠ 1) (h5 : p ≠ 1) (h6 : p < q) : Run (d + 2 + 1) 52 [.ref 21, .int (nI p), .int (nI q)] h 0 0 (some (.int (nI (gnew n γ p q).1))) (newH h ρ n rw γ p q) := by
  have G0 := G
  obtain ⟨⟨⟨ℓ, hRw, hℓ, hℓ1⟩, hr1, hr2, hn12⟩, ⟨e7, e8, e9, hc⟩, eLR, eCh, eNx, eRow⟩ := G
  refine Run.of (Nat.le_of_ble_eq_true rfl) (fun Q hQ => ?_)
  show Wp (Ex (d + 2)) 52 Q 0 [(0, .ref 21), (1, .int (nI p)), (2, .int (nI q))] [] h 0 0
  refine r_iload_n (q52 (i := 0) rfl) rfl ?_
  refine r_if 15 (q52 (i := 1) rfl) (by decide) (fun c => absurd c (show ¬ (nI p = 0) from neN (b := 0) (by omega) (by decide) h0)) (fun _ => ?_)
  refine r_iload_n (q52 (i := 2) rfl) rfl ?_
  refine r_if 15 (q52 (i := 3) rfl) (by decide) (fun c => absurd c (show ¬ (nI q = 0) from neN (b := 0) (by omega) (by decide) h1)) (fun _ => ?_)
  refine r_iload_n (q52 (i := 4) rfl) rfl ?_
  refine r_iload_n (q52 (i := 5) rfl) rfl ?_
  refine r_iconst (v := 1) (q52 (i := 6) rfl) (by decide) ?_
  refine r_ixor (q52 (i := 7) rfl) ?_
  rw [show ((nI q) ^^^ 1 : Int32) = nI (q ^^^ 1) from xor1 q]
  refine r_icmp 17 (q52 (i := 8) rfl) (by decide) (fun _ => ?_) (fun c => absurd (show ¬ nI p = nI (q ^^^ 1) from neN (by omega) (by have := xor1_lt hq; omega) h2) c)
  refine r_iload_n (q52 (i := 11) rfl) rfl ?_
  refine r_iload_n (q52 (i := 12) rfl) rfl ?_
  refine r_icmp 27 (q52 (i := 13) rfl) (by decide) (fun c => absurd c (show ¬ (nI q = nI p) from neN (by omega) (by omega) h3)) (fun _ => ?_)
  refine r_iload_n (q52 (i := 14) rfl) rfl ?_
  refine r_iconst (v := 1) (q52 (i := 15) rfl) (by decide) ?_
  refine r_icmp 29 (q52 (i := 16) rfl) (by decide) (fun _ => ?_) (fun c => absurd (show ¬ nI q = 1 from neN (b := 1) (by omega) (by decide) h4) c)
  refine r_iload_n (q52 (i := 19) rfl) rfl ?_
  refine r_iconst (v := 1) (q52 (i := 20) rfl) (by decide) ?_
  refine r_icmp 36 (q52 (i := 21) rfl) (by decide) (fun _ => ?_) (fun c => absurd (show ¬ nI p = 1 from neN (b := 1) (by omega) (by decide) h5) c)
  refine r_iload_n (q52 (i := 24) rfl) rfl ?_
  refine r_iload_n (q52 (i := 25) rfl) rfl ?_
  refine r_min (q52 (i := 26) rfl) rfl (Nat.le_of_ble_eq_true rfl) ?_
  rw [show (if (nI q) < (nI p) then (nI q) else (nI p) : Int32) = nI p from if_neg (nI_nlt (by omega) (by omega))]
  refine r_istore_n (ls' := [(3, .int (nI p)), (0, .ref 21), (1, .int (nI p)), (2, .int (nI q))]) (q52 (i := 27) rfl) (Nat.le_of_ble_eq_true rfl) rfl ?_
  refine r_iload_n (q52 (i := 28) rfl) rfl ?_
  refine r_iload_n (q52 (i := 29) rfl) rfl ?_
  refine r_max (q52 (i := 30) rfl) rfl (Nat.le_of_ble_eq_true rfl) ?_
  rw [show (if (nI p) < (nI q) then (nI q) else (nI p) : Int32) = nI q from if_pos (nI_lt h6 (by omega))]
  refine r_istore (ls' := [(4, .int (nI q)), (3, .int (nI p)), (0, .ref 21), (1, .int (nI p)), (2, .int (nI q))]) (q52 (i := 31) rfl) (Nat.le_of_ble_eq_true rfl) rfl ?_
  refine r_aload_n (q52 (i := 32) rfl) rfl ?_
  refine r_getR (b := 24) (q52 (i := 33) rfl) rfl (by decide) (k_21 S) (fun _ _ _ => rfl) (r_21_4 S) ?_
  refine r_iload_n (q52 (i := 34) rfl) rfl ?_
  refine r_iaN (x := nI (prv n (gL γ) p (gC γ))) (q52 (i := 35) rfl) (k_24 S) (by omega) (by decide) (eCh p (by omega)) ?_
  refine r_istore (ls' := [(5, .int (nI (prv n (gL γ) p (gC γ)))), (4, .int (nI q)), (3, .int (nI p)), (0, .ref 21), (1, .int (nI p)), (2, .int (nI q))]) (q52 (i := 36) rfl) (Nat.le_of_ble_eq_true rfl) rfl ?_
  refine r_iconst (v := 0) (q52 (i := 37) rfl) (by decide) ?_
  refine r_istore (ls' := [(6, .int 0), (5, .int (nI (prv n (gL γ) p (gC γ)))), (4, .int (nI q)), (3, .int (nI p)), (0, .ref 21), (1, .int (nI p)), (2, .int (nI q))]) (q52 (i := 38) rfl) (Nat.le_of_ble_eq_true rfl) rfl ?_
  exact lp_makeAnd S G0 W h6 (by omega) hc3 hQ (gC γ) 0 (Nat.le_refl _) (by omega) rfl _ rfl rfl rfl rfl rfl
set_option maxHeartbeats 2000000 in
set_option maxRecDepth 10000 in
theorem mA_7 {d : Nat} {h : hp} (S : Sh h) {ρ n rw : Nat} {γ : gs} (G : GC h ρ n rw γ) (W : gwf n γ) {p q : Nat} (hp : p < 2 * gC γ) (hq : q < 2 * gC γ) (hc3 : gC γ < 973) (h0 : p ≠ 0) (h1 : q ≠ 0) (h2 : p ≠ q ^^^ 1) (h3 : q ≠ p) (h4 : q ≠ 1) (h5 : p ≠ 1) (h6 : q < p) : Run (d + 2 + 1) 52 [.ref 21, .int (nI p), .int (nI q)] h 0 0 (some (.int (nI (gnew n γ q p).1))) (newH h ρ n rw γ q p) := by
  have G0 := G
  obtain ⟨⟨⟨ℓ, hRw, hℓ, hℓ1⟩, hr1, hr2, hn12⟩, ⟨e7, e8, e9, hc⟩, eLR, eCh, eNx, eRow⟩ := G
  refine Run.of (Nat.le_of_ble_eq_true rfl) (fun Q hQ => ?_)
  show Wp (Ex (d + 2)) 52 Q 0 [(0, .ref 21), (1, .int (nI p)), (2, .int (nI q))] [] h 0 0
  refine r_iload_n (q52 (i := 0) rfl) rfl ?_
  refine r_if 15 (q52 (i := 1) rfl) (by decide) (fun c => absurd c (show ¬ (nI p = 0) from neN (b := 0) (by omega) (by decide) h0)) (fun _ => ?_)
  refine r_iload_n (q52 (i := 2) rfl) rfl ?_
  refine r_if 15 (q52 (i := 3) rfl) (by decide) (fun c => absurd c (show ¬ (nI q = 0) from neN (b := 0) (by omega) (by decide) h1)) (fun _ => ?_)
  refine r_iload_n (q52 (i := 4) rfl) rfl ?_
  refine r_iload_n (q52 (i := 5) rfl) rfl ?_
  refine r_iconst (v := 1) (q52 (i := 6) rfl) (by decide) ?_
  refine r_ixor (q52 (i := 7) rfl) ?_
  rw [show ((nI q) ^^^ 1 : Int32) = nI (q ^^^ 1) from xor1 q]
  refine r_icmp 17 (q52 (i := 8) rfl) (by decide) (fun _ => ?_) (fun c => absurd (show ¬ nI p = nI (q ^^^ 1) from neN (by omega) (by have := xor1_lt hq; omega) h2) c)
  refine r_iload_n (q52 (i := 11) rfl) rfl ?_
  refine r_iload_n (q52 (i := 12) rfl) rfl ?_
  refine r_icmp 27 (q52 (i := 13) rfl) (by decide) (fun c => absurd c (show ¬ (nI q = nI p) from neN (by omega) (by omega) h3)) (fun _ => ?_)
  refine r_iload_n (q52 (i := 14) rfl) rfl ?_
  refine r_iconst (v := 1) (q52 (i := 15) rfl) (by decide) ?_
  refine r_icmp 29 (q52 (i := 16) rfl) (by decide) (fun _ => ?_) (fun c => absurd (show ¬ nI q = 1 from neN (b := 1) (by omega) (by decide) h4) c)
  refine r_iload_n (q52 (i := 19) rfl) rfl ?_
  refine r_iconst (v := 1) (q52 (i := 20) rfl) (by decide) ?_
  refine r_icmp 36 (q52 (i := 21) rfl) (by decide) (fun _ => ?_) (fun c => absurd (show ¬ nI p = 1 from neN (b := 1) (by omega) (by decide) h5) c)
  refine r_iload_n (q52 (i := 24) rfl) rfl ?_
  refine r_iload_n (q52 (i := 25) rfl) rfl ?_
  refine r_min (q52 (i := 26) rfl) rfl (Nat.le_of_ble_eq_true rfl) ?_
  rw [show (if (nI q) < (nI p) then (nI q) else (nI p) : Int32) = nI q from if_pos (nI_lt h6 (by omega))]
  refine r_istore_n (ls' := [(3, .int (nI q)), (0, .ref 21), (1, .int (nI p)), (2, .int (nI q))]) (q52 (i := 27) rfl) (Nat.le_of_ble_eq_true rfl) rfl ?_
  refine r_iload_n (q52 (i := 28) rfl) rfl ?_
  refine r_iload_n (q52 (i := 29) rfl) rfl ?_
  refine r_max (q52 (i := 30) rfl) rfl (Nat.le_of_ble_eq_true rfl) ?_
  rw [show (if (nI p) < (nI q) then (nI q) else (nI p) : Int32) = nI p from if_neg (nI_nlt (by omega) (by omega))]
  refine r_istore (ls' := [(4, .int (nI p)), (3, .int (nI q)), (0, .ref 21), (1, .int (nI p)), (2, .int (nI q))]) (q52 (i := 31) rfl) (Nat.le_of_ble_eq_true rfl) rfl ?_
  refine r_aload_n (q52 (i := 32) rfl) rfl ?_
  refine r_getR (b := 24) (q52 (i := 33) rfl) rfl (by decide) (k_21 S) (fun _ _ _ => rfl) (r_21_4 S) ?_
  refine r_iload_n (q52 (i := 34) rfl) rfl ?_
  refine r_iaN (x := nI (prv n (gL γ) q (gC γ))) (q52 (i := 35) rfl) (k_24 S) (by omega) (by decide) (eCh q (by omega)) ?_
  refine r_istore (ls' := [(5, .int (nI (prv n (gL γ) q (gC γ)))), (4, .int (nI p)), (3, .int (nI q)), (0, .ref 21), (1, .int (nI p)), (2, .int (nI q))]) (q52 (i := 36) rfl) (Nat.le_of_ble_eq_true rfl) rfl ?_
  refine r_iconst (v := 0) (q52 (i := 37) rfl) (by decide) ?_
  refine r_istore (ls' := [(6, .int 0), (5, .int (nI (prv n (gL γ) q (gC γ)))), (4, .int (nI p)), (3, .int (nI q)), (0, .ref 21), (1, .int (nI p)), (2, .int (nI q))]) (q52 (i := 38) rfl) (Nat.le_of_ble_eq_true rfl) rfl ?_
  exact lp_makeAnd S G0 W h6 (by omega) hc3 hQ (gC γ) 0 (Nat.le_refl _) (by omega) rfl _ rfl rfl rfl rfl rfl
theorem sp_makeAnd {d : Nat} {h : hp} (S : Sh h) {ρ n rw : Nat} {γ : gs} (G : GC h ρ n rw γ) (W : gwf n γ) {p q : Nat} (hp : p < 2 * gC γ) (hq : q < 2 * gC γ) (hc3 : gC γ < 973) : ∃ h', Run (d + 2 + 1) 52 [.ref 21, .int (nI p), .int (nI q)] h 0 0 (some (.int (nI (gand n γ p q).1))) h' ∧ GC h' ρ n rw (gand n γ p q).2 ∧ FrG ρ h h' := by
  unfold gand
  by_cases h0 : p = 0
  · rw [if_pos (Or.inl h0)]; exact ⟨h, mA_0 S G W hp hq hc3 h0, G, FrG.rf ρ h⟩
  · by_cases h1 : q = 0
    · rw [if_pos (Or.inr (Or.inl h1))]; exact ⟨h, mA_1 S G W hp hq hc3 h0 h1, G, FrG.rf ρ h⟩
    · by_cases h2 : p = q ^^^ 1
      · rw [if_pos (Or.inr (Or.inr h2))]; exact ⟨h, mA_2 S G W hp hq hc3 h0 h1 h2, G, FrG.rf ρ h⟩
      · rw [if_neg (fun z => by rcases z with z | z | z; exact h0 z; exact h1 z; exact h2 z)]
        by_cases h3 : q = p
        · rw [if_pos (Or.inl h3)]; exact ⟨h, mA_3 S G W hp hq hc3 h0 h1 h2 h3, G, FrG.rf ρ h⟩
        · by_cases h4 : q = 1
          · rw [if_pos (Or.inr h4)]; exact ⟨h, mA_4 S G W hp hq hc3 h0 h1 h2 h3 h4, G, FrG.rf ρ h⟩
          · rw [if_neg (fun z => by rcases z with z | z; exact h3 z; exact h4 z)]
            by_cases h5 : p = 1
            · rw [if_pos h5]; exact ⟨h, mA_5 S G W hp hq hc3 h0 h1 h2 h3 h4 h5, G, FrG.rf ρ h⟩
            · rw [if_neg h5]
              by_cases h6 : p < q
              · rw [if_pos h6]; exact ⟨_, mA_6 S G W hp hq hc3 h0 h1 h2 h3 h4 h5 h6, newH_ok G W h6 hq hc3⟩
              · rw [if_neg h6]; exact ⟨_, mA_7 S G W hp hq hc3 h0 h1 h2 h3 h4 h5 (by omega), newH_ok G W (by omega) hp hc3⟩
