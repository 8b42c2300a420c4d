/-! ===== the false node and the inputs ===== -/
def tin (i w : Nat) : Int64 := if i < 6 then pats i else if w / 2 ^ (i - 6) % 2 = 1 then -1 else 0
def T0 (x w : Nat) : Int64 := if x = 0 then 0 else tin (x - 1) w
/-- the first c of the nodes that stand in every graph -/
def gini (c : Nat) : gs := (c, fun _ => 0, fun _ => 0, T0)
/-- the patterns' cell -/
def Pt (h : hp) : Prop := hK h 1 = (8, 6) ∧ hJ h 1 = pats
theorem sh31 : ∀ k, k < 32 → ((nI k &&& 31).toBitVec.smod 32).toNat = k := by decide +kernel
theorem ini_ok {h : hp} {ρ n rw c : Nat} (G : GC h ρ n rw (gini c)) (hc : c ≤ n) : GC (nodH (rJ h ρ (rowF (hJ h ρ) (c * rw) (T0 c) rw)) c 0 0) ρ n rw (gini (c + 1)) ∧ FrG ρ h (nodH (rJ h ρ (rowF (hJ h ρ) (c * rw) (T0 c) rw)) c 0 0) := by
  obtain ⟨⟨⟨ℓ, hRw, hℓ, hℓ1⟩, hr1, hr2, hn12⟩, ⟨e7, e8, e9, hc9⟩, eLR, eCh, eNx, eRow⟩ := G
  have pz : ∀ p, prv n (gL (gini (c + 1))) p (c + 1) = 0 := fun p => prv_none n _ p _ (fun k a b => by omega)
  have pz0 : ∀ p, prv n (gL (gini c)) p c = 0 := fun p => prv_none n _ p _ (fun k a b => by omega)
  have j1 : hJ (nodH (rJ h ρ (rowF (hJ h ρ) (c * rw) (T0 c) rw)) c 0 0) ρ = rowF (hJ h ρ) (c * rw) (T0 c) rw := by
    show u1 h.2.1 ρ _ ρ = _
    exact u1_s
  refine ⟨⟨⟨⟨ℓ, hRw, hℓ, hℓ1⟩, hr1, hr2, hn12⟩, ⟨e7, e8, rfl, by show c + 1 ≤ 973; omega⟩, fun k hk => ?_, fun p hp => ?_, fun k a hk => ?_, fun x w hx hw => ?_⟩, ⟨rfl, fun k hk => ?_, fun k hk => ?_, fun j hj => ?_⟩⟩
  · have hk : k < c + 1 := hk
    show u1 (hI h 22) c (nI 0) k = nI 0 ∧ u1 (hI h 23) c (nI 0) k = nI 0
    by_cases q : k = c
    · rw [q, u1_s, u1_s]; exact ⟨rfl, rfl⟩
    · rw [u1_n q, u1_n q]; exact eLR k (show k < c by omega)
  · have hp : p < 2 * (c + 1) := hp
    show u1 (u1 (hI h 24) (2 * c) 0) (2 * c + 1) 0 p = nI (prv n (gL (gini (c + 1))) p (c + 1))
    rw [pz p]
    by_cases q1 : p = 2 * c + 1
    · rw [q1, u1_s]; rfl
    · rw [u1_n q1]
      by_cases q2 : p = 2 * c
      · rw [q2, u1_s]; rfl
      · rw [u1_n q2]
        have := eCh p (show p < 2 * c by omega)
        rw [this]
        exact congrArg nI (pz0 p)
  · have hk : k < c + 1 := hk
    omega
  · have hx : x < c + 1 := hx
    rw [j1]
    show _ = T0 x w
    by_cases q : x = c
    · subst q
      exact rowF_in hw
    · have hb : x * rw + w < c * rw := by
        have : (x + 1) * rw ≤ c * rw := Nat.mul_le_mul_right rw (by omega)
        rw [Nat.succ_mul] at this
        omega
      rw [rowF_lt hb]
      exact eRow x w (show x < c by omega) hw
  · show u2 (u2 (u2 (u2 (u2 (u2 h.1 22 _ _) 23 _ _) 25 _ _) 24 _ _) 24 _ _) 21 _ _ k = _
    rw [u2_n (by omega), u2_n (by omega), u2_n (by omega), u2_n (by omega), u2_n (by omega), u2_n (by omega)]
  · show u1 h.2.1 ρ _ k = _
    exact u1_n hk
  · show u1 (hI h 21) 9 _ j = _
    exact u1_n hj
set_option maxHeartbeats 2000000 in
set_option maxRecDepth 10000 in
theorem lp_makeFalse {d : Nat} {h : hp} (S : Sh h) {ρ n rw c : Nat} (G : GC h ρ n rw (gini c)) (hcn : c ≤ n) (hc0 : c = 0) {Q : resP} {bc bs : Nat} (hk : ∀ ls : List (Nat × Value), ls.lookup 1 = some (.int (nI rw)) → ls.lookup 0 = some (.ref 21) → Wp (Ex (d + 1)) 46 Q 23 ls [] (rJ h ρ (rowF (hJ h ρ) (0 * rw) (T0 0) rw)) bc bs) : ∀ (k i : Nat), i + k = rw → ∀ ls : List (Nat × Value), ls.lookup 1 = some (.int (nI i)) → ls.lookup 0 = some (.ref 21) → Wp (Ex (d + 1)) 46 Q 2 ls [] (rJ h ρ (rowF (hJ h ρ) (0 * rw) (T0 0) i)) bc bs := by
  obtain ⟨⟨⟨ℓ, hRw, hℓ, hℓ1⟩, hr1, hr2, hn12⟩, ⟨e7, e8, e9, hc⟩, eLR, eCh, eNx, eRow⟩ := G
  intro k
  induction k with
  | zero =>
    intro i hi ls l1 l0
    have e : i = rw := by omega
    subst e
    refine r_iload_n (q46 (i := 2) rfl) l1 ?_
    refine r_aload_n (q46 (i := 3) rfl) l0 ?_
    refine r_getI (x := nI i) (q46 (i := 4) rfl) rfl (by decide) (k_21 S) (fun _ _ _ => rfl) e7 ?_
    refine r_icmp 23 (q46 (i := 5) rfl) (by decide) (fun _ => ?_) (fun c => absurd (show nI i ≤ nI i from Int32.le_refl _) c)
    exact hk ls l1 l0
  | succ k ih =>
    intro i hi ls l1 l0
    have hix : 0 * rw + i < ℓ := by have := ix_lt (x := 0) (rw := rw) (w := i) (by omega) (by omega); omega
    have hix0 : i < ℓ := by omega
    have ez : 0 * rw + i = i := by omega
    refine r_iload_n (q46 (i := 2) rfl) l1 ?_
    refine r_aload_n (q46 (i := 3) rfl) l0 ?_
    refine r_getI (x := nI rw) (q46 (i := 4) rfl) rfl (by decide) (k_21 S) (fun _ _ _ => rfl) e7 ?_
    refine r_icmp 23 (q46 (i := 5) rfl) (by decide) (fun c => absurd c (show ¬ (nI rw ≤ nI i) from nI_ge (by omega) (by omega))) (fun _ => ?_)
    refine r_aload_n (q46 (i := 6) rfl) l0 ?_
    refine r_getR (b := ρ) (q46 (i := 7) rfl) rfl (by decide) (k_21 S) (fun _ _ _ => rfl) hRw.1 ?_
    refine r_iload_n (q46 (i := 8) rfl) l1 ?_
    refine r_lconst (v := 0) (q46 (i := 9) rfl) (by decide) ?_
    refine r_lasN (q46 (i := 10) rfl) hRw.2.1 hix0 (by omega) ?_
    rw [sJ_rJ, show u1 (rowF (hJ h ρ) (0 * rw) (T0 0) i) i 0 = rowF (hJ h ρ) (0 * rw) (T0 0) (i + 1) by rw [← rowF_s, ez]; rfl]
    refine r_iinc (y := nI (i + 1)) (q46 (i := 11) rfl) (Nat.le_of_ble_eq_true rfl) l1 (nI_1 i) rfl ?_
    have l0 := lk1 (k := 1) (v := .int (nI (i + 1))) l0 (by decide) (Or.inl rfl)
    have l1 := lk0 ls 1 (.int (nI (i + 1)))
    generalize lset1 ls 1 (.int (nI (i + 1))) = ls at l1 l0 ⊢
    refine r_goto 2 (q46 (i := 12) rfl) (by decide) ?_
    exact ih (i + 1) (by omega) ls l1 l0
set_option maxHeartbeats 2000000 in
set_option maxRecDepth 10000 in
theorem sp_makeFalse {d : Nat} {h : hp} (S : Sh h) {ρ n rw : Nat} (G : GC h ρ n rw (gini 0)) : Run (d + 1 + 1) 46 [.ref 21] h 0 0 none (nodH (rJ h ρ (rowF (hJ h ρ) (0 * rw) (T0 0) rw)) 0 0 0) := by
  have G0 := G
  obtain ⟨⟨⟨ℓ, hRw, hℓ, hℓ1⟩, hr1, hr2, hn12⟩, ⟨e7, e8, e9, hc⟩, eLR, eCh, eNx, eRow⟩ := G
  refine Run.of (Nat.le_of_ble_eq_true rfl) (fun Q hQ => ?_)
  show Wp (Ex (d + 1)) 46 Q 0 [(0, .ref 21)] [] h 0 0
  refine r_iconst (v := 0) (q46 (i := 0) rfl) (by decide) ?_
  refine r_istore_n (ls' := [(1, .int 0), (0, .ref 21)]) (q46 (i := 1) rfl) (Nat.le_of_ble_eq_true rfl) rfl ?_
  have e0 : h = rJ h ρ (rowF (hJ h ρ) (0 * rw) (T0 0) 0) := by rw [rowF_0, rJ_self]
  conv => arg 7; rw [e0]
  refine lp_makeFalse S G0 (Nat.zero_le n) rfl (fun ls l1 l0 => ?_) rw 0 (by omega) _ rfl rfl
  refine r_aload_n (q46 (i := 13) rfl) l0 ?_
  refine r_iconst (v := 0) (q46 (i := 14) rfl) (by decide) ?_
  refine r_iconst (v := 0) (q46 (i := 15) rfl) (by decide) ?_
  have S1 : Sh (rJ h ρ (rowF (hJ h ρ) (0 * rw) (T0 0) rw)) := Sh.to S rfl
  refine r_cV (d := _) (q46 (i := 16) rfl) rfl rfl rfl (k_21 S1) (Nat.le_of_ble_eq_true rfl) (Nat.zero_le _) (Nat.zero_le _) (sp_addNode S1 e9 (by decide) 0 0) ?_
  show Wp _ _ _ 29 ls [] (nodH (rJ h ρ (rowF (hJ h ρ) (0 * rw) (T0 0) rw)) 0 0 0) _ _
  exact r_vret (q46 (i := 17) rfl) rfl hQ
set_option maxHeartbeats 2000000 in
set_option maxRecDepth 10000 in
theorem lp_inputLo {d : Nat} {h : hp} (S : Sh h) {ρ n rw c : Nat} (G : GC h ρ n rw (gini c)) (hcn : c ≤ n) (hPt : Pt h) {v : Nat} (hcv : c = v + 1) (hv6 : v < 6) (hρ1 : ρ ≠ 1) {Q : resP} {bc bs : Nat} (hk : ∀ ls : List (Nat × Value), ls.lookup 3 = some (.int (nI rw)) → ls.lookup 2 = some (.int (nI (c * rw))) → ls.lookup 0 = some (.ref 21) → ls.lookup 1 = some (.int (nI v)) → Wp (Ex (d + 1)) 47 Q 74 ls [] (rJ h ρ (rowF (hJ h ρ) (c * rw) (T0 c) rw)) bc bs) : ∀ (k i : Nat), i + k = rw → ∀ ls : List (Nat × Value), ls.lookup 3 = some (.int (nI i)) → ls.lookup 2 = some (.int (nI (c * rw))) → ls.lookup 0 = some (.ref 21) → ls.lookup 1 = some (.int (nI v)) → Wp (Ex (d + 1)) 47 Q 12 ls [] (rJ h ρ (rowF (hJ h ρ) (c * rw) (T0 c) i)) bc bs := by
  obtain ⟨⟨⟨ℓ, hRw, hℓ, hℓ1⟩, hr1, hr2, hn12⟩, ⟨e7, e8, e9, hc⟩, eLR, eCh, eNx, eRow⟩ := G
  intro k
  induction k with
  | zero =>
    intro i hi ls l3 l2 l0 l1
    have e : i = rw := by omega
    subst e
    refine r_iload_n (q47 (i := 8) rfl) l3 ?_
    refine r_aload_n (q47 (i := 9) rfl) l0 ?_
    refine r_getI (x := nI i) (q47 (i := 10) rfl) rfl (by decide) (k_21 S) (fun _ _ _ => rfl) e7 ?_
    refine r_icmp 74 (q47 (i := 11) rfl) (by decide) (fun _ => ?_) (fun c => absurd (show nI i ≤ nI i from Int32.le_refl _) c)
    exact hk ls l3 l2 l0 l1
  | succ k ih =>
    intro i hi ls l3 l2 l0 l1
    have hix : c * rw + i < ℓ := by have := ix_lt (x := c) (rw := rw) (w := i) (by omega) (by omega); omega
    have ev : (T0 c) i = tin v i := by rw [hcv]; rfl
    refine r_iload_n (q47 (i := 8) rfl) l3 ?_
    refine r_aload_n (q47 (i := 9) rfl) l0 ?_
    refine r_getI (x := nI rw) (q47 (i := 10) rfl) rfl (by decide) (k_21 S) (fun _ _ _ => rfl) e7 ?_
    refine r_icmp 74 (q47 (i := 11) rfl) (by decide) (fun c => absurd c (show ¬ (nI rw ≤ nI i) from nI_ge (by omega) (by omega))) (fun _ => ?_)
    refine r_iload_n (q47 (i := 12) rfl) l1 ?_
    refine r_bipush (v := 6) (q47 (i := 13) rfl) (by decide) ?_
    refine r_icmp 42 (q47 (i := 14) rfl) (by decide) (fun c => absurd c (show ¬ (6 ≤ nI v) from nI_ge hv6 (by decide))) (fun _ => ?_)
    refine r_aload_n (q47 (i := 15) rfl) l0 ?_
    refine r_getR (b := ρ) (q47 (i := 16) rfl) rfl (by decide) (k_21 S) (fun _ _ _ => rfl) hRw.1 ?_
    refine r_iload_n (q47 (i := 17) rfl) l2 ?_
    refine r_iload_n (q47 (i := 18) rfl) l3 ?_
    refine r_iadd (q47 (i := 19) rfl) ?_
    rw [show ((nI (c * rw)) + (nI i) : Int32) = nI (c * rw + i) from nI_add _ _]
    refine r_gets (q47 (i := 20) rfl) rfl ?_
    refine r_iload_n (q47 (i := 21) rfl) l1 ?_
    refine r_laload8 (x := pats v) (q47 (i := 22) rfl) hPt.1 (vp_in_nI hv6 (by decide)) (by show hJ (rJ h ρ _) 1 (nI v).toNatClampNeg = _; rw [nI_clamp (by omega)]; exact (congrFun (u1_n (f := h.2.1) (Ne.symm hρ1)) v).trans (congrFun hPt.2 v)) ?_
    refine r_lasN (q47 (i := 23) rfl) hRw.2.1 hix (by omega) ?_
    refine r_goto 68 (q47 (i := 24) rfl) (by decide) ?_
    rw [sJ_rJ, show pats v = (T0 c) i from by rw [ev]; exact (if_pos hv6).symm, rowF_s]
    refine r_iinc (y := nI (i + 1)) (q47 (i := 42) rfl) (Nat.le_of_ble_eq_true rfl) l3 (nI_1 i) rfl ?_
    have l2 := lk1 (k := 3) (v := .int (nI (i + 1))) l2 (by decide) (Or.inl rfl)
    have l0 := lk1 (k := 3) (v := .int (nI (i + 1))) l0 (by decide) (Or.inr (by decide))
    have l1 := lk1 (k := 3) (v := .int (nI (i + 1))) l1 (by decide) (Or.inr (by decide))
    have l3 := lk0 ls 3 (.int (nI (i + 1)))
    generalize lset1 ls 3 (.int (nI (i + 1))) = ls at l3 l2 l0 l1 ⊢
    refine r_goto 12 (q47 (i := 43) rfl) (by decide) ?_
    exact ih (i + 1) (by omega) ls l3 l2 l0 l1
set_option maxHeartbeats 2000000 in
set_option maxRecDepth 10000 in
theorem lp_inputHi {d : Nat} {h : hp} (S : Sh h) {ρ n rw c : Nat} (G : GC h ρ n rw (gini c)) (hcn : c ≤ n) {v : Nat} (hcv : c = v + 1) (hv6 : 6 ≤ v) (hv12 : v < 12) {Q : resP} {bc bs : Nat} (hk : ∀ ls : List (Nat × Value), ls.lookup 3 = some (.int (nI rw)) → ls.lookup 2 = some (.int (nI (c * rw))) → ls.lookup 0 = some (.ref 21) → ls.lookup 1 = some (.int (nI v)) → Wp (Ex (d + 1)) 47 Q 74 ls [] (rJ h ρ (rowF (hJ h ρ) (c * rw) (T0 c) rw)) bc bs) : ∀ (k i : Nat), i + k = rw → ∀ ls : List (Nat × Value), ls.lookup 3 = some (.int (nI i)) → ls.lookup 2 = some (.int (nI (c * rw))) → ls.lookup 0 = some (.ref 21) → ls.lookup 1 = some (.int (nI v)) → Wp (Ex (d + 1)) 47 Q 12 ls [] (rJ h ρ (rowF (hJ h ρ) (c * rw) (T0 c) i)) bc bs := by
  obtain ⟨⟨⟨ℓ, hRw, hℓ, hℓ1⟩, hr1, hr2, hn12⟩, ⟨e7, e8, e9, hc⟩, eLR, eCh, eNx, eRow⟩ := G
  intro k
  induction k with
  | zero =>
    intro i hi ls l3 l2 l0 l1
    have e : i = rw := by omega
    subst e
    refine r_iload_n (q47 (i := 8) rfl) l3 ?_
    refine r_aload_n (q47 (i := 9) rfl) l0 ?_
    refine r_getI (x := nI i) (q47 (i := 10) rfl) rfl (by decide) (k_21 S) (fun _ _ _ => rfl) e7 ?_
    refine r_icmp 74 (q47 (i := 11) rfl) (by decide) (fun _ => ?_) (fun c => absurd (show nI i ≤ nI i from Int32.le_refl _) c)
    exact hk ls l3 l2 l0 l1
  | succ k ih =>
    intro i hi ls l3 l2 l0 l1
    have hix : c * rw + i < ℓ := by have := ix_lt (x := c) (rw := rw) (w := i) (by omega) (by omega); omega
    have ev : (T0 c) i = tin v i := by rw [hcv]; rfl
    refine r_iload_n (q47 (i := 8) rfl) l3 ?_
    refine r_aload_n (q47 (i := 9) rfl) l0 ?_
    refine r_getI (x := nI rw) (q47 (i := 10) rfl) rfl (by decide) (k_21 S) (fun _ _ _ => rfl) e7 ?_
    refine r_icmp 74 (q47 (i := 11) rfl) (by decide) (fun c => absurd c (show ¬ (nI rw ≤ nI i) from nI_ge (by omega) (by omega))) (fun _ => ?_)
    refine r_iload_n (q47 (i := 12) rfl) l1 ?_
    refine r_bipush (v := 6) (q47 (i := 13) rfl) (by decide) ?_
    refine r_icmp 42 (q47 (i := 14) rfl) (by decide) (fun _ => ?_) (fun c => absurd (show 6 ≤ nI v from nI_le (by omega) (by omega)) c)
    refine r_aload_n (q47 (i := 25) rfl) l0 ?_
    refine r_getR (b := ρ) (q47 (i := 26) rfl) rfl (by decide) (k_21 S) (fun _ _ _ => rfl) hRw.1 ?_
    refine r_iload_n (q47 (i := 27) rfl) l2 ?_
    refine r_iload_n (q47 (i := 28) rfl) l3 ?_
    refine r_iadd (q47 (i := 29) rfl) ?_
    rw [show ((nI (c * rw)) + (nI i) : Int32) = nI (c * rw + i) from nI_add _ _]
    refine r_iload_n (q47 (i := 30) rfl) l3 ?_
    refine r_iload_n (q47 (i := 31) rfl) l1 ?_
    refine r_bipush (v := 6) (q47 (i := 32) rfl) (by decide) ?_
    refine r_isub (q47 (i := 33) rfl) ?_
    rw [show ((nI v) - 6 : Int32) = nI (v - 6) from pk_sub (by omega)]
    refine r_ishr (q47 (i := 34) rfl) ?_
    rw [show ((nI i) >>> ((nI (v - 6)) &&& 31) : Int32) = nI (i / 2 ^ (v - 6)) from pk_shrN (by omega) _ (v - 6) (sh31 _ (by omega))]
    refine r_iconst (v := 1) (q47 (i := 35) rfl) (by decide) ?_
    refine r_iand (q47 (i := 36) rfl) ?_
    rw [show ((nI (i / 2 ^ (v - 6))) &&& 1 : Int32) = nI (i / 2 ^ (v - 6) % 2) from and1 (Nat.lt_of_le_of_lt (Nat.div_le_self _ _) (by omega))]
    refine r_if 66 (q47 (i := 37) rfl) (by decide) (fun c57 => ?_) (fun c57 => ?_)
    · have c57 : nI (i / 2 ^ (v - 6) % 2) = 0 := c57
      have c57 : ¬ i / 2 ^ (v - 6) % 2 = 1 := fun q => by rw [q] at c57; exact absurd c57 (by decide)
      refine r_lconst (v := 0) (q47 (i := 40) rfl) (by decide) ?_
      refine r_lasN (q47 (i := 41) rfl) hRw.2.1 hix (by omega) ?_
      rw [sJ_rJ, show u1 (rowF (hJ h ρ) (c * rw) (T0 c) i) (c * rw + i) _ = rowF (hJ h ρ) (c * rw) (T0 c) (i + 1) by rw [← rowF_s, ev]; unfold tin; rw [if_neg (by omega)]; first | rw [if_pos c57] | rw [if_neg c57]]
      refine r_iinc (y := nI (i + 1)) (q47 (i := 42) rfl) (Nat.le_of_ble_eq_true rfl) l3 (nI_1 i) rfl ?_
      have l2 := lk1 (k := 3) (v := .int (nI (i + 1))) l2 (by decide) (Or.inl rfl)
      have l0 := lk1 (k := 3) (v := .int (nI (i + 1))) l0 (by decide) (Or.inr (by decide))
      have l1 := lk1 (k := 3) (v := .int (nI (i + 1))) l1 (by decide) (Or.inr (by decide))
      have l3 := lk0 ls 3 (.int (nI (i + 1)))
      generalize lset1 ls 3 (.int (nI (i + 1))) = ls at l3 l2 l0 l1 ⊢
      refine r_goto 12 (q47 (i := 43) rfl) (by decide) ?_
      exact ih (i + 1) (by omega) ls l3 l2 l0 l1
    · have c57 : ¬ (nI (i / 2 ^ (v - 6) % 2) = 0) := c57
      have c57 : i / 2 ^ (v - 6) % 2 = 1 := by
        rcases Nat.mod_two_eq_zero_or_one (i / 2 ^ (v - 6)) with q | q
        · exact absurd (by rw [q]; rfl) c57
        · exact q
      refine r_ldc2 (v := (-1)) (q47 (i := 38) rfl) rfl ?_
      refine r_goto 67 (q47 (i := 39) rfl) (by decide) ?_
      refine r_lasN (q47 (i := 41) rfl) hRw.2.1 hix (by omega) ?_
      rw [sJ_rJ, show u1 (rowF (hJ h ρ) (c * rw) (T0 c) i) (c * rw + i) _ = rowF (hJ h ρ) (c * rw) (T0 c) (i + 1) by rw [← rowF_s, ev]; unfold tin; rw [if_neg (by omega)]; first | rw [if_pos c57] | rw [if_neg c57]]
      refine r_iinc (y := nI (i + 1)) (q47 (i := 42) rfl) (Nat.le_of_ble_eq_true rfl) l3 (nI_1 i) rfl ?_
      have l2 := lk1 (k := 3) (v := .int (nI (i + 1))) l2 (by decide) (Or.inl rfl)
      have l0 := lk1 (k := 3) (v := .int (nI (i + 1))) l0 (by decide) (Or.inr (by decide))
      have l1 := lk1 (k := 3) (v := .int (nI (i + 1))) l1 (by decide) (Or.inr (by decide))
      have l3 := lk0 ls 3 (.int (nI (i + 1)))
      generalize lset1 ls 3 (.int (nI (i + 1))) = ls at l3 l2 l0 l1 ⊢
      refine r_goto 12 (q47 (i := 43) rfl) (by decide) ?_
      exact ih (i + 1) (by omega) ls l3 l2 l0 l1
set_option maxHeartbeats 2000000 in
set_option maxRecDepth 10000 in
theorem sp_makeInput {d : Nat} {h : hp} (S : Sh h) {ρ n rw c : Nat} (G : GC h ρ n rw (gini c)) (hPt : Pt h) {v : Nat} (hcv : c = v + 1) (hv : v < n) (hρ1 : ρ ≠ 1) : Run (d + 1 + 1) 47 [.ref 21, .int (nI v)] h 0 0 none (nodH (rJ h ρ (rowF (hJ h ρ) (c * rw) (T0 c) rw)) c 0 0) := by
  have G0 := G
  obtain ⟨⟨⟨ℓ, hRw, hℓ, hℓ1⟩, hr1, hr2, hn12⟩, ⟨e7, e8, e9, hc⟩, eLR, eCh, eNx, eRow⟩ := G
  refine Run.of (Nat.le_of_ble_eq_true rfl) (fun Q hQ => ?_)
  show Wp (Ex (d + 1)) 47 Q 0 [(0, .ref 21), (1, .int (nI v))] [] h 0 0
  refine r_aload_n (q47 (i := 0) rfl) rfl ?_
  refine r_getI (x := nI c) (q47 (i := 1) rfl) rfl (by decide) (k_21 S) (fun _ _ _ => rfl) e9 ?_
  refine r_aload_n (q47 (i := 2) rfl) rfl ?_
  refine r_getI (x := nI rw) (q47 (i := 3) rfl) rfl (by decide) (k_21 S) (fun _ _ _ => rfl) e7 ?_
  refine r_imul (q47 (i := 4) rfl) ?_
  rw [show ((nI c) * (nI rw) : Int32) = nI (c * rw) from pk_mul _ _]
  refine r_istore_n (ls' := [(2, .int (nI (c * rw))), (0, .ref 21), (1, .int (nI v))]) (q47 (i := 5) rfl) (Nat.le_of_ble_eq_true rfl) rfl ?_
  refine r_iconst (v := 0) (q47 (i := 6) rfl) (by decide) ?_
  refine r_istore_n (ls' := [(3, .int 0), (2, .int (nI (c * rw))), (0, .ref 21), (1, .int (nI v))]) (q47 (i := 7) rfl) (Nat.le_of_ble_eq_true rfl) rfl ?_
  have e0 : h = rJ h ρ (rowF (hJ h ρ) (c * rw) (T0 c) 0) := by rw [rowF_0, rJ_self]
  have fin : ∀ ls : List (Nat × Value), ls.lookup 3 = some (.int (nI rw)) → ls.lookup 2 = some (.int (nI (c * rw))) → ls.lookup 0 = some (.ref 21) → ls.lookup 1 = some (.int (nI v)) → Wp (Ex (d + 1)) 47 Q 74 ls [] (rJ h ρ (rowF (hJ h ρ) (c * rw) (T0 c) rw)) 0 0 := ?_
  · conv => arg 7; rw [e0]
    by_cases hv6 : v < 6
    · exact lp_inputLo S G0 (by omega) hPt hcv hv6 hρ1 fin rw 0 (by omega) _ rfl rfl rfl rfl
    · exact lp_inputHi S G0 (by omega) hcv (by omega) (by omega) fin rw 0 (by omega) _ rfl rfl rfl rfl
  intro ls l3 l2 l0 l1
  refine r_aload_n (q47 (i := 44) rfl) l0 ?_
  refine r_iconst (v := 0) (q47 (i := 45) rfl) (by decide) ?_
  refine r_iconst (v := 0) (q47 (i := 46) rfl) (by decide) ?_
  have S1 : Sh (rJ h ρ (rowF (hJ h ρ) (c * rw) (T0 c) rw)) := Sh.to S rfl
  refine r_cV (d := _) (q47 (i := 47) rfl) rfl rfl rfl (k_21 S1) (Nat.le_of_ble_eq_true rfl) (Nat.zero_le _) (Nat.zero_le _) (sp_addNode (x := c) S1 e9 (by omega) 0 0) ?_
  show Wp _ _ _ 80 ls [] (nodH (rJ h ρ (rowF (hJ h ρ) (c * rw) (T0 c) rw)) c 0 0) _ _
  exact r_vret (q47 (i := 48) rfl) rfl hQ
