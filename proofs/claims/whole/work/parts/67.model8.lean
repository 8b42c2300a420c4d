set_option maxHeartbeats 2000000 in
set_option maxRecDepth 10000 in
theorem lp_msw {n C : Nat} {T : Nat → Nat → Int64} (hn : n ≤ 12) (hC : C ≤ 1000) {v : vs} {rep : Nat → Nat} : ∀ (m i : Nat) (h : hp), i + 1 + m = C → XS h n C T → SWM h (swT T n v rep i).1 → (hI h 1073 = fun k => nI ((swT T n v rep i).2.1 k)) → ∃ h', SWM h' (swT T n v rep (C - 1)).1 ∧ (hI h' 1073 = fun k => nI ((swT T n v rep (C - 1)).2.1 k)) ∧ FrSM h h' ∧ ∀ (Q : resP) (bc bs : Nat), (∀ ls : List (Nat × Value), ls.lookup 1 = some (.int (nI (swT T n v rep (C - 1)).2.2)) → ls.lookup 0 = some (.ref 47) → Wp (Ex 7) 152 Q 162 ls [] h' bc bs) → ∀ ls : List (Nat × Value), ls.lookup 2 = some (.int (nI (i + 1))) → ls.lookup 1 = some (.int (nI (swT T n v rep i).2.2)) → ls.lookup 0 = some (.ref 47) → Wp (Ex 7) 152 Q 25 ls [] h bc bs := by
  intro m
  induction m with
  | zero =>
    intro i h hm X W R
    have e : C - 1 = i := by omega
    have eC : C = i + 1 := by omega
    have S := X.1
    have h11 := X.2.2.1
    refine ⟨h, by rw [e]; exact W, by rw [e]; exact R, FrSM.rf h, fun Q bc bs k ls l2 l1 l0 => ?_⟩
    rw [e] at k
    refine r_iload_n (q152 (i := 17) rfl) l2 ?_
    refine r_aload_n (q152 (i := 18) rfl) l0 ?_
    refine r_getI (x := nI C) (q152 (i := 19) rfl) rfl (by decide) (k_47 S) (fun _ _ _ => rfl) h11 ?_
    refine r_icmp 162 (q152 (i := 20) rfl) (by decide) (fun _ => ?_) (fun zz => absurd (show nI C ≤ nI (i + 1) from nI_le (by omega) (by omega)) zz)
    exact k ls l1 l0
  | succ m ih =>
    intro i h hm X W R
    have S := X.1
    have h11 := X.2.2.1
    have hre : ∀ k, k < i + 1 → (swT T n v rep i).2.1 k ≤ 2 * k := fun k hk => swT_le T n v rep i k (by omega)
    have F1 : FrSM h (sI h 1073 (i + 1) (-1)) := FrSM.wr _ _
    obtain ⟨h2, W2, e2, F2, K2⟩ := NS_all hn hC (x := i + 1) (by omega) hre (R := fun k => nI ((swT T n v rep i).2.1 k)) (fun _ _ => rfl) (i + 1) 0 (swT T n v rep i).1 (sI h 1073 (i + 1) (-1)) (Nat.zero_add _) (fun j hj => absurd hj (Nat.not_lt_zero j)) (F1.X hC X) W (by show u1 (hI h 1073) _ _ = _; rw [R])
    rw [nIu1] at e2
    obtain ⟨h3, W3, R3, F3, K3⟩ := ih (i + 1) h2 (by omega) (F2.X hC (F1.X hC X)) W2 e2
    refine ⟨h3, W3, R3, (F1.tr F2).tr F3, fun Q bc bs k ls l2 l1 l0 => ?_⟩
    have K4 := K2 Q bc bs (swT T n v rep i).2.2 (fun ls l2 l1 l0 => by
      refine r_iinc (y := nI (i + 1 + 1)) (q152 (i := 96) rfl) (Nat.le_of_ble_eq_true rfl) l2 (nI_1 _) rfl ?_
      have l1 := lk1 (k := 2) (v := .int (nI (i + 1 + 1))) l1 (by decide) (Or.inl rfl)
      have l0 := lk1 (k := 2) (v := .int (nI (i + 1 + 1))) l0 (by decide) (Or.inr (by decide))
      have l2 := lk0 ls 2 (.int (nI (i + 1 + 1)))
      generalize lset1 ls 2 (.int (nI (i + 1 + 1))) = ls at l2 l1 l0 ⊢
      refine r_goto 25 (q152 (i := 97) rfl) (by decide) ?_
      exact K3 Q bc bs k ls l2 l1 l0)
    refine r_iload_n (q152 (i := 17) rfl) l2 ?_
    refine r_aload_n (q152 (i := 18) rfl) l0 ?_
    refine r_getI (x := nI C) (q152 (i := 19) rfl) rfl (by decide) (k_47 S) (fun _ _ _ => rfl) h11 ?_
    refine r_icmp 162 (q152 (i := 20) rfl) (by decide) (fun zz => absurd zz (show ¬ (nI C ≤ nI (i + 1)) from nI_ge (by omega) (by omega))) (fun _ => ?_)
    refine r_aload_n (q152 (i := 21) rfl) l0 ?_
    refine r_getR (b := 1073) (q152 (i := 22) rfl) rfl (by decide) (k_47 S) (fun _ _ _ => rfl) (r_47_19 S) ?_
    refine r_iload_n (q152 (i := 23) rfl) l2 ?_
    refine r_iconst (v := (-1)) (q152 (i := 24) rfl) (by decide) ?_
    refine r_iasN (q152 (i := 25) rfl) (k_1073 S) (by omega) (by decide) ?_
    exact K4 ls l2 l1 l0
/-! ===== what is needed, in the reference ===== -/
def NDM (h : hp) (C : Nat) (nd : Nat → Bool) : Prop := ∀ k, k < C → hI h 1326 k = bI (nd k)
theorem NDM_mk {h : hp} {C : Nat} {nd : Nat → Bool} (D : NDM h C nd) (rep : Nat → Nat) (p : Nat) : NDM (sI h 1326 (rep (p / 2) / 2) 1) C (mkN rep nd p) := fun k hk => by
  show u1 (hI h 1326) _ _ k = bI (u1 nd _ _ k)
  by_cases e : k = rep (p / 2) / 2
  · rw [e, u1_s, u1_s]; rfl
  · rw [u1_n e, u1_n e]; exact D k hk
def FrN (h h' : hp) : Prop := h'.2 = h.2 ∧ (∀ k, k ≠ 47 → k ≠ 1326 → hI h' k = hI h k) ∧ ∀ j, j ≠ 22 → hI h' 47 j = hI h 47 j
theorem FrN.rf (h : hp) : FrN h h := ⟨rfl, fun _ _ _ => rfl, fun _ _ => rfl⟩
theorem FrN.tr {h h' h'' : hp} (a : FrN h h') (b : FrN h' h'') : FrN h h'' := ⟨b.1.trans a.1, fun k x y => (b.2.1 k x y).trans (a.2.1 k x y), fun j x => (b.2.2 j x).trans (a.2.2 j x)⟩
theorem FrN.S {h h' : hp} (F : FrN h h') (S : Sh h) : Sh h' := S.to (by rw [F.1])
theorem FrN.w {h : hp} (i : Nat) (v : Int32) : FrN h (sI h 1326 i v) := ⟨rfl, fun k _ x => by
  show u2 h.1 1326 _ _ k = _
  rw [u2_n x], fun _ _ => rfl⟩
theorem FrN.r {h : hp} (f : Nat → Int32) : FrN h (rI h 1326 f) := ⟨rfl, fun k _ x => by
  show u1 h.1 1326 _ k = _
  rw [u1_n x], fun _ _ => rfl⟩
theorem FrN.c {h : hp} (v : Int32) : FrN h (sI h 47 22 v) := ⟨rfl, fun k x _ => by
  show u2 h.1 47 _ _ k = _
  rw [u2_n x], fun j x => by
  show u1 (h.1 47) 22 _ j = _
  rw [u1_n x]⟩
theorem nb0 : vp_nar .boolean 0 = 0 := by decide
theorem nb1 : vp_nar .boolean 1 = 1 := by decide
set_option maxHeartbeats 2000000 in
set_option maxRecDepth 10000 in
theorem lp_ncl {d : Nat} {h : hp} (S : Sh h) {C : Nat} (h11 : hI h 47 11 = nI C) (hC : C ≤ 1000) {Q : resP} {bc bs : Nat} (hk : ∀ ls : List (Nat × Value), ls.lookup 0 = some (.ref 47) → Wp (Ex d) 153 Q 23 ls [] (rI h 1326 (filI (hI h 1326) 0 C)) bc bs) : ∀ (m i : Nat), i + m = C → ∀ ls : List (Nat × Value), ls.lookup 1 = some (.int (nI i)) → ls.lookup 0 = some (.ref 47) → Wp (Ex d) 153 Q 2 ls [] (rI h 1326 (filI (hI h 1326) 0 i)) bc bs := by
  intro m
  induction m with
  | zero =>
    intro i hm ls l1 l0
    have e : i = C := by omega
    subst e
    refine r_iload_n (q153 (i := 2) rfl) l1 ?_
    refine r_aload_n (q153 (i := 3) rfl) l0 ?_
    refine r_getI (x := nI i) (q153 (i := 4) rfl) rfl (by decide) (k_47 (S.to rfl)) (fun _ _ _ => rfl) h11 ?_
    refine r_icmp 23 (q153 (i := 5) rfl) (by decide) (fun _ => ?_) (fun zz => absurd (show nI i ≤ nI i from Int32.le_refl _) zz)
    exact hk ls l0
  | succ m ih =>
    intro i hm ls l1 l0
    have S2 : Sh (rI h 1326 (filI (hI h 1326) 0 i)) := S.to rfl
    refine r_iload_n (q153 (i := 2) rfl) l1 ?_
    refine r_aload_n (q153 (i := 3) rfl) l0 ?_
    refine r_getI (x := nI C) (q153 (i := 4) rfl) rfl (by decide) (k_47 S2) (fun _ _ _ => rfl) h11 ?_
    refine r_icmp 23 (q153 (i := 5) rfl) (by decide) (fun zz => absurd zz (show ¬ (nI C ≤ nI i) from nI_ge (by omega) (by omega))) (fun _ => ?_)
    refine r_aload_n (q153 (i := 6) rfl) l0 ?_
    refine r_getR (b := 1326) (q153 (i := 7) rfl) rfl (by decide) (k_47 S2) (fun _ _ _ => rfl) (r_47_41 S2) ?_
    refine r_iload_n (q153 (i := 8) rfl) l1 ?_
    refine r_iconst (v := 0) (q153 (i := 9) rfl) (by decide) ?_
    refine r_zasN (y := 0) (q153 (i := 10) rfl) (k_1326 S2) (by omega) (by decide) nb0 ?_
    refine r_iinc (y := nI (i + 1)) (q153 (i := 11) rfl) (Nat.le_of_ble_eq_true rfl) l1 (nI_1 i) rfl ?_
    have l0 := lk1 (k := 1) (v := .int (nI (i + 1))) l0 (by decide) (Or.inl rfl)
    have l1 := lk0 ls 1 (.int (nI (i + 1)))
    generalize lset1 ls 1 (.int (nI (i + 1))) = ls at l1 l0 ⊢
    refine r_goto 2 (q153 (i := 12) rfl) (by decide) ?_
    rw [sI_rI, filI_s]
    exact ih (i + 1) (by omega) ls l1 l0
set_option maxHeartbeats 2000000 in
set_option maxRecDepth 10000 in
theorem lp_nout0 {d n g k C : Nat} (hn : n ≤ 12) (hg : g ≤ 120) (hk : k ≤ 10) (hC : C ≤ 1000) {rep lit : Nat → Nat} {w : Nat → Int32} (hre : ∀ x, x < C → rep x ≤ 2 * x) (hw : ∀ i, i < k → pl (w i) < nI (n + g) ∧ sd n lit (w i) < 2 * C) {nd : Nat → Bool} : ∀ (m i : Nat) (h : hp), i + m = k → Sh h → hI h 47 1 = nI n → (hI h 1073 = fun q => nI (rep q)) → hI h 49 0 = nI k → hI h 63 = w → (∀ j, j < g → hI h 66 j = nI (lit j)) → NDM h C (mkO rep (fun j => sd n lit (w j)) nd i) → ∃ h', NDM h' C (mkO rep (fun j => sd n lit (w j)) nd k) ∧ FrN h h' ∧ ∀ (Q : resP) (bc bs : Nat), (∀ ls : List (Nat × Value), ls.lookup 1 = some (.int 0) → ls.lookup 0 = some (.ref 47) → Wp (Ex (d + 1)) 153 Q 76 ls [] h' bc bs) → ∀ ls : List (Nat × Value), ls.lookup 2 = some (.int (nI i)) → ls.lookup 1 = some (.int 0) → ls.lookup 0 = some (.ref 47) → Wp (Ex (d + 1)) 153 Q 32 ls [] h bc bs := by
  intro m
  induction m with
  | zero =>
    intro i h hm S e1 R e49 eo hl D
    have e : i = k := by omega
    subst e
    refine ⟨h, D, FrN.rf h, fun Q bc bs kk ls l2 l1 l0 => ?_⟩
    refine r_iload_n (q153 (i := 20) rfl) l2 ?_
    refine r_aload_n (q153 (i := 21) rfl) l0 ?_
    refine r_getR (b := 49) (q153 (i := 22) rfl) rfl (by decide) (k_47 S) (fun _ _ _ => rfl) (r_47_3 S) ?_
    refine r_iload_n (q153 (i := 23) rfl) l1 ?_
    refine r_iaload (x := nI i) (q153 (i := 24) rfl) (k_49 S) (vp_in_nI (n := 0) (by decide) (by decide)) e49 ?_
    refine r_icmp 76 (q153 (i := 25) rfl) (by decide) (fun _ => ?_) (fun zz => absurd (show nI i ≤ nI i from Int32.le_refl _) zz)
    exact kk ls l1 l0
  | succ m ih =>
    intro i h hm S e1 R e49 eo hl D
    obtain ⟨w1, w2⟩ := hw i (by omega)
    have Rs := sp_side0 (d := d) S e1 hl hn hg w1
    obtain ⟨p, ep⟩ : ∃ p, p = sd n lit (w i) := ⟨_, rfl⟩
    rw [← ep] at Rs w2
    have hr := hre (p / 2) (by omega)
    have D2 : NDM (sI h 1326 (rep (p / 2) / 2) 1) C (mkO rep (fun j => sd n lit (w j)) nd (i + 1)) := by
      show NDM _ C (mkN rep (mkO rep (fun j => sd n lit (w j)) nd i) (sd n lit (w i)))
      rw [← ep]
      exact NDM_mk D rep p
    have F2 : FrN h (sI h 1326 (rep (p / 2) / 2) 1) := FrN.w _ _
    obtain ⟨h', D', F', K⟩ := ih (i + 1) (sI h 1326 (rep (p / 2) / 2) 1) (by omega) (S.to rfl) e1 R e49 eo hl D2
    refine ⟨h', D', F2.tr F', fun Q bc bs kk ls l2 l1 l0 => ?_⟩
    refine r_iload_n (q153 (i := 20) rfl) l2 ?_
    refine r_aload_n (q153 (i := 21) rfl) l0 ?_
    refine r_getR (b := 49) (q153 (i := 22) rfl) rfl (by decide) (k_47 S) (fun _ _ _ => rfl) (r_47_3 S) ?_
    refine r_iload_n (q153 (i := 23) rfl) l1 ?_
    refine r_iaload (x := nI k) (q153 (i := 24) rfl) (k_49 S) (vp_in_nI (n := 0) (by decide) (by decide)) e49 ?_
    refine r_icmp 76 (q153 (i := 25) rfl) (by decide) (fun zz => absurd zz (show ¬ (nI k ≤ nI i) from nI_ge (by omega) (by omega))) (fun _ => ?_)
    refine r_aload_n (q153 (i := 26) rfl) l0 ?_
    refine r_getR (b := 1326) (q153 (i := 27) rfl) rfl (by decide) (k_47 S) (fun _ _ _ => rfl) (r_47_41 S) ?_
    refine r_aload_n (q153 (i := 28) rfl) l0 ?_
    refine r_getR (b := 1073) (q153 (i := 29) rfl) rfl (by decide) (k_47 S) (fun _ _ _ => rfl) (r_47_19 S) ?_
    refine r_aload_n (q153 (i := 30) rfl) l0 ?_
    refine r_iload_n (q153 (i := 31) rfl) l1 ?_
    refine r_aload_n (q153 (i := 32) rfl) l0 ?_
    refine r_getR (b := 62) (q153 (i := 33) rfl) rfl (by decide) (k_47 S) (fun _ _ _ => rfl) (r_47_8 S) ?_
    refine r_iload_n (q153 (i := 34) rfl) l1 ?_
    refine r_aaload5 (q153 (i := 35) rfl) (k_62 S) (vp_in_nI (n := 0) (by decide) (by decide)) (r_62_0 S) ?_
    refine r_iload_n (q153 (i := 36) rfl) l2 ?_
    refine r_iaN (x := w i) (q153 (i := 37) rfl) (k_63 S) (by omega) (by decide) (by rw [eo]) ?_
    refine r_cV (d := _) (q153 (i := 38) rfl) rfl rfl rfl (k_47 S) (Nat.le_of_ble_eq_true rfl) (Nat.zero_le _) (Nat.zero_le _) Rs ?_
    show Wp _ _ _ 63 ls [.int (nI p), .ref 1073, .ref 1326] h _ _
    refine r_iconst (v := 2) (q153 (i := 39) rfl) (by decide) ?_
    refine r_idiv (q153 (i := 40) rfl) (by decide) ?_
    rw [show ((nI p) / 2 : Int32) = nI (p / 2) from div2 (by omega)]
    refine r_iaN (x := nI (rep (p / 2))) (q153 (i := 41) rfl) (k_1073 S) (by omega) (by decide) (by rw [R]) ?_
    refine r_iconst (v := 2) (q153 (i := 42) rfl) (by decide) ?_
    refine r_idiv (q153 (i := 43) rfl) (by decide) ?_
    rw [show ((nI (rep (p / 2))) / 2 : Int32) = nI (rep (p / 2) / 2) from div2 (by omega)]
    refine r_iconst (v := 1) (q153 (i := 44) rfl) (by decide) ?_
    refine r_zasN (y := 1) (q153 (i := 45) rfl) (k_1326 S) (by omega) (by decide) nb1 ?_
    refine r_iinc (y := nI (i + 1)) (q153 (i := 46) rfl) (Nat.le_of_ble_eq_true rfl) l2 (nI_1 i) rfl ?_
    have l1 := lk1 (k := 2) (v := .int (nI (i + 1))) l1 (by decide) (Or.inl rfl)
    have l0 := lk1 (k := 2) (v := .int (nI (i + 1))) l0 (by decide) (Or.inr (by decide))
    have l2 := lk0 ls 2 (.int (nI (i + 1)))
    generalize lset1 ls 2 (.int (nI (i + 1))) = ls at l2 l1 l0 ⊢
    refine r_goto 32 (q153 (i := 47) rfl) (by decide) ?_
    exact K Q bc bs kk ls l2 l1 l0
set_option maxHeartbeats 2000000 in
set_option maxRecDepth 10000 in
theorem lp_nout1 {d n g k C : Nat} (hn : n ≤ 12) (hg : g ≤ 120) (hk : k ≤ 10) (hC : C ≤ 1000) {rep lit : Nat → Nat} {w : Nat → Int32} (hre : ∀ x, x < C → rep x ≤ 2 * x) (hw : ∀ i, i < k → pl (w i) < nI (n + g) ∧ sd n lit (w i) < 2 * C) {nd : Nat → Bool} : ∀ (m i : Nat) (h : hp), i + m = k → Sh h → hI h 47 1 = nI n → (hI h 1073 = fun q => nI (rep q)) → hI h 49 1 = nI k → hI h 64 = w → (∀ j, j < g → hI h 67 j = nI (lit j)) → NDM h C (mkO rep (fun j => sd n lit (w j)) nd i) → ∃ h', NDM h' C (mkO rep (fun j => sd n lit (w j)) nd k) ∧ FrN h h' ∧ ∀ (Q : resP) (bc bs : Nat), (∀ ls : List (Nat × Value), ls.lookup 1 = some (.int 1) → ls.lookup 0 = some (.ref 47) → Wp (Ex (d + 1)) 153 Q 76 ls [] h' bc bs) → ∀ ls : List (Nat × Value), ls.lookup 2 = some (.int (nI i)) → ls.lookup 1 = some (.int 1) → ls.lookup 0 = some (.ref 47) → Wp (Ex (d + 1)) 153 Q 32 ls [] h bc bs := by
  intro m
  induction m with
  | zero =>
    intro i h hm S e1 R e49 eo hl D
    have e : i = k := by omega
    subst e
    refine ⟨h, D, FrN.rf h, fun Q bc bs kk ls l2 l1 l0 => ?_⟩
    refine r_iload_n (q153 (i := 20) rfl) l2 ?_
    refine r_aload_n (q153 (i := 21) rfl) l0 ?_
    refine r_getR (b := 49) (q153 (i := 22) rfl) rfl (by decide) (k_47 S) (fun _ _ _ => rfl) (r_47_3 S) ?_
    refine r_iload_n (q153 (i := 23) rfl) l1 ?_
    refine r_iaload (x := nI i) (q153 (i := 24) rfl) (k_49 S) (vp_in_nI (n := 1) (by decide) (by decide)) e49 ?_
    refine r_icmp 76 (q153 (i := 25) rfl) (by decide) (fun _ => ?_) (fun zz => absurd (show nI i ≤ nI i from Int32.le_refl _) zz)
    exact kk ls l1 l0
  | succ m ih =>
    intro i h hm S e1 R e49 eo hl D
    obtain ⟨w1, w2⟩ := hw i (by omega)
    have Rs := sp_side1 (d := d) S e1 hl hn hg w1
    obtain ⟨p, ep⟩ : ∃ p, p = sd n lit (w i) := ⟨_, rfl⟩
    rw [← ep] at Rs w2
    have hr := hre (p / 2) (by omega)
    have D2 : NDM (sI h 1326 (rep (p / 2) / 2) 1) C (mkO rep (fun j => sd n lit (w j)) nd (i + 1)) := by
      show NDM _ C (mkN rep (mkO rep (fun j => sd n lit (w j)) nd i) (sd n lit (w i)))
      rw [← ep]
      exact NDM_mk D rep p
    have F2 : FrN h (sI h 1326 (rep (p / 2) / 2) 1) := FrN.w _ _
    obtain ⟨h', D', F', K⟩ := ih (i + 1) (sI h 1326 (rep (p / 2) / 2) 1) (by omega) (S.to rfl) e1 R e49 eo hl D2
    refine ⟨h', D', F2.tr F', fun Q bc bs kk ls l2 l1 l0 => ?_⟩
    refine r_iload_n (q153 (i := 20) rfl) l2 ?_
    refine r_aload_n (q153 (i := 21) rfl) l0 ?_
    refine r_getR (b := 49) (q153 (i := 22) rfl) rfl (by decide) (k_47 S) (fun _ _ _ => rfl) (r_47_3 S) ?_
    refine r_iload_n (q153 (i := 23) rfl) l1 ?_
    refine r_iaload (x := nI k) (q153 (i := 24) rfl) (k_49 S) (vp_in_nI (n := 1) (by decide) (by decide)) e49 ?_
    refine r_icmp 76 (q153 (i := 25) rfl) (by decide) (fun zz => absurd zz (show ¬ (nI k ≤ nI i) from nI_ge (by omega) (by omega))) (fun _ => ?_)
    refine r_aload_n (q153 (i := 26) rfl) l0 ?_
    refine r_getR (b := 1326) (q153 (i := 27) rfl) rfl (by decide) (k_47 S) (fun _ _ _ => rfl) (r_47_41 S) ?_
    refine r_aload_n (q153 (i := 28) rfl) l0 ?_
    refine r_getR (b := 1073) (q153 (i := 29) rfl) rfl (by decide) (k_47 S) (fun _ _ _ => rfl) (r_47_19 S) ?_
    refine r_aload_n (q153 (i := 30) rfl) l0 ?_
    refine r_iload_n (q153 (i := 31) rfl) l1 ?_
    refine r_aload_n (q153 (i := 32) rfl) l0 ?_
    refine r_getR (b := 62) (q153 (i := 33) rfl) rfl (by decide) (k_47 S) (fun _ _ _ => rfl) (r_47_8 S) ?_
    refine r_iload_n (q153 (i := 34) rfl) l1 ?_
    refine r_aaload5 (q153 (i := 35) rfl) (k_62 S) (vp_in_nI (n := 1) (by decide) (by decide)) (r_62_1 S) ?_
    refine r_iload_n (q153 (i := 36) rfl) l2 ?_
    refine r_iaN (x := w i) (q153 (i := 37) rfl) (k_64 S) (by omega) (by decide) (by rw [eo]) ?_
    refine r_cV (d := _) (q153 (i := 38) rfl) rfl rfl rfl (k_47 S) (Nat.le_of_ble_eq_true rfl) (Nat.zero_le _) (Nat.zero_le _) Rs ?_
    show Wp _ _ _ 63 ls [.int (nI p), .ref 1073, .ref 1326] h _ _
    refine r_iconst (v := 2) (q153 (i := 39) rfl) (by decide) ?_
    refine r_idiv (q153 (i := 40) rfl) (by decide) ?_
    rw [show ((nI p) / 2 : Int32) = nI (p / 2) from div2 (by omega)]
    refine r_iaN (x := nI (rep (p / 2))) (q153 (i := 41) rfl) (k_1073 S) (by omega) (by decide) (by rw [R]) ?_
    refine r_iconst (v := 2) (q153 (i := 42) rfl) (by decide) ?_
    refine r_idiv (q153 (i := 43) rfl) (by decide) ?_
    rw [show ((nI (rep (p / 2))) / 2 : Int32) = nI (rep (p / 2) / 2) from div2 (by omega)]
    refine r_iconst (v := 1) (q153 (i := 44) rfl) (by decide) ?_
    refine r_zasN (y := 1) (q153 (i := 45) rfl) (k_1326 S) (by omega) (by decide) nb1 ?_
    refine r_iinc (y := nI (i + 1)) (q153 (i := 46) rfl) (Nat.le_of_ble_eq_true rfl) l2 (nI_1 i) rfl ?_
    have l1 := lk1 (k := 2) (v := .int (nI (i + 1))) l1 (by decide) (Or.inl rfl)
    have l0 := lk1 (k := 2) (v := .int (nI (i + 1))) l0 (by decide) (Or.inr (by decide))
    have l2 := lk0 ls 2 (.int (nI (i + 1)))
    generalize lset1 ls 2 (.int (nI (i + 1))) = ls at l2 l1 l0 ⊢
    refine r_goto 32 (q153 (i := 47) rfl) (by decide) ?_
    exact K Q bc bs kk ls l2 l1 l0
set_option maxHeartbeats 2000000 in
set_option maxRecDepth 10000 in
theorem lp_ndn {d n : Nat} {γ : gs} (W : gwf n γ) (hC : gC γ ≤ 1000) {rep : Nat → Nat} (hre : ∀ x, x < gC γ → rep x ≤ 2 * x) : ∀ (m : Nat) (s : (Nat → Bool) × Nat) (h : hp), n + m < gC γ → Sh h → hI h 47 1 = nI n → (∀ k, n < k → k < gC γ → hI h 68 k = nI (gL γ k) ∧ hI h 69 k = nI (gR γ k)) → (hI h 1073 = fun q => nI (rep q)) → NDM h (gC γ) s.1 → hI h 47 22 = nI s.2 → ∃ h', hI h' 47 22 = nI (ndL γ rep n m s).2 ∧ FrN h h' ∧ ∀ (Q : resP) (bc bs : Nat), Q none h' → ∀ ls : List (Nat × Value), ls.lookup 1 = some (.int (nI (n + m))) → ls.lookup 0 = some (.ref 47) → Wp (Ex d) 153 Q 94 ls [] h bc bs := by
  intro m
  induction m with
  | zero =>
    intro s h hm S e1 G R D N
    refine ⟨h, N, FrN.rf h, fun Q bc bs hQ ls l1 l0 => ?_⟩
    refine r_iload_n (q153 (i := 58) rfl) l1 ?_
    refine r_aload_n (q153 (i := 59) rfl) l0 ?_
    refine r_getI (x := nI n) (q153 (i := 60) rfl) rfl (by decide) (k_47 S) (fun _ _ _ => rfl) e1 ?_
    refine r_icmp 172 (q153 (i := 61) rfl) (by decide) (fun _ => ?_) (fun zz => absurd (show nI (n + 0) ≤ nI n from nI_le (by omega) (by omega)) zz)
    exact r_vret (q153 (i := 106) rfl) rfl hQ
  | succ m ih =>
    intro s h hm S e1 G R D N
    obtain ⟨gl, gr⟩ := G (n + (m + 1)) (by omega) hm
    obtain ⟨w1, w2⟩ := W.2.1 (n + (m + 1)) (by omega) hm
    have d1 := D (n + (m + 1)) hm
    have hr1 := hre (gL γ (n + (m + 1)) / 2) (by omega)
    have hr2 := hre (gR γ (n + (m + 1)) / 2) (by omega)
    have en : n + (m + 1) = n + 1 + m := by omega
    cases b : s.1 (n + (m + 1)) with
    | true =>
      rw [b] at d1
      have d1 : hI h 1326 (n + (m + 1)) = 1 := d1
      have D2 : NDM (sI h 47 22 (nI (s.2 + 1))) (gC γ) s.1 := D
      have D3 := NDM_mk (NDM_mk D2 rep (gL γ (n + (m + 1)))) rep (gR γ (n + (m + 1)))
      have F3 : FrN h (sI (sI (sI h 47 22 (nI (s.2 + 1))) 1326 (rep (gL γ (n + (m + 1)) / 2) / 2) 1) 1326 (rep (gR γ (n + (m + 1)) / 2) / 2) 1) := ((FrN.c _).tr (FrN.w _ _)).tr (FrN.w _ _)
      obtain ⟨h', N', F', K⟩ := ih (mkN rep (mkN rep s.1 (gL γ (n + (m + 1)))) (gR γ (n + (m + 1))), s.2 + 1) (sI (sI (sI h 47 22 (nI (s.2 + 1))) 1326 (rep (gL γ (n + (m + 1)) / 2) / 2) 1) 1326 (rep (gR γ (n + (m + 1)) / 2) / 2) 1) (by omega) (S.to rfl) e1 G R D3 rfl
      have el : ndL γ rep n (m + 1) s = ndL γ rep n m (mkN rep (mkN rep s.1 (gL γ (n + (m + 1)))) (gR γ (n + (m + 1))), s.2 + 1) := by
        show ndL γ rep n m (if s.1 (n + 1 + m) then _ else _) = _
        rw [← en, b]; rfl
      refine ⟨h', by rw [el]; exact N', F3.tr F', fun Q bc bs hQ ls l1 l0 => ?_⟩
      refine r_iload_n (q153 (i := 58) rfl) l1 ?_
      refine r_aload_n (q153 (i := 59) rfl) l0 ?_
      refine r_getI (x := nI n) (q153 (i := 60) rfl) rfl (by decide) (k_47 S) (fun _ _ _ => rfl) e1 ?_
      refine r_icmp 172 (q153 (i := 61) rfl) (by decide) (fun zz => absurd zz (show ¬ (nI (n + (m + 1)) ≤ nI n) from nI_ge (by omega) (by omega))) (fun _ => ?_)
      refine r_aload_n (q153 (i := 62) rfl) l0 ?_
      refine r_getR (b := 1326) (q153 (i := 63) rfl) rfl (by decide) (k_47 S) (fun _ _ _ => rfl) (r_47_41 S) ?_
      refine r_iload_n (q153 (i := 64) rfl) l1 ?_
      refine r_zaN (x := 1) (q153 (i := 65) rfl) (k_1326 S) (by omega) (by decide) d1 ?_
      refine r_if 114 (q153 (i := 66) rfl) (by decide) (fun _ => ?_) (fun zz => absurd (show ¬ (1 : Int32) = 0 from by decide) zz)
      refine r_aload_n (q153 (i := 68) rfl) l0 ?_
      refine r_dup (q153 (i := 69) rfl) rfl ?_
      refine r_getI (x := nI s.2) (q153 (i := 70) rfl) rfl (by decide) (k_47 S) (fun _ _ _ => rfl) N ?_
      refine r_iconst (v := 1) (q153 (i := 71) rfl) (by decide) ?_
      refine r_iadd (q153 (i := 72) rfl) ?_
      rw [show ((nI s.2) + 1 : Int32) = nI (s.2 + 1) from nI_1 _]
      refine r_putI (q153 (i := 73) rfl) rfl (by decide) (k_47 S) rfl rfl ?_
      refine r_aload_n (q153 (i := 74) rfl) l0 ?_
      refine r_getR (b := 1326) (q153 (i := 75) rfl) rfl (by decide) (k_47 S) (fun _ _ _ => rfl) (r_47_41 S) ?_
      refine r_aload_n (q153 (i := 76) rfl) l0 ?_
      refine r_getR (b := 1073) (q153 (i := 77) rfl) rfl (by decide) (k_47 S) (fun _ _ _ => rfl) (r_47_19 S) ?_
      refine r_aload_n (q153 (i := 78) rfl) l0 ?_
      refine r_getR (b := 68) (q153 (i := 79) rfl) rfl (by decide) (k_47 S) (fun _ _ _ => rfl) (r_47_12 S) ?_
      refine r_iload_n (q153 (i := 80) rfl) l1 ?_
      refine r_iaN (x := nI (gL γ (n + (m + 1)))) (q153 (i := 81) rfl) (k_68 S) (by omega) (by decide) gl ?_
      refine r_iconst (v := 2) (q153 (i := 82) rfl) (by decide) ?_
      refine r_idiv (q153 (i := 83) rfl) (by decide) ?_
      rw [show ((nI (gL γ (n + (m + 1)))) / 2 : Int32) = nI (gL γ (n + (m + 1)) / 2) from div2 (by omega)]
      refine r_iaN (x := nI (rep (gL γ (n + (m + 1)) / 2))) (q153 (i := 84) rfl) (k_1073 S) (by omega) (by decide) (congrFun R _) ?_
      refine r_iconst (v := 2) (q153 (i := 85) rfl) (by decide) ?_
      refine r_idiv (q153 (i := 86) rfl) (by decide) ?_
      rw [show ((nI (rep (gL γ (n + (m + 1)) / 2))) / 2 : Int32) = nI (rep (gL γ (n + (m + 1)) / 2) / 2) from div2 (by omega)]
      refine r_iconst (v := 1) (q153 (i := 87) rfl) (by decide) ?_
      refine r_zasN (y := 1) (q153 (i := 88) rfl) (k_1326 S) (by omega) (by decide) nb1 ?_
      refine r_aload_n (q153 (i := 89) rfl) l0 ?_
      refine r_getR (b := 1326) (q153 (i := 90) rfl) rfl (by decide) (k_47 S) (fun _ _ _ => rfl) (r_47_41 S) ?_
      refine r_aload_n (q153 (i := 91) rfl) l0 ?_
      refine r_getR (b := 1073) (q153 (i := 92) rfl) rfl (by decide) (k_47 S) (fun _ _ _ => rfl) (r_47_19 S) ?_
      refine r_aload_n (q153 (i := 93) rfl) l0 ?_
      refine r_getR (b := 69) (q153 (i := 94) rfl) rfl (by decide) (k_47 S) (fun _ _ _ => rfl) (r_47_13 S) ?_
      refine r_iload_n (q153 (i := 95) rfl) l1 ?_
      refine r_iaN (x := nI (gR γ (n + (m + 1)))) (q153 (i := 96) rfl) (k_69 S) (by omega) (by decide) gr ?_
      refine r_iconst (v := 2) (q153 (i := 97) rfl) (by decide) ?_
      refine r_idiv (q153 (i := 98) rfl) (by decide) ?_
      rw [show ((nI (gR γ (n + (m + 1)))) / 2 : Int32) = nI (gR γ (n + (m + 1)) / 2) from div2 (by omega)]
      refine r_iaN (x := nI (rep (gR γ (n + (m + 1)) / 2))) (q153 (i := 99) rfl) (k_1073 S) (by omega) (by decide) (congrFun R _) ?_
      refine r_iconst (v := 2) (q153 (i := 100) rfl) (by decide) ?_
      refine r_idiv (q153 (i := 101) rfl) (by decide) ?_
      rw [show ((nI (rep (gR γ (n + (m + 1)) / 2))) / 2 : Int32) = nI (rep (gR γ (n + (m + 1)) / 2) / 2) from div2 (by omega)]
      refine r_iconst (v := 1) (q153 (i := 102) rfl) (by decide) ?_
      refine r_zasN (y := 1) (q153 (i := 103) rfl) (k_1326 S) (by omega) (by decide) nb1 ?_
      refine r_iinc (y := nI (n + m)) (q153 (i := 104) rfl) (Nat.le_of_ble_eq_true rfl) l1 (nI_dec _ _ rfl) rfl ?_
      have l0 := lk1 (k := 1) (v := .int (nI (n + m))) l0 (by decide) (Or.inl rfl)
      have l1 := lk0 ls 1 (.int (nI (n + m)))
      generalize lset1 ls 1 (.int (nI (n + m))) = ls at l1 l0 ⊢
      refine r_goto 94 (q153 (i := 105) rfl) (by decide) ?_
      exact K Q bc bs hQ ls l1 l0
    | false =>
      rw [b] at d1
      have d1 : hI h 1326 (n + (m + 1)) = 0 := d1
      obtain ⟨h', N', F', K⟩ := ih s h (by omega) S e1 G R D N
      have el : ndL γ rep n (m + 1) s = ndL γ rep n m s := by
        show ndL γ rep n m (if s.1 (n + 1 + m) then _ else _) = _
        rw [← en, b]; rfl
      refine ⟨h', by rw [el]; exact N', F', fun Q bc bs hQ ls l1 l0 => ?_⟩
      refine r_iload_n (q153 (i := 58) rfl) l1 ?_
      refine r_aload_n (q153 (i := 59) rfl) l0 ?_
      refine r_getI (x := nI n) (q153 (i := 60) rfl) rfl (by decide) (k_47 S) (fun _ _ _ => rfl) e1 ?_
      refine r_icmp 172 (q153 (i := 61) rfl) (by decide) (fun zz => absurd zz (show ¬ (nI (n + (m + 1)) ≤ nI n) from nI_ge (by omega) (by omega))) (fun _ => ?_)
      refine r_aload_n (q153 (i := 62) rfl) l0 ?_
      refine r_getR (b := 1326) (q153 (i := 63) rfl) rfl (by decide) (k_47 S) (fun _ _ _ => rfl) (r_47_41 S) ?_
      refine r_iload_n (q153 (i := 64) rfl) l1 ?_
      refine r_zaN (x := 0) (q153 (i := 65) rfl) (k_1326 S) (by omega) (by decide) d1 ?_
      refine r_if 114 (q153 (i := 66) rfl) (by decide) (fun zz => absurd zz (show ¬ (¬ (0 : Int32) = 0) from by decide)) (fun _ => ?_)
      refine r_goto 166 (q153 (i := 67) rfl) (by decide) ?_
      refine r_iinc (y := nI (n + m)) (q153 (i := 104) rfl) (Nat.le_of_ble_eq_true rfl) l1 (nI_dec _ _ rfl) rfl ?_
      have l0 := lk1 (k := 1) (v := .int (nI (n + m))) l0 (by decide) (Or.inl rfl)
      have l1 := lk0 ls 1 (.int (nI (n + m)))
      generalize lset1 ls 1 (.int (nI (n + m))) = ls at l1 l0 ⊢
      refine r_goto 94 (q153 (i := 105) rfl) (by decide) ?_
      exact K Q bc bs hQ ls l1 l0
set_option maxHeartbeats 2000000 in
set_option maxRecDepth 10000 in
theorem sp_need {d : Nat} {σ : st8} (Z : zok σ) {rep : Nat → Nat} (hre : ∀ x, x < gC (zG σ) → rep x ≤ 2 * x) {h : hp} (S : Sh h) (e1 : hI h 47 1 = nI (zn σ)) (G : MG h (zn σ) (zG σ)) (L0 : ∀ g, g < (za σ).2.1 → hI h 66 g = nI (z0 σ g)) (L1 : ∀ g, g < (zb σ).2.1 → hI h 67 g = nI (z1 σ g)) (R : hI h 1073 = fun q => nI (rep q)) (mA : MA h (za σ)) (mB : MB h (zb σ)) : ∃ h', Run (d + 1 + 1) 153 [.ref 47] h 0 0 none h' ∧ hI h' 47 22 = nI (needT (zG σ) rep (zn σ) (fun i => sd (zn σ) (z0 σ) ((za σ).2.2.1 i)) (fun i => sd (zn σ) (z1 σ) ((zb σ).2.2.1 i)) (za σ).2.2.2 (zb σ).2.2.2) ∧ FrN h h' := by
  have hC := zC Z
  have hn := Z.1.2
  have wf := zwf Z
  have wn := wf.1
  obtain ⟨h1, eh1⟩ : ∃ x, x = rI h 1326 (filI (hI h 1326) 0 (gC (zG σ))) := ⟨_, rfl⟩
  have F1 : FrN h h1 := by rw [eh1]; exact FrN.r _
  have S1 := F1.S S
  have D1 : NDM h1 (gC (zG σ)) (mkO rep (fun i => sd (zn σ) (z0 σ) ((za σ).2.2.1 i)) (fun _ => false) 0) := fun k hk => by
    rw [eh1]
    show filI (hI h 1326) 0 (gC (zG σ)) k = 0
    exact if_pos hk
  obtain ⟨h2, D2, F2, K2⟩ := lp_nout0 (d := d) hn Z.2.1.1 Z.2.1.2.1 (C := gC (zG σ)) (by omega) (w := (za σ).2.2.1) hre (fun i hi => ⟨Z.2.1.2.2.2 i hi, zlt0 Z (Z.2.1.2.2.2 i hi)⟩) (za σ).2.2.2 0 h1 (Nat.zero_add _) S1 ((F1.2.2 1 (by decide)).trans e1) ((F1.2.1 1073 (by decide) (by decide)).trans R) ((congrFun (F1.2.1 49 (by decide) (by decide)) 0).trans mA.2.2.2) ((F1.2.1 63 (by decide) (by decide)).trans mA.2.2.1) (fun j hj => (congrFun (F1.2.1 66 (by decide) (by decide)) j).trans (L0 j hj)) D1
  have F12 := F1.tr F2
  have S2 := F2.S S1
  obtain ⟨h3, D3, F3, K3⟩ := lp_nout1 (d := d) hn Z.2.2.1.1 Z.2.2.1.2.1 (C := gC (zG σ)) (by omega) (w := (zb σ).2.2.1) hre (fun i hi => ⟨Z.2.2.1.2.2.2 i hi, zlt1 Z (Z.2.2.1.2.2.2 i hi)⟩) (nd := mkO rep (fun i => sd (zn σ) (z0 σ) ((za σ).2.2.1 i)) (fun _ => false) (za σ).2.2.2) (zb σ).2.2.2 0 h2 (Nat.zero_add _) S2 ((F12.2.2 1 (by decide)).trans e1) ((F12.2.1 1073 (by decide) (by decide)).trans R) ((congrFun (F12.2.1 49 (by decide) (by decide)) 1).trans mB.2.2.2) ((F12.2.1 64 (by decide) (by decide)).trans mB.2.2.1) (fun j hj => (congrFun (F12.2.1 67 (by decide) (by decide)) j).trans (L1 j hj)) D2
  have F13 := F12.tr F3
  have S3 := F3.S S2
  obtain ⟨h4, eh4⟩ : ∃ x, x = sI h3 47 22 0 := ⟨_, rfl⟩
  have F34 : FrN h3 h4 := by rw [eh4]; exact FrN.c _
  have F14 := F13.tr F34
  obtain ⟨h5, N5, F5, K5⟩ := lp_ndn (d := d + 1) wf (by omega) hre (gC (zG σ) - 1 - zn σ) (mkO rep (fun i => sd (zn σ) (z1 σ) ((zb σ).2.2.1 i)) (mkO rep (fun i => sd (zn σ) (z0 σ) ((za σ).2.2.1 i)) (fun _ => false) (za σ).2.2.2) (zb σ).2.2.2, 0) h4 (by omega) (F34.S S3) ((F14.2.2 1 (by decide)).trans e1) (fun k a b => by rw [F14.2.1 68 (by decide) (by decide), F14.2.1 69 (by decide) (by decide)]; exact G.2.2.1 k a b) ((F14.2.1 1073 (by decide) (by decide)).trans R) (by rw [eh4]; exact D3) (by rw [eh4]; rfl)
  refine ⟨h5, ?_, N5, F14.tr F5⟩
  have e11 : hI h3 47 11 = nI (gC (zG σ)) := (F13.2.2 11 (by decide)).trans G.1
  refine Run.of (d := d + 1) (Nat.le_of_ble_eq_true rfl) (fun Q hQ => ?_)
  show Wp (Ex (d + 1)) 153 Q 0 [(0, .ref 47)] [] h 0 0
  have T3 : ∀ ls : List (Nat × Value), ls.lookup 1 = some (.int 1) → ls.lookup 0 = some (.ref 47) → Wp (Ex (d + 1)) 153 Q 76 ls [] h3 0 0 := fun ls l1 l0 => by
    refine r_iinc (y := 2) (q153 (i := 48) rfl) (Nat.le_of_ble_eq_true rfl) l1 (by decide) rfl ?_
    have l0 := lk1 (k := 1) (v := .int 2) l0 (by decide) (Or.inl rfl)
    have l1 := lk0 ls 1 (.int 2)
    generalize lset1 ls 1 (.int 2) = ls at l1 l0 ⊢
    refine r_goto 25 (q153 (i := 49) rfl) (by decide) ?_
    refine r_iload_n (q153 (i := 15) rfl) l1 ?_
    refine r_iconst (v := 2) (q153 (i := 16) rfl) (by decide) ?_
    refine r_icmp 82 (q153 (i := 17) rfl) (by decide) (fun _ => ?_) (fun zz => absurd (show 2 ≤ (2 : Int32) from by decide) zz)
    refine r_aload_n (q153 (i := 50) rfl) l0 ?_
    refine r_iconst (v := 0) (q153 (i := 51) rfl) (by decide) ?_
    refine r_putI (q153 (i := 52) rfl) rfl (by decide) (k_47 S3) rfl rfl ?_
    rw [← eh4]
    refine r_aload_n (q153 (i := 53) rfl) l0 ?_
    refine r_getI (x := nI (gC (zG σ))) (q153 (i := 54) rfl) rfl (by decide) (k_47 (F34.S S3)) (fun _ _ _ => rfl) ((F34.2.2 11 (by decide)).trans e11) ?_
    refine r_iconst (v := 1) (q153 (i := 55) rfl) (by decide) ?_
    refine r_isub (q153 (i := 56) rfl) ?_
    rw [show ((nI (gC (zG σ))) - 1 : Int32) = nI (zn σ + (gC (zG σ) - 1 - zn σ)) from nI_decS _ _ (by omega)]
    refine r_istore_n (ls' := lset1 ls 1 (.int (nI (zn σ + (gC (zG σ) - 1 - zn σ))))) (q153 (i := 57) rfl) (Nat.le_of_ble_eq_true rfl) rfl ?_
    have l0 := lk1 (k := 1) (v := .int (nI (zn σ + (gC (zG σ) - 1 - zn σ)))) l0 (by decide) (Or.inl rfl)
    have l1 := lk0 ls 1 (.int (nI (zn σ + (gC (zG σ) - 1 - zn σ))))
    generalize lset1 ls 1 (.int (nI (zn σ + (gC (zG σ) - 1 - zn σ)))) = ls at l1 l0 ⊢
    exact K5 Q 0 0 hQ ls l1 l0
  have T2 : ∀ ls : List (Nat × Value), ls.lookup 1 = some (.int 0) → ls.lookup 0 = some (.ref 47) → Wp (Ex (d + 1)) 153 Q 76 ls [] h2 0 0 := fun ls l1 l0 => by
    refine r_iinc (y := 1) (q153 (i := 48) rfl) (Nat.le_of_ble_eq_true rfl) l1 (by decide) rfl ?_
    have l0 := lk1 (k := 1) (v := .int 1) l0 (by decide) (Or.inl rfl)
    have l1 := lk0 ls 1 (.int 1)
    generalize lset1 ls 1 (.int 1) = ls at l1 l0 ⊢
    refine r_goto 25 (q153 (i := 49) rfl) (by decide) ?_
    refine r_iload_n (q153 (i := 15) rfl) l1 ?_
    refine r_iconst (v := 2) (q153 (i := 16) rfl) (by decide) ?_
    refine r_icmp 82 (q153 (i := 17) rfl) (by decide) (fun zz => absurd zz (show ¬ (2 ≤ (1 : Int32)) from by decide)) (fun _ => ?_)
    refine r_iconst (v := nI 0) (q153 (i := 18) rfl) (by decide) ?_
    refine r_istore_n (ls' := lset1 ls 2 (.int (nI 0))) (q153 (i := 19) rfl) (Nat.le_of_ble_eq_true rfl) rfl ?_
    have l1 := lk1 (k := 2) (v := .int (nI 0)) l1 (by decide) (Or.inl rfl)
    have l0 := lk1 (k := 2) (v := .int (nI 0)) l0 (by decide) (Or.inr (by decide))
    have l2 := lk0 ls 2 (.int (nI 0))
    generalize lset1 ls 2 (.int (nI 0)) = ls at l2 l1 l0 ⊢
    exact K3 Q 0 0 T3 ls l2 l1 l0
  have T1 : ∀ ls : List (Nat × Value), ls.lookup 0 = some (.ref 47) → Wp (Ex (d + 1)) 153 Q 23 ls [] h1 0 0 := fun ls l0 => by
    refine r_iconst (v := 0) (q153 (i := 13) rfl) (by decide) ?_
    refine r_istore_n (ls' := lset1 ls 1 (.int 0)) (q153 (i := 14) rfl) (Nat.le_of_ble_eq_true rfl) rfl ?_
    have l0 := lk1 (k := 1) (v := .int 0) l0 (by decide) (Or.inl rfl)
    have l1 := lk0 ls 1 (.int 0)
    generalize lset1 ls 1 (.int 0) = ls at l1 l0 ⊢
    refine r_iload_n (q153 (i := 15) rfl) l1 ?_
    refine r_iconst (v := 2) (q153 (i := 16) rfl) (by decide) ?_
    refine r_icmp 82 (q153 (i := 17) rfl) (by decide) (fun zz => absurd zz (show ¬ (2 ≤ (0 : Int32)) from by decide)) (fun _ => ?_)
    refine r_iconst (v := nI 0) (q153 (i := 18) rfl) (by decide) ?_
    refine r_istore_n (ls' := lset1 ls 2 (.int (nI 0))) (q153 (i := 19) rfl) (Nat.le_of_ble_eq_true rfl) rfl ?_
    have l1 := lk1 (k := 2) (v := .int (nI 0)) l1 (by decide) (Or.inl rfl)
    have l0 := lk1 (k := 2) (v := .int (nI 0)) l0 (by decide) (Or.inr (by decide))
    have l2 := lk0 ls 2 (.int (nI 0))
    generalize lset1 ls 2 (.int (nI 0)) = ls at l2 l1 l0 ⊢
    exact K2 Q 0 0 T2 ls l2 l1 l0
  have K1 := lp_ncl (d := d + 1) (Q := Q) (bc := 0) (bs := 0) S G.1 (by omega) (fun ls l0 => by rw [← eh1]; exact T1 ls l0) (gC (zG σ)) 0 (Nat.zero_add _)
  rw [filI_0, rI_self] at K1
  refine r_iconst (v := nI 0) (q153 (i := 0) rfl) (by decide) ?_
  refine r_istore_n (ls' := [(1, .int (nI 0)), (0, .ref 47)]) (q153 (i := 1) rfl) (Nat.le_of_ble_eq_true rfl) rfl ?_
  exact K1 _ rfl rfl
set_option maxHeartbeats 2000000 in
set_option maxRecDepth 10000 in
theorem ms_sweep {h : hp} {σ : st8} (M : MI h σ) (Z : zok σ) : MStep 152 [.ref 47] h (nI (swR σ).2.2) (nSwp σ) := by
  have S := M.1.1
  have hC := zC Z
  have hn := Z.1.2
  have wn := (zwf Z).1
  obtain ⟨h1, Rg, M1, g1, F1⟩ := sp_graph (d := 3) M Z
  have S1 := M1.1.1
  obtain ⟨hs, es⟩ : ∃ x, x = sI (sI (sI h1 47 20 0) 47 21 0) 1073 0 0 := ⟨_, rfl⟩
  have Fs : FrSM h1 hs := by rw [es]; exact ((FrSM.w47 (by decide) _).tr (FrSM.w47 (by decide) _)).tr (FrSM.wr _ _)
  have X1 : XS h1 (zn σ) (gC (zG σ)) (gW (zG σ)) := ⟨S1, M1.1.2, g1.2.1.1, g1.2.1.2.2.2⟩
  obtain ⟨h2, W2, R2, F2, K2⟩ := lp_msw (v := zv σ) (rep := zr σ) hn (C := gC (zG σ)) (T := gW (zG σ)) (by omega) (gC (zG σ) - 1) 0 hs (by omega) (Fs.X (by omega) X1) (by rw [es]; exact ⟨M1.2.2.2.1, rfl, rfl, Z.2.2.2.1⟩) (by
    rw [es]
    show u1 (hI h1 1073) 0 0 = _
    rw [M1.2.2.2.2.2.1]
    exact nIu1 (zr σ) 0 0)
  have F12 := Fs.tr F2
  have S2 : Sh h2 := S1.to F12.1
  obtain ⟨h3, e3⟩ : ∃ x, x = sI h2 47 23 (nI (gC (zG σ)) - nI (swR σ).2.2) := ⟨_, rfl⟩
  have i3 : ∀ k, k ≠ 47 → k ≠ 1072 → k ≠ 1073 → hI h3 k = hI h1 k := fun k a b c => by
    rw [e3]
    show u2 h2.1 47 _ _ k = _
    rw [u2_n a]
    exact F12.2.1 k a b c
  have i47 : ∀ j, j ≠ 17 → j ≠ 20 → j ≠ 21 → j ≠ 23 → hI h3 47 j = hI h1 47 j := fun j a b c e => by
    rw [e3]
    show u1 (h2.1 47) 23 _ j = _
    rw [u1_n e]
    exact F12.2.2.1 j a b c
  have j3 : ∀ k, k ≠ 1071 → hJ h3 k = hJ h1 k := fun k a => by rw [e3]; exact F12.2.2.2 k a
  have s3 : h3.2.2 = h1.2.2 := by rw [e3]; exact F12.1
  have S3 : Sh h3 := S1.to s3
  have g3 : MGr h3 σ := g1.to Z (fun k a b => i3 k (by omega) (by omega) (by omega)) (i47 10 (by decide) (by decide) (by decide) (by decide)) (i47 11 (by decide) (by decide) (by decide) (by decide)) (fun k a b => j3 k (by omega)) rfl rfl rfl
  have A3 : MA h3 (za σ) := by
    have := M1.2.1
    unfold MA cirA at this ⊢
    rw [i3 51 (by decide) (by decide) (by decide), i3 54 (by decide) (by decide) (by decide), i3 57 (by decide) (by decide) (by decide), i3 60 (by decide) (by decide) (by decide), i3 48 (by decide) (by decide) (by decide), i3 63 (by decide) (by decide) (by decide), i3 49 (by decide) (by decide) (by decide)]
    exact this
  have B3 : MB h3 (zb σ) := by
    have := M1.2.2.1
    unfold MB cirB at this ⊢
    rw [i3 52 (by decide) (by decide) (by decide), i3 55 (by decide) (by decide) (by decide), i3 58 (by decide) (by decide) (by decide), i3 61 (by decide) (by decide) (by decide), i3 48 (by decide) (by decide) (by decide), i3 64 (by decide) (by decide) (by decide), i3 49 (by decide) (by decide) (by decide)]
    exact this
  obtain ⟨h4, Rn, N4, F4⟩ := sp_need (d := 5) Z (rep := (swR σ).2.1) (fun x hx => swT_le _ _ _ _ _ _ (by omega)) S3 ((i47 1 (by decide) (by decide) (by decide) (by decide)).trans M1.1.2) g3.2.1 g3.2.2.1 g3.2.2.2 (by rw [e3]; exact R2) A3 B3
  have S4 := F4.S S3
  have g4 : MGr (sI h4 47 18 1) (nSwp σ) := g3.to Z (fun k a b => by show u2 h4.1 47 _ _ k = _; rw [u2_n (by omega)]; exact F4.2.1 k (by omega) (by omega)) (F4.2.2 10 (by decide)) (F4.2.2 11 (by decide)) (fun k a b => by show h4.2.1 k = _; rw [F4.1]) rfl rfl rfl
  have k4 : ∀ k, k ≠ 47 → k ≠ 1326 → hI (sI h4 47 18 1) k = hI h3 k := fun k a b => by
    show u2 h4.1 47 _ _ k = _
    rw [u2_n a]
    exact F4.2.1 k a b
  have k47 : ∀ j, j ≠ 18 → j ≠ 22 → hI (sI h4 47 18 1) 47 j = hI h3 47 j := fun j a b => by
    show u1 (h4.1 47) 18 _ j = _
    rw [u1_n a]
    exact F4.2.2 j b
  refine ⟨sI h4 47 18 1, ?_, ⟨⟨S4.to rfl, ?_⟩, ?_, ?_, ⟨?_, ?_, ?_⟩, ⟨?_, ?_, ?_⟩, ?_, Or.inr g4, ⟨rfl, g4, ?_, ?_, N4, ?_⟩⟩, ?_⟩
  · refine Run.of (d := 7) (Nat.le_of_ble_eq_true rfl) (fun Q hQ => ?_)
    show Wp (Ex 7) 152 Q 0 [(0, .ref 47)] [] h 0 0
    have T2 : ∀ ls : List (Nat × Value), ls.lookup 1 = some (.int (nI (swR σ).2.2)) → ls.lookup 0 = some (.ref 47) → Wp (Ex 7) 152 Q 162 ls [] h2 0 0 := fun ls l1 l0 => by
      refine r_aload_n (q152 (i := 98) rfl) l0 ?_
      refine r_aload_n (q152 (i := 99) rfl) l0 ?_
      refine r_getI (x := nI (gC (zG σ))) (q152 (i := 100) rfl) rfl (by decide) (k_47 S2) (fun _ _ _ => rfl) ((F12.2.2.1 11 (by decide) (by decide) (by decide)).trans g1.2.1.1) ?_
      refine r_iload_n (q152 (i := 101) rfl) l1 ?_
      refine r_isub (q152 (i := 102) rfl) ?_
      refine r_putI (q152 (i := 103) rfl) rfl (by decide) (k_47 S2) rfl rfl ?_
      rw [← e3]
      refine r_aload_n (q152 (i := 104) rfl) l0 ?_
      refine r_cV (d := _) (q152 (i := 105) rfl) rfl rfl rfl (k_47 S3) (Nat.le_of_ble_eq_true rfl) (Nat.zero_le _) (Nat.zero_le _) Rn ?_
      show Wp _ _ _ 176 ls [] h4 _ _
      refine r_aload_n (q152 (i := 106) rfl) l0 ?_
      refine r_iconst (v := 1) (q152 (i := 107) rfl) (by decide) ?_
      refine r_putZ (q152 (i := 108) rfl) rfl (by decide) (k_47 S4) rfl rfl (by decide) ?_
      refine r_iload_n (q152 (i := 109) rfl) l1 ?_
      exact r_iret (q152 (i := 110) rfl) rfl hQ
    refine r_aload_n (q152 (i := 0) rfl) rfl ?_
    refine r_cV (d := _) (q152 (i := 1) rfl) rfl rfl rfl (k_47 S) (Nat.le_of_ble_eq_true rfl) (Nat.zero_le _) (Nat.zero_le _) Rg ?_
    show Wp _ _ _ 4 [(0, .ref 47)] [] h1 _ _
    refine r_aload_n (q152 (i := 2) rfl) rfl ?_
    refine r_iconst (v := 0) (q152 (i := 3) rfl) (by decide) ?_
    refine r_putI (q152 (i := 4) rfl) rfl (by decide) (k_47 S1) rfl rfl ?_
    refine r_aload_n (q152 (i := 5) rfl) rfl ?_
    refine r_iconst (v := 0) (q152 (i := 6) rfl) (by decide) ?_
    refine r_putI (q152 (i := 7) rfl) rfl (by decide) (k_47 S1) rfl rfl ?_
    refine r_aload_n (q152 (i := 8) rfl) rfl ?_
    refine r_getR (b := 1073) (q152 (i := 9) rfl) rfl (by decide) (k_47 S1) (fun _ _ _ => rfl) (r_47_19 S1) ?_
    refine r_iconst (v := 0) (q152 (i := 10) rfl) (by decide) ?_
    refine r_iconst (v := 0) (q152 (i := 11) rfl) (by decide) ?_
    refine r_iastore (q152 (i := 12) rfl) (k_1073 S1) (vp_in_nI (n := 0) (by decide) (by decide)) ?_
    show Wp _ _ _ _ _ _ (sI (sI (sI h1 47 20 0) 47 21 0) 1073 0 0) _ _
    rw [← es]
    refine r_iconst (v := nI 0) (q152 (i := 13) rfl) (by decide) ?_
    refine r_istore_n (ls' := [(1, .int (nI 0)), (0, .ref 47)]) (q152 (i := 14) rfl) (Nat.le_of_ble_eq_true rfl) rfl ?_
    refine r_iconst (v := nI (0 + 1)) (q152 (i := 15) rfl) (by decide) ?_
    refine r_istore_n (ls' := [(2, .int (nI (0 + 1))), (1, .int (nI 0)), (0, .ref 47)]) (q152 (i := 16) rfl) (Nat.le_of_ble_eq_true rfl) rfl ?_
    exact K2 Q 0 0 T2 _ rfl rfl rfl
  · rw [k47 1 (by decide) (by decide), i47 1 (by decide) (by decide) (by decide) (by decide)]; exact M1.1.2
  · have := A3
    unfold MA cirA at this ⊢
    rw [k4 51 (by decide) (by decide), k4 54 (by decide) (by decide), k4 57 (by decide) (by decide), k4 60 (by decide) (by decide), k4 48 (by decide) (by decide), k4 63 (by decide) (by decide), k4 49 (by decide) (by decide)]
    exact this
  · have := B3
    unfold MB cirB at this ⊢
    rw [k4 52 (by decide) (by decide), k4 55 (by decide) (by decide), k4 58 (by decide) (by decide), k4 61 (by decide) (by decide), k4 48 (by decide) (by decide), k4 64 (by decide) (by decide), k4 49 (by decide) (by decide)]
    exact this
  · show h4.2.1 1071 = _
    rw [F4.1, e3]; exact W2.1.1
  · rw [k4 1072 (by decide) (by decide), e3]; exact W2.1.2.1
  · rw [k47 17 (by decide) (by decide), e3]; exact W2.1.2.2
  · rw [k4 1074 (by decide) (by decide), i3 1074 (by decide) (by decide) (by decide)]; exact M1.2.2.2.2.1.1
  · rw [k47 25 (by decide) (by decide), i47 25 (by decide) (by decide) (by decide) (by decide)]; exact M1.2.2.2.2.1.2.1
  · rw [k47 26 (by decide) (by decide), i47 26 (by decide) (by decide) (by decide) (by decide)]; exact M1.2.2.2.2.1.2.2
  · rw [k4 1073 (by decide) (by decide), e3]; exact R2
  · rw [k47 20 (by decide) (by decide), e3]; exact W2.2.1
  · rw [k47 21 (by decide) (by decide), e3]; exact W2.2.2.1
  · rw [k47 23 (by decide) (by decide), e3]; rfl
  · refine F1.tr ⟨by show h4.2.2 = _; rw [F4.1]; exact s3, fun k hk => ⟨by rw [k4 k (by omega) (by omega)]; exact i3 k (by omega) (by omega) (by omega), by show h4.2.1 k = _; rw [F4.1]; exact j3 k (by omega)⟩⟩
