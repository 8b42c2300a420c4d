/-! ===== what is needed ===== -/
def mkN (rep : Nat → Nat) (nd : Nat → Bool) (p : Nat) : Nat → Bool := u1 nd (rep (p / 2) / 2) true
def mkO (rep : Nat → Nat) (f : Nat → Nat) (nd : Nat → Bool) : Nat → (Nat → Bool)
  | 0 => nd
  | k + 1 => mkN rep (mkO rep f nd k) (f k)
def ndL (γ : gs) (rep : Nat → Nat) (n : Nat) : Nat → (Nat → Bool) × Nat → (Nat → Bool) × Nat
  | 0, s => s
  | m + 1, s => ndL γ rep n m (if s.1 (n + 1 + m) then (mkN rep (mkN rep s.1 (gL γ (n + 1 + m))) (gR γ (n + 1 + m)), s.2 + 1) else s)
def bI (b : Bool) : Int32 := if b then 1 else 0
def ND (h : hp) (C : Nat) (nd : Nat → Bool) : Prop := ∀ k, k < C → hI h 32 k = bI (nd k)
theorem ND_mk {h : hp} {C : Nat} {nd : Nat → Bool} (D : ND h C nd) (rep : Nat → Nat) (p : Nat) : ND (sI h 32 (rep (p / 2) / 2) 1) C (mkN rep nd p) := fun k hk => by
  show u1 (hI h 32) (rep (p / 2) / 2) 1 k = bI (u1 nd (rep (p / 2) / 2) true k)
  by_cases q : k = rep (p / 2) / 2
  · rw [q, u1_s, u1_s]; rfl
  · rw [u1_n q, u1_n q]; exact D k hk
/-- only needed marks changed -/
def FrM (h h' : hp) : Prop := h'.2 = h.2 ∧ (∀ k, k ≠ 32 → k ≠ 30 → hI h' k = hI h k) ∧ ∀ k, k ≠ 5 → hI h' 30 k = hI h 30 k
theorem FrM.rf (h : hp) : FrM h h := ⟨rfl, fun _ _ _ => rfl, fun _ _ => rfl⟩
theorem FrM.tr {h h' h'' : hp} (a : FrM h h') (b : FrM h' h'') : FrM h h'' := ⟨b.1.trans a.1, fun k x y => (b.2.1 k x y).trans (a.2.1 k x y), fun k x => (b.2.2 k x).trans (a.2.2 k x)⟩
theorem FrM.S {h h' : hp} (F : FrM h h') (S : Sh h) : Sh h' := S.to (by rw [F.1])
theorem FrM.w32 {h : hp} (i : Nat) (v : Int32) : FrM h (sI h 32 i v) := ⟨rfl, fun k x _ => by
  show u2 h.1 32 _ _ k = _
  rw [u2_n x], fun k _ => rfl⟩
theorem FrM.w30 {h : hp} (v : Int32) : FrM h (sI h 30 5 v) := ⟨rfl, fun k _ x => by
  show u2 h.1 30 _ _ k = _
  rw [u2_n x], fun k x => by
  show u2 h.1 30 5 _ 30 k = _
  rw [u2_s, u1_n x]⟩
theorem FrM.G {h h' : hp} (F : FrM h h') {ρ n rw : Nat} {γ : gs} (G : GC h ρ n rw γ) : GC h' ρ n rw γ := by
  obtain ⟨h2, hi, _⟩ := F
  unfold GC Rw hR hK hJ at *
  rw [h2, hi 21 (by decide) (by decide), hi 22 (by decide) (by decide), hi 23 (by decide) (by decide), hi 24 (by decide) (by decide), hi 25 (by decide) (by decide)]
  exact G
set_option maxHeartbeats 2000000 in
set_option maxRecDepth 10000 in
theorem sp_mark {d : Nat} {h : hp} (S : Sh h) {rep : Nat → Nat} (H : hI h 31 = fun k => nI (rep k)) {p : Nat} (hp1 : p / 2 < 973) (hp2 : rep (p / 2) / 2 < 973) (hp3 : rep (p / 2) < 2 ^ 31) : Run (d + 1) 65 [.ref 30, .int (nI p)] h 0 0 none (sI h 32 (rep (p / 2) / 2) 1) := by
  refine Run.of (Nat.le_of_ble_eq_true rfl) (fun Q hQ => ?_)
  show Wp (Ex (d)) 65 Q 0 [(0, .ref 30), (1, .int (nI p))] [] h 0 0
  refine r_aload_n (q65 (i := 0) rfl) rfl ?_
  refine r_getR (b := 32) (q65 (i := 1) rfl) rfl (by decide) (k_30 S) (fun _ _ _ => rfl) (r_30_1 S) ?_
  refine r_aload_n (q65 (i := 2) rfl) rfl ?_
  refine r_getR (b := 31) (q65 (i := 3) rfl) rfl (by decide) (k_30 S) (fun _ _ _ => rfl) (r_30_0 S) ?_
  refine r_iload_n (q65 (i := 4) rfl) rfl ?_
  refine r_iconst (v := 1) (q65 (i := 5) rfl) (by decide) ?_
  refine r_ishr (q65 (i := 6) rfl) ?_
  rw [show ((nI p) >>> (1 &&& 31) : Int32) = nI (p / 2) from shr1 (by omega)]
  refine r_iaN (x := nI (rep (p / 2))) (q65 (i := 7) rfl) (k_31 S) (by omega) (by decide) (congrFun H _) ?_
  refine r_iconst (v := 1) (q65 (i := 8) rfl) (by decide) ?_
  refine r_ishr (q65 (i := 9) rfl) ?_
  rw [show ((nI (rep (p / 2))) >>> (1 &&& 31) : Int32) = nI (rep (p / 2) / 2) from shr1 (by omega)]
  refine r_iconst (v := 1) (q65 (i := 10) rfl) (by decide) ?_
  refine r_zasN (y := 1) (q65 (i := 11) rfl) (k_32 S) (by omega) (by decide) (by decide) ?_
  exact r_vret (q65 (i := 12) rfl) rfl hQ
set_option maxHeartbeats 2000000 in
set_option maxRecDepth 10000 in
theorem lp_markOuts_3 {d n g k C : Nat} {rep lit : Nat → Nat} {f : Nat → Nat} (hn : n + g ≤ 132) (hC : C ≤ 973) (hk : k ≤ 10) (hre : ∀ x, x < C → rep x ≤ 2 * x) {nd : Nat → Bool} : ∀ (m i : Nat) (h : hp), i + m = k → Sh h → (hI h 31 = fun k => nI (rep k)) → hI h 3 6 = nI n → hI h 3 7 = nI g → hI h 3 8 = nI k → (∀ v, v < n + g → hI h 9 v = nI (sl n lit v)) → (∀ j, j < k → pl (hI h 8 j) < nI (n + g) ∧ sd n lit (hI h 8 j) = f j ∧ f j < 2 * C) → ND h C (mkO rep f nd i) → ∃ h', ND h' C (mkO rep f nd k) ∧ FrM h h' ∧ ∀ (Q : resP), Q none h' → ∀ (bc bs : Nat) (ls : List (Nat × Value)), ls.lookup 2 = some (.int (nI i)) → ls.lookup 0 = some (.ref 30) → ls.lookup 1 = some (.ref 3) → Wp (Ex (d + 3)) 64 Q 2 ls [] h bc bs := by
  intro m
  induction m with
  | zero =>
    intro i h hm S H c6 c7 c8 hl ho D
    have e : i = k := by omega
    subst e
    refine ⟨h, D, FrM.rf h, ?_⟩
    intro Q hQ bc bs ls l2 l0 l1
    refine r_iload_n (q64 (i := 2) rfl) l2 ?_
    refine r_aload_n (q64 (i := 3) rfl) l1 ?_
    refine r_getI (x := nI i) (q64 (i := 4) rfl) rfl (by decide) (k_3 S) (fun _ _ _ => rfl) c8 ?_
    refine r_icmp 30 (q64 (i := 5) rfl) (by decide) (fun _ => ?_) (fun zz => absurd (show nI i ≤ nI i from Int32.le_refl _) zz)
    exact r_vret (q64 (i := 16) rfl) rfl hQ
  | succ m ih =>
    intro i h hm S H c6 c7 c8 hl ho D
    obtain ⟨o1, o2, o3⟩ := ho i (by omega)
    have hfr := hre (f i / 2) (by omega)
    have R1 := sp_literalOf_3 (d := d) S (m := n + g) (by rw [c6, c7]; exact nI_add n g) hn (hI h 8 i)
    rw [litS_sd hl (Nat.le_refl _) (by omega) o1, o2] at R1
    have R2 := sp_mark (d := d + 2) S H (p := f i) (by omega) (by omega) (by omega)
    have F1 := FrM.w32 (h := h) (rep (f i / 2) / 2) 1
    obtain ⟨h', D', F', hkk⟩ := ih (i + 1) (sI h 32 (rep (f i / 2) / 2) 1) (by omega) (F1.S S) H c6 c7 c8 hl ho (ND_mk D rep (f i))
    refine ⟨h', D', F1.tr F', ?_⟩
    intro Q hQ bc bs ls l2 l0 l1
    refine r_iload_n (q64 (i := 2) rfl) l2 ?_
    refine r_aload_n (q64 (i := 3) rfl) l1 ?_
    refine r_getI (x := nI k) (q64 (i := 4) rfl) rfl (by decide) (k_3 S) (fun _ _ _ => rfl) c8 ?_
    refine r_icmp 30 (q64 (i := 5) rfl) (by decide) (fun zz => absurd zz (show ¬ (nI k ≤ nI i) from nI_ge (by omega) (by omega))) (fun _ => ?_)
    refine r_aload_n (q64 (i := 6) rfl) l0 ?_
    refine r_aload_n (q64 (i := 7) rfl) l1 ?_
    refine r_aload_n (q64 (i := 8) rfl) l1 ?_
    refine r_getR (b := 8) (q64 (i := 9) rfl) rfl (by decide) (k_3 S) (fun _ _ _ => rfl) (r_3_4 S) ?_
    refine r_iload_n (q64 (i := 10) rfl) l2 ?_
    refine r_iaN (x := hI h 8 i) (q64 (i := 11) rfl) (k_8 S) (by omega) (by decide) rfl ?_
    refine r_cV (d := _) (q64 (i := 12) rfl) rfl rfl rfl (k_3 S) (Nat.le_of_ble_eq_true rfl) (Nat.zero_le _) (Nat.zero_le _) R1 ?_
    show Wp _ _ _ 21 ls [.int (nI (f i)), .ref 30] h _ _
    refine r_cV (d := _) (q64 (i := 13) rfl) rfl rfl rfl (k_30 S) (Nat.le_of_ble_eq_true rfl) (Nat.zero_le _) (Nat.zero_le _) R2 ?_
    show Wp _ _ _ 24 ls [] (sI h 32 (rep (f i / 2) / 2) 1) _ _
    refine r_iinc (y := nI (i + 1)) (q64 (i := 14) rfl) (Nat.le_of_ble_eq_true rfl) l2 (nI_1 i) rfl ?_
    have l0 := lk1 (k := 2) (v := .int (nI (i + 1))) l0 (by decide) (Or.inr (by decide))
    have l1 := lk1 (k := 2) (v := .int (nI (i + 1))) l1 (by decide) (Or.inl rfl)
    have l2 := lk0 ls 2 (.int (nI (i + 1)))
    generalize lset1 ls 2 (.int (nI (i + 1))) = ls at l2 l0 l1 ⊢
    refine r_goto 2 (q64 (i := 15) rfl) (by decide) ?_
    exact hkk Q hQ bc bs ls l2 l0 l1
set_option maxHeartbeats 2000000 in
set_option maxRecDepth 10000 in
theorem sp_markOuts_3 {d n g k C : Nat} {rep lit : Nat → Nat} {f : Nat → Nat} (hn : n + g ≤ 132) (hC : C ≤ 973) (hk : k ≤ 10) (hre : ∀ x, x < C → rep x ≤ 2 * x) {nd : Nat → Bool} {h : hp} (S : Sh h) (H : hI h 31 = fun k => nI (rep k)) (c6 : hI h 3 6 = nI n) (c7 : hI h 3 7 = nI g) (c8 : hI h 3 8 = nI k) (hl : ∀ v, v < n + g → hI h 9 v = nI (sl n lit v)) (ho : ∀ j, j < k → pl (hI h 8 j) < nI (n + g) ∧ sd n lit (hI h 8 j) = f j ∧ f j < 2 * C) (D : ND h C nd) : ∃ h', Run (d + 3 + 1) 64 [.ref 30, .ref 3] h 0 0 none h' ∧ ND h' C (mkO rep f nd k) ∧ FrM h h' := by
  obtain ⟨h', D', F', hkk⟩ := lp_markOuts_3 (d := d) hn hC hk hre (nd := nd) k 0 h (Nat.zero_add k) S H c6 c7 c8 hl ho D
  refine ⟨h', ?_, D', F'⟩
  refine Run.of (Nat.le_of_ble_eq_true rfl) (fun Q hQ => ?_)
  show Wp (Ex (d + 3)) 64 Q 0 [(0, .ref 30), (1, .ref 3)] [] h 0 0
  refine r_iconst (v := 0) (q64 (i := 0) rfl) (by decide) ?_
  refine r_istore_n (ls' := [(2, .int 0), (0, .ref 30), (1, .ref 3)]) (q64 (i := 1) rfl) (Nat.le_of_ble_eq_true rfl) rfl ?_
  exact hkk Q hQ _ _ _ rfl rfl rfl
set_option maxHeartbeats 2000000 in
set_option maxRecDepth 10000 in
theorem lp_markOuts_10 {d n g k C : Nat} {rep lit : Nat → Nat} {f : Nat → Nat} (hn : n + g ≤ 132) (hC : C ≤ 973) (hk : k ≤ 10) (hre : ∀ x, x < C → rep x ≤ 2 * x) {nd : Nat → Bool} : ∀ (m i : Nat) (h : hp), i + m = k → Sh h → (hI h 31 = fun k => nI (rep k)) → hI h 10 6 = nI n → hI h 10 7 = nI g → hI h 10 8 = nI k → (∀ v, v < n + g → hI h 16 v = nI (sl n lit v)) → (∀ j, j < k → pl (hI h 15 j) < nI (n + g) ∧ sd n lit (hI h 15 j) = f j ∧ f j < 2 * C) → ND h C (mkO rep f nd i) → ∃ h', ND h' C (mkO rep f nd k) ∧ FrM h h' ∧ ∀ (Q : resP), Q none h' → ∀ (bc bs : Nat) (ls : List (Nat × Value)), ls.lookup 2 = some (.int (nI i)) → ls.lookup 0 = some (.ref 30) → ls.lookup 1 = some (.ref 10) → Wp (Ex (d + 3)) 64 Q 2 ls [] h bc bs := by
  intro m
  induction m with
  | zero =>
    intro i h hm S H c6 c7 c8 hl ho D
    have e : i = k := by omega
    subst e
    refine ⟨h, D, FrM.rf h, ?_⟩
    intro Q hQ bc bs ls l2 l0 l1
    refine r_iload_n (q64 (i := 2) rfl) l2 ?_
    refine r_aload_n (q64 (i := 3) rfl) l1 ?_
    refine r_getI (x := nI i) (q64 (i := 4) rfl) rfl (by decide) (k_10 S) (fun _ _ _ => rfl) c8 ?_
    refine r_icmp 30 (q64 (i := 5) rfl) (by decide) (fun _ => ?_) (fun zz => absurd (show nI i ≤ nI i from Int32.le_refl _) zz)
    exact r_vret (q64 (i := 16) rfl) rfl hQ
  | succ m ih =>
    intro i h hm S H c6 c7 c8 hl ho D
    obtain ⟨o1, o2, o3⟩ := ho i (by omega)
    have hfr := hre (f i / 2) (by omega)
    have R1 := sp_literalOf_10 (d := d) S (m := n + g) (by rw [c6, c7]; exact nI_add n g) hn (hI h 15 i)
    rw [litS_sd hl (Nat.le_refl _) (by omega) o1, o2] at R1
    have R2 := sp_mark (d := d + 2) S H (p := f i) (by omega) (by omega) (by omega)
    have F1 := FrM.w32 (h := h) (rep (f i / 2) / 2) 1
    obtain ⟨h', D', F', hkk⟩ := ih (i + 1) (sI h 32 (rep (f i / 2) / 2) 1) (by omega) (F1.S S) H c6 c7 c8 hl ho (ND_mk D rep (f i))
    refine ⟨h', D', F1.tr F', ?_⟩
    intro Q hQ bc bs ls l2 l0 l1
    refine r_iload_n (q64 (i := 2) rfl) l2 ?_
    refine r_aload_n (q64 (i := 3) rfl) l1 ?_
    refine r_getI (x := nI k) (q64 (i := 4) rfl) rfl (by decide) (k_10 S) (fun _ _ _ => rfl) c8 ?_
    refine r_icmp 30 (q64 (i := 5) rfl) (by decide) (fun zz => absurd zz (show ¬ (nI k ≤ nI i) from nI_ge (by omega) (by omega))) (fun _ => ?_)
    refine r_aload_n (q64 (i := 6) rfl) l0 ?_
    refine r_aload_n (q64 (i := 7) rfl) l1 ?_
    refine r_aload_n (q64 (i := 8) rfl) l1 ?_
    refine r_getR (b := 15) (q64 (i := 9) rfl) rfl (by decide) (k_10 S) (fun _ _ _ => rfl) (r_10_4 S) ?_
    refine r_iload_n (q64 (i := 10) rfl) l2 ?_
    refine r_iaN (x := hI h 15 i) (q64 (i := 11) rfl) (k_15 S) (by omega) (by decide) rfl ?_
    refine r_cV (d := _) (q64 (i := 12) rfl) rfl rfl rfl (k_10 S) (Nat.le_of_ble_eq_true rfl) (Nat.zero_le _) (Nat.zero_le _) R1 ?_
    show Wp _ _ _ 21 ls [.int (nI (f i)), .ref 30] h _ _
    refine r_cV (d := _) (q64 (i := 13) rfl) rfl rfl rfl (k_30 S) (Nat.le_of_ble_eq_true rfl) (Nat.zero_le _) (Nat.zero_le _) R2 ?_
    show Wp _ _ _ 24 ls [] (sI h 32 (rep (f i / 2) / 2) 1) _ _
    refine r_iinc (y := nI (i + 1)) (q64 (i := 14) rfl) (Nat.le_of_ble_eq_true rfl) l2 (nI_1 i) rfl ?_
    have l0 := lk1 (k := 2) (v := .int (nI (i + 1))) l0 (by decide) (Or.inr (by decide))
    have l1 := lk1 (k := 2) (v := .int (nI (i + 1))) l1 (by decide) (Or.inl rfl)
    have l2 := lk0 ls 2 (.int (nI (i + 1)))
    generalize lset1 ls 2 (.int (nI (i + 1))) = ls at l2 l0 l1 ⊢
    refine r_goto 2 (q64 (i := 15) rfl) (by decide) ?_
    exact hkk Q hQ bc bs ls l2 l0 l1
set_option maxHeartbeats 2000000 in
set_option maxRecDepth 10000 in
theorem sp_markOuts_10 {d n g k C : Nat} {rep lit : Nat → Nat} {f : Nat → Nat} (hn : n + g ≤ 132) (hC : C ≤ 973) (hk : k ≤ 10) (hre : ∀ x, x < C → rep x ≤ 2 * x) {nd : Nat → Bool} {h : hp} (S : Sh h) (H : hI h 31 = fun k => nI (rep k)) (c6 : hI h 10 6 = nI n) (c7 : hI h 10 7 = nI g) (c8 : hI h 10 8 = nI k) (hl : ∀ v, v < n + g → hI h 16 v = nI (sl n lit v)) (ho : ∀ j, j < k → pl (hI h 15 j) < nI (n + g) ∧ sd n lit (hI h 15 j) = f j ∧ f j < 2 * C) (D : ND h C nd) : ∃ h', Run (d + 3 + 1) 64 [.ref 30, .ref 10] h 0 0 none h' ∧ ND h' C (mkO rep f nd k) ∧ FrM h h' := by
  obtain ⟨h', D', F', hkk⟩ := lp_markOuts_10 (d := d) hn hC hk hre (nd := nd) k 0 h (Nat.zero_add k) S H c6 c7 c8 hl ho D
  refine ⟨h', ?_, D', F'⟩
  refine Run.of (Nat.le_of_ble_eq_true rfl) (fun Q hQ => ?_)
  show Wp (Ex (d + 3)) 64 Q 0 [(0, .ref 30), (1, .ref 10)] [] h 0 0
  refine r_iconst (v := 0) (q64 (i := 0) rfl) (by decide) ?_
  refine r_istore_n (ls' := [(2, .int 0), (0, .ref 30), (1, .ref 10)]) (q64 (i := 1) rfl) (Nat.le_of_ble_eq_true rfl) rfl ?_
  exact hkk Q hQ _ _ _ rfl rfl rfl
set_option maxHeartbeats 2000000 in
set_option maxRecDepth 10000 in
theorem lp_ndClear {d : Nat} {h : hp} (S : Sh h) {C : Nat} (e9 : hI h 21 9 = nI C) (hC : C ≤ 973) {Q : resP} {bc bs : Nat} (hk : ∀ ls : List (Nat × Value), ls.lookup 0 = some (.ref 30) → ls.lookup 1 = some (.ref 21) → ls.lookup 2 = some (.ref 3) → ls.lookup 3 = some (.ref 10) → Wp (Ex d) 63 Q 26 ls [] (rI h 32 (filI (hI h 32) 0 C)) bc bs) : ∀ (m i : Nat), i + m = C → ∀ ls : List (Nat × Value), ls.lookup 4 = some (.int (nI i)) → ls.lookup 0 = some (.ref 30) → ls.lookup 1 = some (.ref 21) → ls.lookup 2 = some (.ref 3) → ls.lookup 3 = some (.ref 10) → Wp (Ex d) 63 Q 3 ls [] (rI h 32 (filI (hI h 32) 0 i)) bc bs := by
  intro m
  induction m with
  | zero =>
    intro i hm ls l4 l0 l1 l2 l3
    have e : i = C := by omega
    subst e
    refine r_iload (q63 (i := 2) rfl) l4 ?_
    refine r_aload_n (q63 (i := 3) rfl) l1 ?_
    refine r_getI (x := nI i) (q63 (i := 4) rfl) rfl (by decide) (k_21 S) (fun _ _ _ => rfl) e9 ?_
    refine r_icmp 26 (q63 (i := 5) rfl) (by decide) (fun _ => ?_) (fun zz => absurd (show nI i ≤ nI i from Int32.le_refl _) zz)
    exact hk ls l0 l1 l2 l3
  | succ m ih =>
    intro i hm ls l4 l0 l1 l2 l3
    refine r_iload (q63 (i := 2) rfl) l4 ?_
    refine r_aload_n (q63 (i := 3) rfl) l1 ?_
    refine r_getI (x := nI C) (q63 (i := 4) rfl) rfl (by decide) (k_21 S) (fun _ _ _ => rfl) e9 ?_
    refine r_icmp 26 (q63 (i := 5) rfl) (by decide) (fun zz => absurd zz (show ¬ (nI C ≤ nI i) from nI_ge (by omega) (by omega))) (fun _ => ?_)
    refine r_aload_n (q63 (i := 6) rfl) l0 ?_
    refine r_getR (b := 32) (q63 (i := 7) rfl) rfl (by decide) (k_30 S) (fun _ _ _ => rfl) (r_30_1 S) ?_
    refine r_iload (q63 (i := 8) rfl) l4 ?_
    refine r_iconst (v := 0) (q63 (i := 9) rfl) (by decide) ?_
    refine r_zasN (y := 0) (q63 (i := 10) rfl) (k_32 S) (by omega) (by decide) (by decide) ?_
    refine r_iinc (y := nI (i + 1)) (q63 (i := 11) rfl) (Nat.le_of_ble_eq_true rfl) l4 (nI_1 i) rfl ?_
    have l0 := lk1 (k := 4) (v := .int (nI (i + 1))) l0 (by decide) (Or.inr (by decide))
    have l1 := lk1 (k := 4) (v := .int (nI (i + 1))) l1 (by decide) (Or.inr (by decide))
    have l2 := lk1 (k := 4) (v := .int (nI (i + 1))) l2 (by decide) (Or.inr (by decide))
    have l3 := lk1 (k := 4) (v := .int (nI (i + 1))) l3 (by decide) (Or.inl rfl)
    have l4 := lk0 ls 4 (.int (nI (i + 1)))
    generalize lset1 ls 4 (.int (nI (i + 1))) = ls at l4 l0 l1 l2 l3 ⊢
    refine r_goto 3 (q63 (i := 12) rfl) (by decide) ?_
    rw [sI_rI, filI_s]
    exact ih (i + 1) (by omega) ls l4 l0 l1 l2 l3
theorem nI_dec (a b : Nat) (h : a = b + 1) : nI a + (-1) = nI b := by
  subst h
  rw [← nI_1 b, Int32.add_assoc]
  show nI b + 0 = nI b
  exact Int32.add_zero _
theorem nI_decS (a b : Nat) (h : a = b + 1) : nI a - 1 = nI b := by
  rw [Int32.sub_eq_add_neg]
  exact nI_dec a b h
set_option maxHeartbeats 2000000 in
set_option maxRecDepth 10000 in
theorem lp_ndDown {d : Nat} {ρ n rw : Nat} {γ : gs} (W : gwf n γ) {rep : Nat → Nat} (hre : ∀ x, x < gC γ → rep x ≤ 2 * x) : ∀ (m : Nat) (s : (Nat → Bool) × Nat) (h : hp), n + m < gC γ → Sh h → GC h ρ n rw γ → (hI h 31 = fun k => nI (rep k)) → ND h (gC γ) s.1 → hI h 30 5 = nI s.2 → ∃ h', hI h' 30 5 = nI (ndL γ rep n m s).2 ∧ FrM h h' ∧ ∀ (Q : resP), Q none h' → ∀ (bc bs : Nat) (ls : List (Nat × Value)), ls.lookup 4 = some (.int (nI (n + m))) → ls.lookup 0 = some (.ref 30) → ls.lookup 1 = some (.ref 21) → ls.lookup 2 = some (.ref 3) → ls.lookup 3 = some (.ref 10) → Wp (Ex (d + 1)) 63 Q 49 ls [] h bc bs := by
  intro m
  induction m with
  | zero =>
    intro s h hm S G H D N
    refine ⟨h, N, FrM.rf h, ?_⟩
    intro Q hQ bc bs ls l4 l0 l1 l2 l3
    have e8 := G.2.1.2.1
    refine r_iload (q63 (i := 27) rfl) l4 ?_
    refine r_aload_n (q63 (i := 28) rfl) l1 ?_
    refine r_getI (x := nI n) (q63 (i := 29) rfl) rfl (by decide) (k_21 S) (fun _ _ _ => rfl) e8 ?_
    refine r_icmp 106 (q63 (i := 30) rfl) (by decide) (fun _ => ?_) (fun zz => absurd (show nI (n + 0) ≤ nI n from Int32.le_refl _) zz)
    exact r_vret (q63 (i := 56) rfl) rfl hQ
  | succ m ih =>
    intro s h hm S G H D N
    have e8 := G.2.1.2.1
    have hc9 := G.2.1.2.2.2
    have hn12 := G.1.2.2.2
    obtain ⟨g1, g2⟩ := G.2.2.1 (n + 1 + m) (by omega)
    obtain ⟨x1, x2⟩ := W.2.1 (n + 1 + m) (by omega) (by omega)
    have r1 := hre (gL γ (n + 1 + m) / 2) (by omega)
    have r2 := hre (gR γ (n + 1 + m) / 2) (by omega)
    have ex : n + (m + 1) = n + 1 + m := by omega
    rw [ex]
    by_cases q : s.1 (n + 1 + m) = true
    · have e : ndL γ rep n (m + 1) s = ndL γ rep n m (mkN rep (mkN rep s.1 (gL γ (n + 1 + m))) (gR γ (n + 1 + m)), s.2 + 1) := by
        show ndL γ rep n m (if _ then _ else _) = _
        rw [if_pos q]
      rw [e]
      have F0 := FrM.w30 (h := h) (nI (s.2 + 1))
      have R1 := sp_mark (d := d) (F0.S S) (rep := rep) H (p := gL γ (n + 1 + m)) (by omega) (by omega) (by omega)
      have F1 := F0.tr (FrM.w32 (h := sI h 30 5 (nI (s.2 + 1))) (rep (gL γ (n + 1 + m) / 2) / 2) 1)
      have R2 := sp_mark (d := d) (F1.S S) (rep := rep) H (p := gR γ (n + 1 + m)) (by omega) (by omega) (by omega)
      have F2 := F1.tr (FrM.w32 (h := sI (sI h 30 5 (nI (s.2 + 1))) 32 (rep (gL γ (n + 1 + m) / 2) / 2) 1) (rep (gR γ (n + 1 + m) / 2) / 2) 1)
      obtain ⟨h', N', F', hk⟩ := ih (mkN rep (mkN rep s.1 (gL γ (n + 1 + m))) (gR γ (n + 1 + m)), s.2 + 1) _ (by omega) (F2.S S) (F2.G G) H (ND_mk (ND_mk D rep _) rep _) rfl
      refine ⟨h', N', F2.tr F', ?_⟩
      intro Q hQ bc bs ls l4 l0 l1 l2 l3
      have en : hI h 32 (n + 1 + m) = 1 := by rw [D _ (by omega), q]; rfl
      refine r_iload (q63 (i := 27) rfl) l4 ?_
      refine r_aload_n (q63 (i := 28) rfl) l1 ?_
      refine r_getI (x := nI n) (q63 (i := 29) rfl) rfl (by decide) (k_21 S) (fun _ _ _ => rfl) e8 ?_
      refine r_icmp 106 (q63 (i := 30) rfl) (by decide) (fun zz => absurd zz (show ¬ (nI (n + 1 + m) ≤ nI n) from nI_ge (by omega) (by omega))) (fun _ => ?_)
      refine r_aload_n (q63 (i := 31) rfl) l0 ?_
      refine r_getR (b := 32) (q63 (i := 32) rfl) rfl (by decide) (k_30 S) (fun _ _ _ => rfl) (r_30_1 S) ?_
      refine r_iload (q63 (i := 33) rfl) l4 ?_
      refine r_zaN (x := 1) (q63 (i := 34) rfl) (k_32 S) (by omega) (by decide) en ?_
      refine r_if 100 (q63 (i := 35) rfl) (by decide) (fun zz => absurd zz (show ¬ ((1 : Int32) = 0) from by decide)) (fun _ => ?_)
      refine r_aload_n (q63 (i := 36) rfl) l0 ?_
      refine r_dup (q63 (i := 37) rfl) rfl ?_
      refine r_getI (x := nI s.2) (q63 (i := 38) rfl) rfl (by decide) (k_30 S) (fun _ _ _ => rfl) N ?_
      refine r_iconst (v := 1) (q63 (i := 39) rfl) (by decide) ?_
      refine r_iadd (q63 (i := 40) rfl) ?_
      rw [show ((nI s.2) + 1 : Int32) = nI (s.2 + 1) from nI_1 _]
      refine r_putI (q63 (i := 41) rfl) rfl (by decide) (k_30 S) rfl rfl ?_
      refine r_aload_n (q63 (i := 42) rfl) l0 ?_
      refine r_aload_n (q63 (i := 43) rfl) l1 ?_
      refine r_getR (b := 22) (q63 (i := 44) rfl) rfl (by decide) (k_21 S) (fun _ _ _ => rfl) (r_21_2 S) ?_
      refine r_iload (q63 (i := 45) rfl) l4 ?_
      refine r_iaN (x := nI (gL γ (n + 1 + m))) (q63 (i := 46) rfl) (k_22 S) (by omega) (by decide) g1 ?_
      refine r_cV (d := _) (q63 (i := 47) rfl) rfl rfl rfl (k_30 S) (Nat.le_of_ble_eq_true rfl) (Nat.zero_le _) (Nat.zero_le _) R1 ?_
      show Wp _ _ _ 89 ls [] (sI (sI h 30 5 (nI (s.2 + 1))) 32 (rep (gL γ (n + 1 + m) / 2) / 2) 1) _ _
      refine r_aload_n (q63 (i := 48) rfl) l0 ?_
      refine r_aload_n (q63 (i := 49) rfl) l1 ?_
      refine r_getR (b := 23) (q63 (i := 50) rfl) rfl (by decide) (k_21 (F1.S S)) (fun _ _ _ => rfl) (r_21_3 (F1.S S)) ?_
      refine r_iload (q63 (i := 51) rfl) l4 ?_
      refine r_iaN (x := nI (gR γ (n + 1 + m))) (q63 (i := 52) rfl) (k_23 (F1.S S)) (by omega) (by decide) g2 ?_
      refine r_cV (d := _) (q63 (i := 53) rfl) rfl rfl rfl (k_30 (F1.S S)) (Nat.le_of_ble_eq_true rfl) (Nat.zero_le _) (Nat.zero_le _) R2 ?_
      show Wp _ _ _ 100 ls [] (sI (sI (sI h 30 5 (nI (s.2 + 1))) 32 (rep (gL γ (n + 1 + m) / 2) / 2) 1) 32 (rep (gR γ (n + 1 + m) / 2) / 2) 1) _ _
      refine r_iinc (y := nI (n + m)) (q63 (i := 54) rfl) (Nat.le_of_ble_eq_true rfl) l4 (nI_dec (n + 1 + m) (n + m) (by omega)) rfl ?_
      have l0 := lk1 (k := 4) (v := .int (nI (n + m))) l0 (by decide) (Or.inr (by decide))
      have l1 := lk1 (k := 4) (v := .int (nI (n + m))) l1 (by decide) (Or.inr (by decide))
      have l2 := lk1 (k := 4) (v := .int (nI (n + m))) l2 (by decide) (Or.inr (by decide))
      have l3 := lk1 (k := 4) (v := .int (nI (n + m))) l3 (by decide) (Or.inl rfl)
      have l4 := lk0 ls 4 (.int (nI (n + m)))
      generalize lset1 ls 4 (.int (nI (n + m))) = ls at l4 l0 l1 l2 l3 ⊢
      refine r_goto 49 (q63 (i := 55) rfl) (by decide) ?_
      exact hk Q hQ bc bs ls l4 l0 l1 l2 l3
    · have e : ndL γ rep n (m + 1) s = ndL γ rep n m s := by
        show ndL γ rep n m (if _ then _ else _) = _
        rw [if_neg q]
      rw [e]
      obtain ⟨h', N', F', hk⟩ := ih s h (by omega) S G H D N
      refine ⟨h', N', F', ?_⟩
      intro Q hQ bc bs ls l4 l0 l1 l2 l3
      have en : hI h 32 (n + 1 + m) = 0 := by rw [D _ (by omega), Bool.eq_false_iff.mpr q]; rfl
      refine r_iload (q63 (i := 27) rfl) l4 ?_
      refine r_aload_n (q63 (i := 28) rfl) l1 ?_
      refine r_getI (x := nI n) (q63 (i := 29) rfl) rfl (by decide) (k_21 S) (fun _ _ _ => rfl) e8 ?_
      refine r_icmp 106 (q63 (i := 30) rfl) (by decide) (fun zz => absurd zz (show ¬ (nI (n + 1 + m) ≤ nI n) from nI_ge (by omega) (by omega))) (fun _ => ?_)
      refine r_aload_n (q63 (i := 31) rfl) l0 ?_
      refine r_getR (b := 32) (q63 (i := 32) rfl) rfl (by decide) (k_30 S) (fun _ _ _ => rfl) (r_30_1 S) ?_
      refine r_iload (q63 (i := 33) rfl) l4 ?_
      refine r_zaN (x := 0) (q63 (i := 34) rfl) (k_32 S) (by omega) (by decide) en ?_
      refine r_if 100 (q63 (i := 35) rfl) (by decide) (fun _ => ?_) (fun zz => absurd (show (0 : Int32) = 0 from by decide) zz)
      refine r_iinc (y := nI (n + m)) (q63 (i := 54) rfl) (Nat.le_of_ble_eq_true rfl) l4 (nI_dec (n + 1 + m) (n + m) (by omega)) rfl ?_
      have l0 := lk1 (k := 4) (v := .int (nI (n + m))) l0 (by decide) (Or.inr (by decide))
      have l1 := lk1 (k := 4) (v := .int (nI (n + m))) l1 (by decide) (Or.inr (by decide))
      have l2 := lk1 (k := 4) (v := .int (nI (n + m))) l2 (by decide) (Or.inr (by decide))
      have l3 := lk1 (k := 4) (v := .int (nI (n + m))) l3 (by decide) (Or.inl rfl)
      have l4 := lk0 ls 4 (.int (nI (n + m)))
      generalize lset1 ls 4 (.int (nI (n + m))) = ls at l4 l0 l1 l2 l3 ⊢
      refine r_goto 49 (q63 (i := 55) rfl) (by decide) ?_
      exact hk Q hQ bc bs ls l4 l0 l1 l2 l3
/-- how many ANDs are needed -/
def needT (γ : gs) (rep : Nat → Nat) (n : Nat) (f0 f1 : Nat → Nat) (k0 k1 : Nat) : Nat := (ndL γ rep n (gC γ - 1 - n) (mkO rep f1 (mkO rep f0 (fun _ => false) k0) k1, 0)).2
set_option maxHeartbeats 2000000 in
set_option maxRecDepth 10000 in
theorem sp_findNeeded {d n g0 g1 k0 k1 ρ rw : Nat} {γ : gs} (W : gwf n γ) {rep l0 l1 f0 f1 : Nat → Nat} (hn0 : n + g0 ≤ 132) (hn1 : n + g1 ≤ 132) (hk0 : k0 ≤ 10) (hk1 : k1 ≤ 10) (hre : ∀ x, x < gC γ → rep x ≤ 2 * x) {h : hp} (S : Sh h) (G : GC h ρ n rw γ) (H : hI h 31 = fun k => nI (rep k)) (c6 : hI h 3 6 = nI n) (c7 : hI h 3 7 = nI g0) (c8 : hI h 3 8 = nI k0) (hl : ∀ v, v < n + g0 → hI h 9 v = nI (sl n l0 v)) (ho : ∀ j, j < k0 → pl (hI h 8 j) < nI (n + g0) ∧ sd n l0 (hI h 8 j) = f0 j ∧ f0 j < 2 * gC γ) (b6 : hI h 10 6 = nI n) (b7 : hI h 10 7 = nI g1) (b8 : hI h 10 8 = nI k1) (bl : ∀ v, v < n + g1 → hI h 16 v = nI (sl n l1 v)) (bo : ∀ j, j < k1 → pl (hI h 15 j) < nI (n + g1) ∧ sd n l1 (hI h 15 j) = f1 j ∧ f1 j < 2 * gC γ) : ∃ h', Run (d + 4 + 1) 63 [.ref 30, .ref 21, .ref 3, .ref 10] h 0 0 none h' ∧ hI h' 30 5 = nI (needT γ rep n f0 f1 k0 k1) ∧ FrM h h' := by
  have e9 := G.2.1.2.2.1
  have e8 := G.2.1.2.1
  have hc9 := G.2.1.2.2.2
  have hcn := W.1
  have F0 : FrM h (rI h 32 (filI (hI h 32) 0 (gC γ))) := ⟨rfl, fun k x _ => by show u1 h.1 32 _ k = _; rw [u1_n x], fun _ _ => rfl⟩
  obtain ⟨h1, R1, D1, F1⟩ := sp_markOuts_3 (d := d) (C := gC γ) (f := f0) hn0 hc9 hk0 hre (nd := fun _ => false) (F0.S S) H c6 c7 c8 hl ho (fun k hk => by show (if k < gC γ then (0 : Int32) else hI h 32 k) = _; rw [if_pos hk]; rfl)
  have F01 := F0.tr F1
  obtain ⟨h2, R2, D2, F2⟩ := sp_markOuts_10 (d := d) (C := gC γ) (lit := l1) (f := f1) hn1 hc9 hk1 hre (F01.S S) ((F01.2.1 31 (by decide) (by decide)).trans H) (by rw [F01.2.1 10 (by decide) (by decide)]; exact b6) (by rw [F01.2.1 10 (by decide) (by decide)]; exact b7) (by rw [F01.2.1 10 (by decide) (by decide)]; exact b8) (by rw [F01.2.1 16 (by decide) (by decide)]; exact bl) (by rw [F01.2.1 15 (by decide) (by decide)]; exact bo) D1
  have F02 := F01.tr F2
  have F03 := F02.tr (FrM.w30 (h := h2) 0)
  obtain ⟨h', N', F', hk⟩ := lp_ndDown (d := d + 3) (ρ := ρ) (rw := rw) W hre (gC γ - 1 - n) (mkO rep f1 (mkO rep f0 (fun _ => false) k0) k1, 0) (sI h2 30 5 0) (by omega) (F03.S S) (F03.G G) ((F02.2.1 31 (by decide) (by decide)).trans H) D2 rfl
  refine ⟨h', ?_, N', F03.tr F'⟩
  have S1 := F01.S S
  have S2 := F02.S S
  have q9 : hI h2 21 9 = nI (gC γ) := by rw [F02.2.1 21 (by decide) (by decide)]; exact e9
  refine Run.of (Nat.le_of_ble_eq_true rfl) (fun Q hQ => ?_)
  show Wp (Ex (d + 4)) 63 Q 0 [(0, .ref 30), (1, .ref 21), (2, .ref 3), (3, .ref 10)] [] h 0 0
  refine r_iconst (v := 0) (q63 (i := 0) rfl) (by decide) ?_
  refine r_istore (ls' := [(4, .int 0), (0, .ref 30), (1, .ref 21), (2, .ref 3), (3, .ref 10)]) (q63 (i := 1) rfl) (Nat.le_of_ble_eq_true rfl) rfl ?_
  have K26 : ∀ ls : List (Nat × Value), ls.lookup 0 = some (.ref 30) → ls.lookup 1 = some (.ref 21) → ls.lookup 2 = some (.ref 3) → ls.lookup 3 = some (.ref 10) → Wp (Ex (d + 4)) 63 Q 26 ls [] (rI h 32 (filI (hI h 32) 0 (gC γ))) 0 0 := by
    intro ls l0 l1 l2 l3
    refine r_aload_n (q63 (i := 13) rfl) l0 ?_
    refine r_aload_n (q63 (i := 14) rfl) l2 ?_
    refine r_cV (d := _) (q63 (i := 15) rfl) rfl rfl rfl (k_30 (F0.S S)) (Nat.le_of_ble_eq_true rfl) (Nat.zero_le _) (Nat.zero_le _) R1 ?_
    show Wp _ _ _ 31 ls [] h1 _ _
    refine r_aload_n (q63 (i := 16) rfl) l0 ?_
    refine r_aload_n (q63 (i := 17) rfl) l3 ?_
    refine r_cV (d := _) (q63 (i := 18) rfl) rfl rfl rfl (k_30 S1) (Nat.le_of_ble_eq_true rfl) (Nat.zero_le _) (Nat.zero_le _) R2 ?_
    show Wp _ _ _ 36 ls [] h2 _ _
    refine r_aload_n (q63 (i := 19) rfl) l0 ?_
    refine r_iconst (v := 0) (q63 (i := 20) rfl) (by decide) ?_
    refine r_putI (q63 (i := 21) rfl) rfl (by decide) (k_30 S2) rfl rfl ?_
    refine r_aload_n (q63 (i := 22) rfl) l1 ?_
    refine r_getI (x := nI (gC γ)) (q63 (i := 23) rfl) rfl (by decide) (k_21 S2) (fun _ _ _ => rfl) q9 ?_
    refine r_iconst (v := 1) (q63 (i := 24) rfl) (by decide) ?_
    refine r_isub (q63 (i := 25) rfl) ?_
    rw [show ((nI (gC γ)) - 1 : Int32) = nI (n + (gC γ - 1 - n)) from nI_decS _ _ (by omega)]
    refine r_istore (q63 (i := 26) rfl) (Nat.le_of_ble_eq_true rfl) rfl ?_
    have l0 := lk1 (k := 4) (v := .int (nI (n + (gC γ - 1 - n)))) l0 (by decide) (Or.inr (by decide))
    have l1 := lk1 (k := 4) (v := .int (nI (n + (gC γ - 1 - n)))) l1 (by decide) (Or.inr (by decide))
    have l2 := lk1 (k := 4) (v := .int (nI (n + (gC γ - 1 - n)))) l2 (by decide) (Or.inr (by decide))
    have l3 := lk1 (k := 4) (v := .int (nI (n + (gC γ - 1 - n)))) l3 (by decide) (Or.inl rfl)
    have l4 := lk0 ls 4 (.int (nI (n + (gC γ - 1 - n))))
    generalize lset1 ls 4 (.int (nI (n + (gC γ - 1 - n)))) = ls at l4 l0 l1 l2 l3 ⊢
    exact hk Q hQ _ _ ls l4 l0 l1 l2 l3
  have K3 := lp_ndClear S e9 hc9 K26 (gC γ) 0 (Nat.zero_add _)
  rw [filI_0, rI_self] at K3
  exact K3 _ rfl rfl rfl rfl rfl
