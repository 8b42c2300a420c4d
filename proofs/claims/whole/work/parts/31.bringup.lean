/-! ===== bringUp ===== -/
def gmk (n : Nat) (c : cir) (st : gs × (Nat → Nat)) : Nat → gs × (Nat → Nat)
  | 0 => st
  | f + 1 => gstep n c (gmk n c st f) f
/-- the first circuit's graph; then both -/
def gA (n : Nat) (c0 : cir) (f : Nat) : gs × (Nat → Nat) := gmk n c0 (gini (n + 1), fun _ => 0) f
def gB (n : Nat) (c0 c1 : cir) (f s : Nat) : gs × (Nat → Nat) := gmk n c1 ((gA n c0 f).1, fun _ => 0) s
theorem gini_wf (n : Nat) : gwf n (gini (n + 1)) := ⟨Nat.lt_succ_self n, fun k a b => absurd b (by show ¬ k < n + 1; omega), fun i k a b c => absurd c (by show ¬ k < n + 1; omega)⟩
theorem gmk_ok {n : Nat} {c : cir} {st : gs × (Nat → Nat)} (M : gmade n 0 st) (hn : n ≤ 12) : ∀ f, f ≤ 120 → (∀ g, g < f → cok n c g) → gmade n f (gmk n c st f) ∧ gC st.1 ≤ gC (gmk n c st f).1 ∧ gC (gmk n c st f).1 ≤ gC st.1 + 4 * f
  | 0, _, _ => ⟨M, Nat.le_refl _, Nat.le_refl _⟩
  | f + 1, hf, K => by
    obtain ⟨a, b, c'⟩ := gmk_ok M hn f (by omega) (fun g hg => K g (by omega))
    obtain ⟨a2, b2, c2⟩ := gstep_ok a (K f (by omega)) (by omega)
    exact ⟨a2, by show _ ≤ gC (gstep n c (gmk n c st f) f).1; omega, by show gC (gstep n c (gmk n c st f) f).1 ≤ _; omega⟩
theorem gA_ok {n : Nat} {c0 : cir} (hn : n ≤ 12) {f : Nat} (hf : f ≤ 120) (K : ∀ g, g < f → cok n c0 g) : gmade n f (gA n c0 f) ∧ gC (gA n c0 f).1 ≤ n + 1 + 4 * f := by
  obtain ⟨a, b, c⟩ := gmk_ok (n := n) (c := c0) (st := (gini (n + 1), fun _ => 0)) ⟨gini_wf n, fun i hi => absurd hi (Nat.not_lt_zero i)⟩ hn f hf K
  exact ⟨a, c⟩
theorem gB_ok {n : Nat} {c0 c1 : cir} (hn : n ≤ 12) {f s : Nat} (hf : f ≤ 120) (hs : s ≤ 120) (K : ∀ g, g < f → cok n c0 g) (K1 : ∀ g, g < s → cok n c1 g) : gmade n s (gB n c0 c1 f s) ∧ gC (gB n c0 c1 f s).1 ≤ n + 1 + 4 * f + 4 * s := by
  obtain ⟨a, c⟩ := gA_ok hn hf K
  obtain ⟨a2, b2, c2⟩ := gmk_ok (n := n) (c := c1) (st := ((gA n c0 f).1, fun _ => 0)) ⟨a.1, fun i hi => absurd hi (Nat.not_lt_zero i)⟩ hn s hs K1
  have c2 : gC (gB n c0 c1 f s).1 ≤ gC (gA n c0 f).1 + 4 * s := c2
  exact ⟨a2, by omega⟩
/-- the two circuits as the class holds them -/
def CB (h : hp) (n g0 g1 : Nat) (c0 c1 : cir) : Prop := (hI h 3 6 = nI n ∧ hI h 10 6 = nI n ∧ hI h 3 7 = nI g0 ∧ hI h 10 7 = nI g1) ∧ (cirH h 3 = c0 ∧ cirH h 10 = c1) ∧ (1 ≤ n ∧ n ≤ 12 ∧ g0 ≤ 120 ∧ g1 ≤ 120) ∧ (∀ g, g < g0 → cok n c0 g) ∧ ∀ g, g < g1 → cok n c1 g
theorem CB.to {h h' : hp} {n g0 g1 : Nat} {c0 c1 : cir} (C : CB h n g0 g1 c0 c1) (F : FrB h h') : CB h' n g0 g1 c0 c1 := by
  obtain ⟨⟨a1, a2, a3, a4⟩, ⟨b1, b2⟩, r⟩ := C
  have i : ∀ k, k ≠ 9 → k ≠ 16 → k < 21 → hI h' k = hI h k := fun k x y z => F.1 k x y (Or.inl z) (by omega)
  refine ⟨⟨by rw [i 3 (by decide) (by decide) (by decide)]; exact a1, by rw [i 10 (by decide) (by decide) (by decide)]; exact a2, by rw [i 3 (by decide) (by decide) (by decide)]; exact a3, by rw [i 10 (by decide) (by decide) (by decide)]; exact a4⟩, ⟨?_, ?_⟩, r⟩
  · rw [← b1]
    unfold cirH
    rw [i (3 + 1) (by decide) (by decide) (by decide), i (3 + 2) (by decide) (by decide) (by decide), i (3 + 3) (by decide) (by decide) (by decide), i (3 + 4) (by decide) (by decide) (by decide)]
  · rw [← b2]
    unfold cirH
    rw [i (10 + 1) (by decide) (by decide) (by decide), i (10 + 2) (by decide) (by decide) (by decide), i (10 + 3) (by decide) (by decide) (by decide), i (10 + 4) (by decide) (by decide) (by decide)]
/-- f and s gates are made -/
def BU (h : hp) (ρ n : Nat) (c0 c1 : cir) (f s : Nat) : Prop := GC h ρ n (2 ^ (n - 6)) (gB n c0 c1 f s).1 ∧ (hI h 21 10 = nI f ∧ hI h 21 11 = nI s ∧ hI h 21 12 = 0) ∧ (∀ v, v < n + f → hI h 9 v = nI (sl n (gA n c0 f).2 v)) ∧ ∀ v, v < n + s → hI h 16 v = nI (sl n (gB n c0 c1 f s).2 v)
theorem sl_u1 {n g v x : Nat} {lit : Nat → Nat} (hv : v < n + g) : sl n (u1 lit g x) v = sl n lit v := by
  unfold sl
  split
  · rfl
  · exact u1_n (by omega)
theorem sl_top {n g x : Nat} {lit : Nat → Nat} : sl n (u1 lit g x) (n + g) = x := by
  unfold sl
  rw [if_neg (by omega), Nat.add_sub_cancel_left, u1_s]
theorem FrB.w9 {h : hp} (i : Nat) (x : Int32) (k : Nat) (y : Int32) (hn : 1327 ≤ hN h) : FrB h (sI (sI h 9 i x) 21 k y) := by
  refine ⟨fun q a b c _ => ?_, fun _ _ _ => rfl, fun _ _ => rfl, fun _ _ _ _ => rfl, hn⟩
  show u2 (u2 h.1 9 i x) 21 k y q = _
  rw [u2_n (by omega), u2_n a]
theorem FrB.w16 {h : hp} (i : Nat) (x : Int32) (k : Nat) (y : Int32) (hn : 1327 ≤ hN h) : FrB h (sI (sI h 16 i x) 21 k y) := by
  refine ⟨fun q a b c _ => ?_, fun _ _ _ => rfl, fun _ _ => rfl, fun _ _ _ _ => rfl, hn⟩
  show u2 (u2 h.1 16 i x) 21 k y q = _
  rw [u2_n (by omega), u2_n b]
set_option maxHeartbeats 2000000 in
set_option maxRecDepth 10000 in
theorem lp_bringB {d : Nat} {ρ n g0 g1 : Nat} {c0 c1 : cir} (hρ : ρ = 26 ∨ 1327 ≤ ρ) : ∀ (k s : Nat) (h : hp), s + k = g1 → Sh h → 1327 ≤ hN h → CB h n g0 g1 c0 c1 → BU h ρ n c0 c1 g0 s → ∃ h', BU h' ρ n c0 c1 g0 g1 ∧ FrB h h' ∧ h'.2.2 = h.2.2 ∧ ∀ (Q : resP), Q none h' → ∀ (bc bs : Nat) (ls : List (Nat × Value)), ls.lookup 0 = some (.ref 21) → Wp (Ex (d + 6)) 40 Q 88 ls [] h bc bs := by
  intro k
  induction k with
  | zero =>
    intro s h hs S hNN C B
    have e : s = g1 := by omega
    subst e
    refine ⟨h, B, FrB.rf hNN, rfl, ?_⟩
    intro Q hQ bc bs ls l0
    obtain ⟨G, ⟨e10, e11, e12⟩, L0, L1⟩ := B
    obtain ⟨⟨a1, a2, a3, a4⟩, -⟩ := C
    refine r_aload_n (q40 (i := 42) rfl) l0 ?_
    refine r_getI (x := nI s) (q40 (i := 43) rfl) rfl (by decide) (k_21 S) (fun _ _ _ => rfl) e11 ?_
    refine r_aload_n (q40 (i := 44) rfl) l0 ?_
    refine r_getR (b := 10) (q40 (i := 45) rfl) rfl (by decide) (k_21 S) (fun _ _ _ => rfl) (r_21_1 S) ?_
    refine r_getI (x := nI s) (q40 (i := 46) rfl) rfl (by decide) (k_10 S) (fun _ _ _ => rfl) a4 ?_
    refine r_icmp 127 (q40 (i := 47) rfl) (by decide) (fun _ => ?_) (fun c => absurd (show nI s ≤ nI s from Int32.le_refl _) c)
    exact r_vret (q40 (i := 61) rfl) rfl hQ
  | succ k ih =>
    intro s h hs S hNN C B
    have C0 := C
    obtain ⟨G, ⟨e10, e11, e12⟩, L0, L1⟩ := B
    obtain ⟨⟨a1, a2, a3, a4⟩, ⟨b1, b2⟩, ⟨n1, n2, q0, q1⟩, K0, K1⟩ := C
    obtain ⟨M, hcn⟩ := gB_ok (c1 := c1) n2 q0 (show s ≤ 120 by omega) K0 (fun g hg => K1 g (by omega))
    have K1s := K1 s (by omega)
    rw [← b2] at K1s
    obtain ⟨h1, R1, G1, F1⟩ := sp_makeGate_10 (d := d) S G M K1s a4 a2 (by omega) q1 L1 (by omega)
    rw [b2] at R1 G1
    have S1 := S.to F1.1
    have F1B := F1.B hρ hNN
    have N1 : 1327 ≤ hN h1 := F1B.2.2.2.2
    obtain ⟨hx, hxe⟩ : ∃ hx, hx = sI (sI h1 16 (n + s) (nI (gop n c1 (gB n c0 c1 g0 s) s).1)) 21 11 (nI (s + 1)) := ⟨_, rfl⟩
    have Fx : FrB h hx := by rw [hxe]; exact F1B.tr (FrB.w16 _ _ _ _ N1)
    have Bx : BU hx ρ n c0 c1 g0 (s + 1) := by
      rw [hxe]
      refine ⟨G1, ⟨(F1.2.2.2 10 (by decide)).trans e10, rfl, (F1.2.2.2 12 (by decide)).trans e12⟩, fun v hv => ?_, fun v hv => ?_⟩
      · show hI h1 9 v = _
        rw [F1.2.1 9 (by decide)]
        exact L0 v hv
      · show u1 (hI h1 16) (n + s) _ v = nI (sl n (u1 (gB n c0 c1 g0 s).2 s (gop n c1 (gB n c0 c1 g0 s) s).1) v)
        by_cases q : v = n + s
        · rw [q, u1_s, sl_top]
        · rw [u1_n q, F1.2.1 16 (by decide), sl_u1 (by omega)]
          exact L1 v (by omega)
    have ex22 : hx.2.2 = h.2.2 := by rw [hxe]; exact F1.1
    obtain ⟨h', B', F', ee, hk⟩ := ih (s + 1) hx (by omega) (Fx.S S) Fx.2.2.2.2 (C0.to Fx) Bx
    refine ⟨h', B', Fx.tr F', ee.trans ex22, ?_⟩
    intro Q hQ bc bs ls l0
    refine r_aload_n (q40 (i := 42) rfl) l0 ?_
    refine r_getI (x := nI s) (q40 (i := 43) rfl) rfl (by decide) (k_21 S) (fun _ _ _ => rfl) e11 ?_
    refine r_aload_n (q40 (i := 44) rfl) l0 ?_
    refine r_getR (b := 10) (q40 (i := 45) rfl) rfl (by decide) (k_21 S) (fun _ _ _ => rfl) (r_21_1 S) ?_
    refine r_getI (x := nI g1) (q40 (i := 46) rfl) rfl (by decide) (k_10 S) (fun _ _ _ => rfl) a4 ?_
    refine r_icmp 127 (q40 (i := 47) rfl) (by decide) (fun c => absurd c (show ¬ (nI g1 ≤ nI s) from nI_ge (by omega) (by omega))) (fun _ => ?_)
    refine r_aload_n (q40 (i := 48) rfl) l0 ?_
    refine r_aload_n (q40 (i := 49) rfl) l0 ?_
    refine r_getR (b := 10) (q40 (i := 50) rfl) rfl (by decide) (k_21 S) (fun _ _ _ => rfl) (r_21_1 S) ?_
    refine r_aload_n (q40 (i := 51) rfl) l0 ?_
    refine r_getI (x := nI s) (q40 (i := 52) rfl) rfl (by decide) (k_21 S) (fun _ _ _ => rfl) e11 ?_
    refine r_cV (d := _) (q40 (i := 53) rfl) rfl rfl rfl (k_21 S) (Nat.le_of_ble_eq_true rfl) (Nat.zero_le _) (Nat.zero_le _) R1 ?_
    show Wp _ _ _ 114 ls [] (sI h1 16 (n + s) (nI (gop n c1 (gB n c0 c1 g0 s) s).1)) _ _
    refine r_aload_n (q40 (i := 54) rfl) l0 ?_
    refine r_dup (q40 (i := 55) rfl) rfl ?_
    refine r_getI (x := nI s) (q40 (i := 56) rfl) rfl (by decide) (k_21 S1) (fun _ _ _ => rfl) ((F1.2.2.2 11 (by decide)).trans e11) ?_
    refine r_iconst (v := 1) (q40 (i := 57) rfl) (by decide) ?_
    refine r_iadd (q40 (i := 58) rfl) ?_
    rw [show ((nI s) + 1 : Int32) = nI (s + 1) from nI_1 s]
    refine r_putI (q40 (i := 59) rfl) rfl (by decide) (k_21 S1) rfl rfl ?_
    refine r_goto 88 (q40 (i := 60) rfl) (by decide) ?_
    rw [← hxe]
    exact hk Q hQ bc bs ls l0
set_option maxHeartbeats 2000000 in
set_option maxRecDepth 10000 in
theorem lp_bringA {d : Nat} {ρ n g0 g1 : Nat} {c0 c1 : cir} (hρ : ρ = 26 ∨ 1327 ≤ ρ) : ∀ (k f s : Nat) (h : hp), f + k = g0 → (s = 0 ∨ f = g0) → s ≤ g1 → Sh h → 1327 ≤ hN h → CB h n g0 g1 c0 c1 → BU h ρ n c0 c1 f s → ∃ h', BU h' ρ n c0 c1 g0 g1 ∧ FrB h h' ∧ h'.2.2 = h.2.2 ∧ ∀ (Q : resP), Q none h' → ∀ (bc bs : Nat) (ls : List (Nat × Value)), ls.lookup 0 = some (.ref 21) → Wp (Ex (d + 6)) 40 Q 49 ls [] h bc bs := by
  intro k
  induction k with
  | zero =>
    intro f s h hf hsf hs S hNN C B
    have e : f = g0 := by omega
    subst e
    obtain ⟨h', B', F', ee, hk⟩ := lp_bringB (d := d) hρ (g1 - s) s h (by omega) S hNN C B
    refine ⟨h', B', F', ee, ?_⟩
    intro Q hQ bc bs ls l0
    obtain ⟨G, ⟨e10, e11, e12⟩, L0, L1⟩ := B
    obtain ⟨⟨a1, a2, a3, a4⟩, -⟩ := C
    refine r_aload_n (q40 (i := 23) rfl) l0 ?_
    refine r_getI (x := nI f) (q40 (i := 24) rfl) rfl (by decide) (k_21 S) (fun _ _ _ => rfl) e10 ?_
    refine r_aload_n (q40 (i := 25) rfl) l0 ?_
    refine r_getR (b := 3) (q40 (i := 26) rfl) rfl (by decide) (k_21 S) (fun _ _ _ => rfl) (r_21_0 S) ?_
    refine r_getI (x := nI f) (q40 (i := 27) rfl) rfl (by decide) (k_3 S) (fun _ _ _ => rfl) a3 ?_
    refine r_icmp 88 (q40 (i := 28) rfl) (by decide) (fun _ => ?_) (fun c => absurd (show nI f ≤ nI f from Int32.le_refl _) c)
    exact hk Q hQ bc bs ls l0
  | succ k ih =>
    intro f s h hf hsf hs S hNN C B
    have es : s = 0 := by omega
    subst es
    have C0 := C
    obtain ⟨G, ⟨e10, e11, e12⟩, L0, L1⟩ := B
    obtain ⟨⟨a1, a2, a3, a4⟩, ⟨b1, b2⟩, ⟨n1, n2, q0, q1⟩, K0, K1⟩ := C
    obtain ⟨M, hcn⟩ := gA_ok n2 (show f ≤ 120 by omega) (fun g hg => K0 g (by omega))
    have K0f := K0 f (by omega)
    rw [← b1] at K0f
    have G' : GC h ρ n (2 ^ (n - 6)) (gA n c0 f).1 := G
    obtain ⟨h1, R1, G1, F1⟩ := sp_makeGate_3 (d := d) S G' M K0f a3 a1 (by omega) q0 L0 (by omega)
    rw [b1] at R1 G1
    have S1 := S.to F1.1
    have F1B := F1.B hρ hNN
    have N1 : 1327 ≤ hN h1 := F1B.2.2.2.2
    obtain ⟨hx, hxe⟩ : ∃ hx, hx = sI (sI h1 9 (n + f) (nI (gop n c0 (gA n c0 f) f).1)) 21 10 (nI (f + 1)) := ⟨_, rfl⟩
    have Fx : FrB h hx := by rw [hxe]; exact F1B.tr (FrB.w9 _ _ _ _ N1)
    have Bx : BU hx ρ n c0 c1 (f + 1) 0 := by
      rw [hxe]
      refine ⟨G1, ⟨rfl, (F1.2.2.2 11 (by decide)).trans e11, (F1.2.2.2 12 (by decide)).trans e12⟩, fun v hv => ?_, fun v hv => ?_⟩
      · show u1 (hI h1 9) (n + f) _ v = nI (sl n (u1 (gA n c0 f).2 f (gop n c0 (gA n c0 f) f).1) v)
        by_cases q : v = n + f
        · rw [q, u1_s, sl_top]
        · rw [u1_n q, F1.2.1 9 (by decide), sl_u1 (by omega)]
          exact L0 v (by omega)
      · show hI h1 16 v = _
        rw [F1.2.1 16 (by decide)]
        exact L1 v hv
    have ex22 : hx.2.2 = h.2.2 := by rw [hxe]; exact F1.1
    obtain ⟨h', B', F', ee, hk⟩ := ih (f + 1) 0 hx (by omega) (Or.inl rfl) hs (Fx.S S) Fx.2.2.2.2 (C0.to Fx) Bx
    refine ⟨h', B', Fx.tr F', ee.trans ex22, ?_⟩
    intro Q hQ bc bs ls l0
    refine r_aload_n (q40 (i := 23) rfl) l0 ?_
    refine r_getI (x := nI f) (q40 (i := 24) rfl) rfl (by decide) (k_21 S) (fun _ _ _ => rfl) e10 ?_
    refine r_aload_n (q40 (i := 25) rfl) l0 ?_
    refine r_getR (b := 3) (q40 (i := 26) rfl) rfl (by decide) (k_21 S) (fun _ _ _ => rfl) (r_21_0 S) ?_
    refine r_getI (x := nI g0) (q40 (i := 27) rfl) rfl (by decide) (k_3 S) (fun _ _ _ => rfl) a3 ?_
    refine r_icmp 88 (q40 (i := 28) rfl) (by decide) (fun c => absurd c (show ¬ (nI g0 ≤ nI f) from nI_ge (by omega) (by omega))) (fun _ => ?_)
    refine r_aload_n (q40 (i := 29) rfl) l0 ?_
    refine r_aload_n (q40 (i := 30) rfl) l0 ?_
    refine r_getR (b := 3) (q40 (i := 31) rfl) rfl (by decide) (k_21 S) (fun _ _ _ => rfl) (r_21_0 S) ?_
    refine r_aload_n (q40 (i := 32) rfl) l0 ?_
    refine r_getI (x := nI f) (q40 (i := 33) rfl) rfl (by decide) (k_21 S) (fun _ _ _ => rfl) e10 ?_
    refine r_cV (d := _) (q40 (i := 34) rfl) rfl rfl rfl (k_21 S) (Nat.le_of_ble_eq_true rfl) (Nat.zero_le _) (Nat.zero_le _) R1 ?_
    show Wp _ _ _ 75 ls [] (sI h1 9 (n + f) (nI (gop n c0 (gA n c0 f) f).1)) _ _
    refine r_aload_n (q40 (i := 35) rfl) l0 ?_
    refine r_dup (q40 (i := 36) rfl) rfl ?_
    refine r_getI (x := nI f) (q40 (i := 37) rfl) rfl (by decide) (k_21 S1) (fun _ _ _ => rfl) ((F1.2.2.2 10 (by decide)).trans e10) ?_
    refine r_iconst (v := 1) (q40 (i := 38) rfl) (by decide) ?_
    refine r_iadd (q40 (i := 39) rfl) ?_
    rw [show ((nI f) + 1 : Int32) = nI (f + 1) from nI_1 f]
    refine r_putI (q40 (i := 40) rfl) rfl (by decide) (k_21 S1) rfl rfl ?_
    refine r_goto 49 (q40 (i := 41) rfl) (by decide) ?_
    rw [← hxe]
    exact hk Q hQ bc bs ls l0
