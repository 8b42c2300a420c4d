set_option maxHeartbeats 2000000 in
set_option maxRecDepth 10000 in
/-- bringUp's first question -/
theorem bu_head {d : Nat} {h : hp} (S : Sh h) {Q : resP} {bc bs : Nat} (hk : ∀ b : Int32, (b = 0 ∨ b = 1) → (b = 0 ↔ ¬ (hI h 21 10 < hI h 3 7 ∧ 0 < hI h 21 11)) → Wp (Ex (d + 6)) 40 Q 27 [(1, .int b), (0, .ref 21)] [] h bc bs) : Wp (Ex (d + 6)) 40 Q 0 [(0, .ref 21)] [] h bc bs := by
  refine r_aload_n (q40 (i := 0) rfl) rfl ?_
  refine r_getI (x := hI h 21 10) (q40 (i := 1) rfl) rfl (by decide) (k_21 S) (fun _ _ _ => rfl) rfl ?_
  refine r_aload_n (q40 (i := 2) rfl) rfl ?_
  refine r_getR (b := 3) (q40 (i := 3) rfl) rfl (by decide) (k_21 S) (fun _ _ _ => rfl) (r_21_0 S) ?_
  refine r_getI (x := hI h 3 7) (q40 (i := 4) rfl) rfl (by decide) (k_3 S) (fun _ _ _ => rfl) rfl ?_
  refine r_icmp 25 (q40 (i := 5) rfl) (by decide) (fun c1 => ?_) (fun c1 => ?_)
  · have c1 : hI h 3 7 ≤ hI h 21 10 := c1
    refine r_iconst (v := 0) (q40 (i := 11) rfl) (by decide) ?_
    refine r_istore_n (ls' := [(1, .int 0), (0, .ref 21)]) (q40 (i := 12) rfl) (Nat.le_of_ble_eq_true rfl) rfl ?_
    exact hk 0 (by decide) (⟨fun _ z => absurd z.1 (nlt0 c1), fun _ => rfl⟩)
  · have c1 : ¬ (hI h 3 7 ≤ hI h 21 10) := c1
    refine r_aload_n (q40 (i := 6) rfl) rfl ?_
    refine r_getI (x := hI h 21 11) (q40 (i := 7) rfl) rfl (by decide) (k_21 S) (fun _ _ _ => rfl) rfl ?_
    refine r_if 25 (q40 (i := 8) rfl) (by decide) (fun c2 => ?_) (fun c2 => ?_)
    · have c2 : hI h 21 11 ≤ 0 := c2
      refine r_iconst (v := 0) (q40 (i := 11) rfl) (by decide) ?_
      refine r_istore_n (ls' := [(1, .int 0), (0, .ref 21)]) (q40 (i := 12) rfl) (Nat.le_of_ble_eq_true rfl) rfl ?_
      exact hk 0 (by decide) (⟨fun _ z => absurd z.2 (nlt0 c2), fun _ => rfl⟩)
    · have c2 : ¬ (hI h 21 11 ≤ 0) := c2
      refine r_iconst (v := 1) (q40 (i := 9) rfl) (by decide) ?_
      refine r_goto 26 (q40 (i := 10) rfl) (by decide) ?_
      refine r_istore_n (ls' := [(1, .int 1), (0, .ref 21)]) (q40 (i := 12) rfl) (Nat.le_of_ble_eq_true rfl) rfl ?_
      exact hk 1 (by decide) (⟨fun z => absurd z (by decide), fun z => absurd ⟨lt0 c1, lt0 c2⟩ z⟩)
theorem FrB.N {h h' : hp} (F : FrB h h') : 1327 ≤ hN h' := F.2.2.2.2
/-- the class's graph: its rows; stale, or some gates made -/
def CGr (h : hp) (ρ e n g0 g1 : Nat) (c0 c1 : cir) : Prop := Rw h ρ (973 * 2 ^ e) ∧ e ≤ 6 ∧ (hI h 21 12 = 1 ∨ ∃ f s, f ≤ g0 ∧ s ≤ g1 ∧ BU h ρ n c0 c1 f s)
theorem bu_ini {h : hp} {ρ n : Nat} {c0 c1 : cir} (G : GC h ρ n (2 ^ (n - 6)) (gini (n + 1))) (f : hI h 21 10 = 0 ∧ hI h 21 11 = 0 ∧ hI h 21 12 = 0) (l : ∀ v, v < n → hI h 9 v = nI (2 * (v + 1)) ∧ hI h 16 v = nI (2 * (v + 1))) : BU h ρ n c0 c1 0 0 :=
  ⟨G, f, fun v hv => by have hv : v < n := hv; rw [(l v hv).1]; unfold sl; rw [if_pos hv], fun v hv => by have hv : v < n := hv; rw [(l v hv).2]; unfold sl; rw [if_pos hv]⟩
set_option maxHeartbeats 2000000 in
set_option maxRecDepth 10000 in
theorem bu_restart {d : Nat} {h : hp} (S : Sh h) (P : Pt h) (hNN : 1327 ≤ hN h) {ρ e n g0 g1 : Nat} {c0 c1 : cir} (C : CB h n g0 g1 c0 c1) (hRw : Rw h ρ (973 * 2 ^ e)) (he : e ≤ 6) : ∃ h' ρ' e' mc ms, (BU h' ρ' n c0 c1 g0 g1 ∧ Rw h' ρ' (973 * 2 ^ e') ∧ (e' ≤ 6 ∧ e ≤ e' ∧ mc ≤ e' - e ∧ ms ≤ 62272 * (e' - e)) ∧ FrB h h') ∧ ∀ (Q : resP), Q none h' → ∀ b, Wp (Ex (d + 6)) 40 Q 38 [(1, .int b), (0, .ref 21)] [] h mc ms := by
  obtain ⟨h1, ρ', e', mc, ms, R1, ⟨G1, Rw1, x1, x2, x3, x4⟩, F1, f1, l1⟩ := sp_restart (d := d + 3) S P hRw he C.2.2.1.2.1 hNN
  have S1 := F1.S S
  obtain ⟨h', B', F', ee, hk⟩ := lp_bringA (d := d) (ρ := ρ') (n := n) (g0 := g0) (g1 := g1) (c0 := c0) (c1 := c1) Rw1.2.2 g0 0 0 h1 (by omega) (Or.inl rfl) (Nat.zero_le _) S1 F1.N (C.to F1) (bu_ini G1 f1 l1)
  refine ⟨h', ρ', e', mc, ms, ⟨B', ?_, ⟨x1, x2, x3, x4⟩, F1.tr F'⟩, ?_⟩
  · unfold Rw hR hK at Rw1 ⊢
    rw [ee]
    exact Rw1
  · intro Q hQ b
    have a1 := C.1.1
    refine r_aload_n (q40 (i := 18) rfl) rfl ?_
    refine r_aload_n (q40 (i := 19) rfl) rfl ?_
    refine r_getR (b := 3) (q40 (i := 20) rfl) rfl (by decide) (k_21 S) (fun _ _ _ => rfl) (r_21_0 S) ?_
    refine r_getI (x := nI n) (q40 (i := 21) rfl) rfl (by decide) (k_3 S) (fun _ _ _ => rfl) a1 ?_
    refine r_cV (d := _) (q40 (i := 22) rfl) rfl rfl rfl (k_21 S) (Nat.le_of_ble_eq_true rfl) (Nat.le_refl _) (Nat.le_refl _) R1 ?_
    show Wp _ _ _ 49 [(1, .int b), (0, .ref 21)] [] h1 _ _
    exact hk Q hQ _ _ _ rfl
set_option maxHeartbeats 2000000 in
set_option maxRecDepth 10000 in
theorem sp_bringUp {d : Nat} {h : hp} (S : Sh h) (P : Pt h) (hNN : 1327 ≤ hN h) {ρ e n g0 g1 : Nat} {c0 c1 : cir} (C : CB h n g0 g1 c0 c1) (D : CGr h ρ e n g0 g1 c0 c1) : ∃ h' ρ' e' mc ms, Run (d + 6 + 1) 40 [.ref 21] h mc ms none h' ∧ BU h' ρ' n c0 c1 g0 g1 ∧ Rw h' ρ' (973 * 2 ^ e') ∧ (e' ≤ 6 ∧ e ≤ e' ∧ mc ≤ e' - e ∧ ms ≤ 62272 * (e' - e)) ∧ FrB h h' := by
  obtain ⟨hRw, he, D⟩ := D
  by_cases hst : hI h 21 12 = 1
  · obtain ⟨h', ρ', e', mc, ms, P1, hk⟩ := bu_restart (d := d) S P hNN C hRw he
    refine ⟨h', ρ', e', mc, ms, ?_, P1⟩
    refine Run.of (Nat.le_of_ble_eq_true rfl) (fun Q hQ => ?_)
    refine bu_head S (fun b hb hbe => ?_)
    refine r_aload_n (q40 (i := 13) rfl) rfl ?_
    refine r_getI (x := 1) (q40 (i := 14) rfl) rfl (by decide) (k_21 S) (fun _ _ _ => rfl) hst ?_
    refine r_if 38 (q40 (i := 15) rfl) (by decide) (fun _ => ?_) (fun c => absurd (show ¬ (1 : Int32) = 0 from by decide) c)
    exact hk Q hQ b
  · obtain ⟨f, s, hf, hs, B⟩ := D.resolve_left hst
    have e12 := B.2.1.2.2
    have e10 := B.2.1.1
    have e11 := B.2.1.2.1
    have a3 := C.1.2.2.1
    have g120 := C.2.2.1.2.2
    by_cases ho : f < g0 ∧ 0 < s
    · obtain ⟨h', ρ', e', mc, ms, P1, hk⟩ := bu_restart (d := d) S P hNN C hRw he
      refine ⟨h', ρ', e', mc, ms, ?_, P1⟩
      refine Run.of (Nat.le_of_ble_eq_true rfl) (fun Q hQ => ?_)
      refine bu_head S (fun b hb hbe => ?_)
      have hb1 : ¬ b = 0 := fun z => (hbe.mp z) ⟨by rw [e10, a3]; exact nI_lt ho.1 (by omega), by rw [e11]; exact nI_lt (a := 0) ho.2 (by omega)⟩
      refine r_aload_n (q40 (i := 13) rfl) rfl ?_
      refine r_getI (x := 0) (q40 (i := 14) rfl) rfl (by decide) (k_21 S) (fun _ _ _ => rfl) e12 ?_
      refine r_if 38 (q40 (i := 15) rfl) (by decide) (fun c => absurd c (show ¬ (¬ (0 : Int32) = 0) from by decide)) (fun _ => ?_)
      refine r_iload_n (q40 (i := 16) rfl) rfl ?_
      refine r_if 49 (q40 (i := 17) rfl) (by decide) (fun c => absurd c (show ¬ (b = 0) from hb1)) (fun _ => ?_)
      exact hk Q hQ b
    · obtain ⟨h', B', F', ee, hk⟩ := lp_bringA (d := d) hRw.2.2 (g0 - f) f s h (by omega) (by omega) hs S hNN C B
      refine ⟨h', ρ, e, 0, 0, ?_, B', ?_, ⟨he, Nat.le_refl _, Nat.zero_le _, Nat.zero_le _⟩, F'⟩
      · refine Run.of (Nat.le_of_ble_eq_true rfl) (fun Q hQ => ?_)
        refine bu_head S (fun b hb hbe => ?_)
        have hb0 : b = 0 := hbe.mpr (fun z => ho ⟨by have := z.1; rw [e10, a3] at this; exact (nI_ltI (by omega) (by omega)).mp this, by have := z.2; rw [e11] at this; exact (nI_ltI (a := 0) (by decide) (by omega)).mp this⟩)
        refine r_aload_n (q40 (i := 13) rfl) rfl ?_
        refine r_getI (x := 0) (q40 (i := 14) rfl) rfl (by decide) (k_21 S) (fun _ _ _ => rfl) e12 ?_
        refine r_if 38 (q40 (i := 15) rfl) (by decide) (fun c => absurd c (show ¬ (¬ (0 : Int32) = 0) from by decide)) (fun _ => ?_)
        refine r_iload_n (q40 (i := 16) rfl) rfl ?_
        refine r_if 49 (q40 (i := 17) rfl) (by decide) (fun _ => ?_) (fun c => absurd (show b = 0 from hb0) c)
        exact hk Q hQ _ _ _ rfl
      · unfold Rw hR hK at hRw ⊢
        rw [ee]
        exact hRw
/-! ===== bits of LITERALS ===== -/
def lbit (T : Nat → Nat → Int64) (p w : Nat) : Bool := b64 (lw T p (w / 64)) (w % 64)
theorem one32 (b : Bool) : (if b then (1 : Int64) else 0).toInt32 = if b then 1 else 0 := by cases b <;> decide
set_option maxHeartbeats 2000000 in
set_option maxRecDepth 10000 in
theorem sp_bitOf {d : Nat} {h : hp} (S : Sh h) {ρ n rw : Nat} {γ : gs} (G : GC h ρ n rw γ) {p w : Nat} (hp : p < 2 * gC γ) (hw : w / 64 < rw) (hw2 : w < 4096) : Run (d + 1 + 1) 42 [.ref 21, .int (nI p), .int (nI w)] h 0 0 (some (.int (if lbit (gW γ) p w then 1 else 0))) h := by
  refine Run.of (Nat.le_of_ble_eq_true rfl) (fun Q hQ => ?_)
  show Wp (Ex (d + 1)) 42 Q 0 [(0, .ref 21), (1, .int (nI p)), (2, .int (nI w))] [] h 0 0
  refine r_aload_n (q42 (i := 0) rfl) rfl ?_
  refine r_iload_n (q42 (i := 1) rfl) rfl ?_
  refine r_iload_n (q42 (i := 2) rfl) rfl ?_
  refine r_bipush (v := 6) (q42 (i := 3) rfl) (by decide) ?_
  refine r_ishr (q42 (i := 4) rfl) ?_
  rw [show ((nI w) >>> (6 &&& 31) : Int32) = nI (w / 64) from shr6 (by omega)]
  refine r_cV (d := _) (q42 (i := 5) rfl) rfl rfl rfl (k_21 S) (Nat.le_of_ble_eq_true rfl) (Nat.zero_le _) (Nat.zero_le _) (sp_wordOf S G hp hw) ?_
  show Wp _ _ _ 9 [(0, .ref 21), (1, .int (nI p)), (2, .int (nI w))] [.long (lw (gW γ) p (w / 64))] h _ _
  refine r_iload_n (q42 (i := 6) rfl) rfl ?_
  refine r_bipush (v := 63) (q42 (i := 7) rfl) (by decide) ?_
  refine r_iand (q42 (i := 8) rfl) ?_
  rw [show ((nI w) &&& 63 : Int32) = nI (w % 64) from and63 (by omega)]
  refine r_lushr (q42 (i := 9) rfl) ?_
  refine r_lconst (v := 1) (q42 (i := 10) rfl) (by decide) ?_
  refine r_land (q42 (i := 11) rfl) ?_
  rw [show ((((lw (gW γ) p (w / 64)).toUInt64 >>> ((nI (w % 64)).toInt64.toUInt64 &&& Int64.toUInt64 63)).toInt64) &&& 1 : Int64) = (if lbit (gW γ) p w then 1 else 0 : Int64) from b64_ubit _ (by omega)]
  refine r_l2i (q42 (i := 12) rfl) ?_
  rw [show ((if lbit (gW γ) p w then 1 else 0 : Int64).toInt32 : Int32) = if lbit (gW γ) p w then 1 else 0 from one32 _]
  exact r_iret (q42 (i := 13) rfl) rfl hQ
set_option maxHeartbeats 2000000 in
set_option maxRecDepth 10000 in
theorem sp_isAnd {d : Nat} {h : hp} (S : Sh h) (x : Int32) : Run (d + 1) 41 [.ref 21, .int x] h 0 0 (some (.int (if x ≤ hI h 21 8 then 0 else if hI h 21 9 ≤ x then 0 else 1))) h := by
  refine Run.of (Nat.le_of_ble_eq_true rfl) (fun Q hQ => ?_)
  show Wp (Ex (d)) 41 Q 0 [(0, .ref 21), (1, .int x)] [] h 0 0
  refine r_iload_n (q41 (i := 0) rfl) rfl ?_
  refine r_aload_n (q41 (i := 1) rfl) rfl ?_
  refine r_getI (x := hI h 21 8) (q41 (i := 2) rfl) rfl (by decide) (k_21 S) (fun _ _ _ => rfl) rfl ?_
  refine r_icmp 20 (q41 (i := 3) rfl) (by decide) (fun c1 => ?_) (fun c1 => ?_)
  · have c1 : x ≤ hI h 21 8 := c1
    refine r_iconst (v := 0) (q41 (i := 10) rfl) (by decide) ?_
    exact r_zret (q41 (i := 11) rfl) rfl (by decide) (by simp_all)
  · have c1 : ¬ (x ≤ hI h 21 8) := c1
    refine r_iload_n (q41 (i := 4) rfl) rfl ?_
    refine r_aload_n (q41 (i := 5) rfl) rfl ?_
    refine r_getI (x := hI h 21 9) (q41 (i := 6) rfl) rfl (by decide) (k_21 S) (fun _ _ _ => rfl) rfl ?_
    refine r_icmp 20 (q41 (i := 7) rfl) (by decide) (fun c2 => ?_) (fun c2 => ?_)
    · have c2 : hI h 21 9 ≤ x := c2
      refine r_iconst (v := 0) (q41 (i := 10) rfl) (by decide) ?_
      exact r_zret (q41 (i := 11) rfl) rfl (by decide) (by simp_all)
    · have c2 : ¬ (hI h 21 9 ≤ x) := c2
      refine r_iconst (v := 1) (q41 (i := 8) rfl) (by decide) ?_
      refine r_goto 21 (q41 (i := 9) rfl) (by decide) ?_
      exact r_zret (q41 (i := 11) rfl) rfl (by decide) (by simp_all)
