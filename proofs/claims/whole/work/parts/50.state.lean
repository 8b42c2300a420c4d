/-! ===== the state, pure, and as the class holds it ===== -/
abbrev ck : Type := cir × Nat × (Nat → Int32) × Nat
abbrev swp : Type := Nat × Nat × Nat × Nat
abbrev st8 : Type := Nat × ck × ck × vs × ((Nat → Int32) × Nat) × Int32 × (Nat → Nat) × Option swp
abbrev zn (σ : st8) : Nat := σ.1
abbrev za (σ : st8) : ck := σ.2.1
abbrev zb (σ : st8) : ck := σ.2.2.1
abbrev zv (σ : st8) : vs := σ.2.2.2.1
abbrev zt (σ : st8) : (Nat → Int32) × Nat := σ.2.2.2.2.1
abbrev zp (σ : st8) : Int32 := σ.2.2.2.2.2.1
abbrev zr (σ : st8) : Nat → Nat := σ.2.2.2.2.2.2.1
abbrev zs (σ : st8) : Option swp := σ.2.2.2.2.2.2.2
abbrev zG (σ : st8) : gs := (gB (zn σ) (za σ).1 (zb σ).1 (za σ).2.1 (zb σ).2.1).1
abbrev z0 (σ : st8) : Nat → Nat := (gA (zn σ) (za σ).1 (za σ).2.1).2
abbrev z1 (σ : st8) : Nat → Nat := (gB (zn σ) (za σ).1 (zb σ).1 (za σ).2.1 (zb σ).2.1).2
def kok (n : Nat) (c : ck) : Prop := c.2.1 ≤ 120 ∧ c.2.2.2 ≤ 10 ∧ (∀ g, g < c.2.1 → cok n c.1 g) ∧ ∀ j, j < c.2.2.2 → pl (c.2.2.1 j) < nI (n + c.2.1)
def byo (B : Nat → Int32) : Prop := ∀ k, (B k).toInt8.toInt32 = B k
def zok (σ : st8) : Prop := (1 ≤ zn σ ∧ zn σ ≤ 12) ∧ kok (zn σ) (za σ) ∧ kok (zn σ) (zb σ) ∧ vok (zv σ) ∧ (zt σ).2 ≤ 3000 ∧ byo (zt σ).1
abbrev zBU (h : hp) (ρ : Nat) (σ : st8) : Prop := BU h ρ (zn σ) (za σ).1 (zb σ).1 (za σ).2.1 (zb σ).2.1
def GSt (h : hp) (ρ : Nat) (σ : st8) : Prop := hI h 2 11 = 0 ∨ (hI h 2 11 = 1 ∧ zBU h ρ σ ∧ LD h (gW (zG σ)) (zv σ).1 (gC (zG σ)))
def SSt (h : hp) (ρ : Nat) (σ : st8) : Prop := match zs σ with
  | none => hI h 2 12 = 0
  | some q => hI h 2 12 = 1 ∧ zBU h ρ σ ∧ hI h 30 2 = nI q.1 ∧ hI h 30 3 = nI q.2.1 ∧ hI h 30 4 = nI q.2.2.1 ∧ hI h 30 5 = nI q.2.2.2
def CI (h : hp) (ρ e : Nat) (σ : st8) : Prop := (Sh h ∧ Pt h ∧ 1327 ≤ hN h) ∧ (hI h 2 9 = nI (zn σ) ∧ hI h 2 10 = zp σ) ∧ (CH_3 h (za σ).1 (za σ).2.1 (za σ).2.2.1 (za σ).2.2.2 ∧ hI h 3 6 = nI (zn σ)) ∧ (CH_10 h (zb σ).1 (zb σ).2.1 (zb σ).2.2.1 (zb σ).2.2.2 ∧ hI h 10 6 = nI (zn σ)) ∧ VC h (2 ^ (zn σ - 6)) (zv σ) ∧ TC h (zt σ).1 (zt σ).2 ∧ (hI h 31 = fun k => nI (zr σ k)) ∧ CGr h ρ e (zn σ) (za σ).2.1 (zb σ).2.1 (za σ).1 (zb σ).1 ∧ GSt h ρ σ ∧ SSt h ρ σ
/-- what the class's methods leave as it was -/
def FC (h h' : hp) : Prop := (∀ k, (k = 0 ∨ (47 ≤ k ∧ k < 1327)) → hI h' k = hI h k ∧ hJ h' k = hJ h k) ∧ (∀ k, k < 1327 → hK h' k = hK h k) ∧ ∀ k j, k < 1327 → ¬ (k = 21 ∧ j = 6) → hR h' k j = hR h k j
theorem FC.rf (h : hp) : FC h h := ⟨fun _ _ => ⟨rfl, rfl⟩, fun _ _ => rfl, fun _ _ _ _ => rfl⟩
theorem FC.tr {h h' h'' : hp} (a : FC h h') (b : FC h' h'') : FC h h'' := ⟨fun k x => ⟨(b.1 k x).1.trans (a.1 k x).1, (b.1 k x).2.trans (a.1 k x).2⟩, fun k x => (b.2.1 k x).trans (a.2.1 k x), fun k j x y => (b.2.2 k j x y).trans (a.2.2 k j x y)⟩
theorem FC.w {h : hp} {a : Nat} (ha : 1 ≤ a ∧ a < 47) (i : Nat) (v : Int32) : FC h (sI h a i v) := ⟨fun k x => ⟨by
  show u2 h.1 a _ _ k = _
  rw [u2_n (by omega)], rfl⟩, fun _ _ => rfl, fun _ _ _ _ => rfl⟩
theorem FC.r {h : hp} {a : Nat} (ha : 1 ≤ a ∧ a < 47) (f : Nat → Int32) : FC h (rI h a f) := ⟨fun k x => ⟨by
  show u1 h.1 a _ k = _
  rw [u1_n (by omega)], rfl⟩, fun _ _ => rfl, fun _ _ _ _ => rfl⟩
theorem FC.rj {h : hp} {a : Nat} (ha : 1 ≤ a ∧ a < 47) (f : Nat → Int64) : FC h (rJ h a f) := ⟨fun k x => ⟨rfl, by
  show u1 h.2.1 a _ k = _
  rw [u1_n (by omega)]⟩, fun _ _ => rfl, fun _ _ _ _ => rfl⟩
theorem FrB.C {h h' : hp} (F : FrB h h') : FC h h' := ⟨fun k x => ⟨F.1 k (by omega) (by omega) (by omega) (by omega), F.2.1 k (by omega) (by omega)⟩, F.2.2.1, F.2.2.2.1⟩
theorem FC.of {h h' : hp} (e : h'.2.2 = h.2.2) (hi : ∀ k, (k = 0 ∨ 47 ≤ k) → hI h' k = hI h k) (hj : ∀ k, (k = 0 ∨ 47 ≤ k) → hJ h' k = hJ h k) : FC h h' := ⟨fun k x => ⟨hi k (by omega), hj k (by omega)⟩, fun k _ => by show h'.2.2.2.1 k = _; rw [e], fun k j _ _ => by show h'.2.2.1 k j = _; rw [e]⟩
theorem CI.B {h : hp} {ρ e : Nat} {σ : st8} (C : CI h ρ e σ) (Z : zok σ) : CB h (zn σ) (za σ).2.1 (zb σ).2.1 (za σ).1 (zb σ).1 := by
  obtain ⟨_, _, ⟨⟨a1, a2, a3, a4⟩, a5⟩, ⟨⟨b1, b2, b3, b4⟩, b5⟩, _⟩ := C
  obtain ⟨⟨x1, x2⟩, y, w, _⟩ := Z
  exact ⟨⟨a5, b5, a2, b2⟩, ⟨a1, b1⟩, ⟨x1, x2, y.1, w.1⟩, y.2.2.1, w.2.2.1⟩
theorem LD.to {h h' : hp} (e : ∀ k, 27 ≤ k → k ≤ 29 → hI h' k = hI h k) {T : Nat → Nat → Int64} {V : Nat → Int64} {m : Nat} (D : LD h T V m) : LD h' T V m := by
  unfold LD at *
  rw [e 27 (by decide) (by decide), e 28 (by decide) (by decide), e 29 (by decide) (by decide)]
  exact D
theorem VC.to {h h' : hp} (e : ∀ k, 17 ≤ k → k ≤ 20 → hI h' k = hI h k) (ej : hJ h' 19 = hJ h 19) {rw : Nat} {v : vs} (V : VC h rw v) : VC h' rw v := by
  unfold VC VS at *
  rw [e 17 (by decide) (by decide), e 18 (by decide) (by decide), e 20 (by decide) (by decide), ej]
  exact V
theorem CH_3.to {h h' : hp} (e : ∀ k, 3 ≤ k → k ≤ 8 → hI h' k = hI h k) {c : cir} {g : Nat} {w : Nat → Int32} {k : Nat} (C : CH_3 h c g w k) : CH_3 h' c g w k := by
  unfold CH_3 cirH at *
  rw [e 3 (by decide) (by decide), e (3 + 1) (by decide) (by decide), e (3 + 2) (by decide) (by decide), e (3 + 3) (by decide) (by decide), e (3 + 4) (by decide) (by decide), e 8 (by decide) (by decide)]
  exact C
theorem CH_10.to {h h' : hp} (e : ∀ k, 10 ≤ k → k ≤ 15 → hI h' k = hI h k) {c : cir} {g : Nat} {w : Nat → Int32} {k : Nat} (C : CH_10 h c g w k) : CH_10 h' c g w k := by
  unfold CH_10 cirH at *
  rw [e 10 (by decide) (by decide), e (10 + 1) (by decide) (by decide), e (10 + 2) (by decide) (by decide), e (10 + 3) (by decide) (by decide), e (10 + 4) (by decide) (by decide), e 15 (by decide) (by decide)]
  exact C
theorem BU.to {h h' : hp} {ρ n : Nat} {c0 c1 : cir} {f s : Nat} (e : ∀ k, k = 9 ∨ k = 16 ∨ (21 ≤ k ∧ k ≤ 25) → hI h' k = hI h k) (ej : hJ h' ρ = hJ h ρ) (e2 : h'.2.2 = h.2.2) (B : BU h ρ n c0 c1 f s) : BU h' ρ n c0 c1 f s := by
  unfold BU GC Rw hR hK at *
  rw [e2, e 9 (by decide), e 16 (by decide), e 21 (by decide), e 22 (by decide), e 23 (by decide), e 24 (by decide), e 25 (by decide), ej]
  exact B
theorem CGr.to {h h' : hp} {ρ e n g0 g1 : Nat} {c0 c1 : cir} (ei : ∀ k, k = 9 ∨ k = 16 ∨ (21 ≤ k ∧ k ≤ 25) → hI h' k = hI h k) (ej : hJ h' ρ = hJ h ρ) (e2 : h'.2.2 = h.2.2) (C : CGr h ρ e n g0 g1 c0 c1) : CGr h' ρ e n g0 g1 c0 c1 := by
  obtain ⟨a, b, c⟩ := C
  refine ⟨by unfold Rw hR hK at *; rw [e2]; exact a, b, ?_⟩
  rcases c with c | ⟨f, s, x, y, B⟩
  · exact Or.inl (by rw [ei 21 (by decide)]; exact c)
  · exact Or.inr ⟨f, s, x, y, B.to ei ej e2⟩
/-- a step of the class: its answer, the state behind it, what it cost -/
def CStep (j : Nat) (as : List Value) (h : hp) (e : Nat) (v : Int32) (σ' : st8) : Prop := ∃ h' ρ' e' mc ms, Run 8 j as h mc ms (some (.int v)) h' ∧ CI h' ρ' e' σ' ∧ (e ≤ e' ∧ e' ≤ 6 ∧ mc ≤ e' - e ∧ ms ≤ 62272 * (e' - e)) ∧ FC h h'
theorem CStep.of {j : Nat} {as : List Value} {h h' : hp} {ρ e : Nat} {v : Int32} {σ' : st8} (R : Run 8 j as h 0 0 (some (.int v)) h') (C : CI h' ρ e σ') (F : FC h h') : CStep j as h e v σ' := ⟨h', ρ, e, 0, 0, R, C, ⟨Nat.le_refl _, C.2.2.2.2.2.2.2.1.2.1, Nat.zero_le _, Nat.zero_le _⟩, F⟩
/-- the graph brought up -/
theorem CI.up {h : hp} {ρ e : Nat} {σ : st8} (C : CI h ρ e σ) (Z : zok σ) : ∃ h' ρ' e' mc ms, Run 7 40 [.ref 21] h mc ms none h' ∧ CI h' ρ' e' σ ∧ zBU h' ρ' σ ∧ (e ≤ e' ∧ e' ≤ 6 ∧ mc ≤ e' - e ∧ ms ≤ 62272 * (e' - e)) ∧ FrB h h' := by
  obtain ⟨h', ρ', e', mc, ms, R, B, W, ⟨x1, x2, x3, x4⟩, F⟩ := sp_bringUp (d := 0) C.1.1 C.1.2.1 C.1.2.2 (C.B Z) C.2.2.2.2.2.2.2.1
  have i : ∀ k, k ≠ 9 → k ≠ 16 → (k < 21 ∨ 25 < k) → k < 47 → hI h' k = hI h k := fun k a b c d => F.1 k a b c (by omega)
  refine ⟨h', ρ', e', mc, ms, R, ?_, B, ⟨x2, x1, x3, x4⟩, F⟩
  obtain ⟨c1, c2, c3, c4, c5, c6, c7, c8, c9, c10⟩ := C
  refine ⟨⟨F.S c1.1, F.P c1.2.1, F.N⟩, ?_, ⟨c3.1.to (fun k a b => i k (by omega) (by omega) (by omega) (by omega)), ?_⟩, ⟨c4.1.to (fun k a b => i k (by omega) (by omega) (by omega) (by omega)), ?_⟩, c5.to (fun k a b => i k (by omega) (by omega) (by omega) (by omega)) (F.2.1 19 (by decide) (by decide)), ?_, ?_, ⟨W, x1, Or.inr ⟨_, _, Nat.le_refl _, Nat.le_refl _, B⟩⟩, ?_, ?_⟩
  · rw [i 2 (by decide) (by decide) (by decide) (by decide)]; exact c2
  · rw [i 3 (by decide) (by decide) (by decide) (by decide)]; exact c3.2
  · rw [i 10 (by decide) (by decide) (by decide) (by decide)]; exact c4.2
  · unfold TC; rw [i 33 (by decide) (by decide) (by decide) (by decide), i 34 (by decide) (by decide) (by decide) (by decide)]; exact c6
  · rw [i 31 (by decide) (by decide) (by decide) (by decide)]; exact c7
  · rcases c9 with g | ⟨g1, g2, g3⟩
    · exact Or.inl (by rw [i 2 (by decide) (by decide) (by decide) (by decide)]; exact g)
    · exact Or.inr ⟨by rw [i 2 (by decide) (by decide) (by decide) (by decide)]; exact g1, B, g3.to (fun k a b => i k (by omega) (by omega) (by omega) (by omega))⟩
  · unfold SSt at *
    cases q : zs σ with
    | none =>
      rw [q] at c10
      show hI h' 2 12 = 0
      rw [i 2 (by decide) (by decide) (by decide) (by decide)]; exact c10
    | some w =>
      rw [q] at c10
      obtain ⟨y1, y2, y3⟩ := c10
      refine ⟨?_, B, ?_⟩
      · rw [i 2 (by decide) (by decide) (by decide) (by decide)]; exact y1
      · rw [i 30 (by decide) (by decide) (by decide) (by decide)]; exact y3
set_option maxHeartbeats 2000000 in
set_option maxRecDepth 10000 in
theorem sp_cat0 {d : Nat} {h : hp} (S : Sh h) : Run (d + 1) 96 [.ref 2, .int 0] h 0 0 (some (.ref 3)) h := by
  refine Run.of (Nat.le_of_ble_eq_true rfl) (fun Q hQ => ?_)
  show Wp (Ex (d)) 96 Q 0 [(0, .ref 2), (1, .int 0)] [] h 0 0
  refine r_iload_n (q96 (i := 0) rfl) rfl ?_
  refine r_if 9 (q96 (i := 1) rfl) (by decide) (fun zz => absurd zz (show ¬ (¬ (0 : Int32) = 0) from by decide)) (fun _ => ?_)
  refine r_aload_n (q96 (i := 2) rfl) rfl ?_
  refine r_getR (b := 3) (q96 (i := 3) rfl) rfl (by decide) (k_2 S) (fun _ _ _ => rfl) (r_2_0 S) ?_
  exact r_aret (q96 (i := 4) rfl) rfl hQ
set_option maxHeartbeats 2000000 in
set_option maxRecDepth 10000 in
theorem sp_cat1 {d : Nat} {h : hp} (S : Sh h) : Run (d + 1) 96 [.ref 2, .int 1] h 0 0 (some (.ref 10)) h := by
  refine Run.of (Nat.le_of_ble_eq_true rfl) (fun Q hQ => ?_)
  show Wp (Ex (d)) 96 Q 0 [(0, .ref 2), (1, .int 1)] [] h 0 0
  refine r_iload_n (q96 (i := 0) rfl) rfl ?_
  refine r_if 9 (q96 (i := 1) rfl) (by decide) (fun _ => ?_) (fun zz => absurd (show ¬ (1 : Int32) = 0 from by decide) zz)
  refine r_iload_n (q96 (i := 5) rfl) rfl ?_
  refine r_iconst (v := 1) (q96 (i := 6) rfl) (by decide) ?_
  refine r_icmp 21 (q96 (i := 7) rfl) (by decide) (fun zz => absurd zz (show ¬ (¬ (1 : Int32) = 1) from by decide)) (fun _ => ?_)
  refine r_aload_n (q96 (i := 8) rfl) rfl ?_
  refine r_getR (b := 10) (q96 (i := 9) rfl) rfl (by decide) (k_2 S) (fun _ _ _ => rfl) (r_2_1 S) ?_
  refine r_goto 22 (q96 (i := 10) rfl) (by decide) ?_
  exact r_aret (q96 (i := 12) rfl) rfl hQ
set_option maxHeartbeats 2000000 in
set_option maxRecDepth 10000 in
theorem sp_catN {d : Nat} {h : hp} {x : Int32} (h0 : x ≠ 0) (h1 : x ≠ 1) : Run (d + 1) 96 [.ref 2, .int x] h 0 0 (some .null) h := by
  refine Run.of (Nat.le_of_ble_eq_true rfl) (fun Q hQ => ?_)
  show Wp (Ex (d)) 96 Q 0 [(0, .ref 2), (1, .int x)] [] h 0 0
  refine r_iload_n (q96 (i := 0) rfl) rfl ?_
  refine r_if 9 (q96 (i := 1) rfl) (by decide) (fun _ => ?_) (fun zz => absurd (show ¬ x = 0 from h0) zz)
  refine r_iload_n (q96 (i := 5) rfl) rfl ?_
  refine r_iconst (v := 1) (q96 (i := 6) rfl) (by decide) ?_
  refine r_icmp 21 (q96 (i := 7) rfl) (by decide) (fun _ => ?_) (fun zz => absurd (show ¬ x = 1 from h1) zz)
  refine r_null (q96 (i := 11) rfl) ?_
  exact r_nret (q96 (i := 12) rfl) rfl hQ
def isw (n : Nat) (x : Int32) : Bool := decide (¬ x < 0 ∧ x < nI (2 ^ n))
theorem isw_t {n : Nat} {x : Int32} (hn : n ≤ 12) (h : isw n x = true) : ∃ w, w < 2 ^ n ∧ w < 4096 ∧ w / 64 < 2 ^ (n - 6) ∧ x = nI w := by
  have h := of_decide_eq_true h
  obtain ⟨w, hw, e⟩ := nI_of h.1
  have h2 := pow_le (a := n) (b := 12) hn
  have h3 : w < 2 ^ n := by
    have := h.2
    rw [e, nI_ltI hw (by omega)] at this
    exact this
  refine ⟨w, h3, by omega, ?_, e⟩
  by_cases h6 : 6 ≤ n
  · rw [wb_pw h6] at h3
    omega
  · have := pow_le (a := n) (b := 5) (by omega)
    have := Nat.two_pow_pos (n - 6)
    omega
theorem w_rw {n w : Nat} (hn : n ≤ 12) (h3 : w < 2 ^ n) : w / 64 < 2 ^ (n - 6) ∧ w < 4096 := by
  have h2 := pow_le (a := n) (b := 12) hn
  refine ⟨?_, by omega⟩
  by_cases h6 : 6 ≤ n
  · rw [wb_pw h6] at h3
    omega
  · have := pow_le (a := n) (b := 5) (by omega)
    have := Nat.two_pow_pos (n - 6)
    omega
theorem shl_n {n : Nat} (hn : n ≤ 12) : (1 : Int32) <<< (nI n &&& 31) = nI (2 ^ n) := by
  have h2 := pow_le (a := n) (b := 12) hn
  have := pk_shlN (n := 1) (nI n &&& 31) n (sh31 _ (by omega)) (by omega)
  rw [Nat.one_mul] at this
  exact this
set_option maxHeartbeats 2000000 in
set_option maxRecDepth 10000 in
theorem sp_isw {d : Nat} {h : hp} (S : Sh h) {n : Nat} (h9 : hI h 2 9 = nI n) (hn : n ≤ 12) (x : Int32) : Run (d + 1) 97 [.ref 2, .int x] h 0 0 (some (.int (if isw n x then 1 else 0))) h := by
  refine Run.of (Nat.le_of_ble_eq_true rfl) (fun Q hQ => ?_)
  show Wp (Ex d) 97 Q 0 [(0, .ref 2), (1, .int x)] [] h 0 0
  unfold isw at hQ
  by_cases g : x < 0
  · rw [decide_eq_false (fun y => y.1 g)] at hQ
    refine r_iload_n (q97 (i := 0) rfl) rfl ?_
    refine r_if 18 (q97 (i := 1) rfl) (by decide) (fun _ => ?_) (fun zz => absurd (show x < 0 from g) zz)
    refine r_iconst (v := 0) (q97 (i := 10) rfl) (by decide) ?_
    exact r_zret (q97 (i := 11) rfl) rfl (by decide) hQ
  · by_cases g2 : x < nI (2 ^ n)
    · rw [decide_eq_true ⟨g, g2⟩] at hQ
      refine r_iload_n (q97 (i := 0) rfl) rfl ?_
      refine r_if 18 (q97 (i := 1) rfl) (by decide) (fun zz => absurd zz (show ¬ (x < 0) from g)) (fun _ => ?_)
      refine r_iload_n (q97 (i := 2) rfl) rfl ?_
      refine r_iconst (v := 1) (q97 (i := 3) rfl) (by decide) ?_
      refine r_aload_n (q97 (i := 4) rfl) rfl ?_
      refine r_getI (x := nI n) (q97 (i := 5) rfl) rfl (by decide) (k_2 S) (fun _ _ _ => rfl) h9 ?_
      refine r_ishl (q97 (i := 6) rfl) ?_
      rw [show (1 <<< ((nI n) &&& 31) : Int32) = nI (2 ^ n) from shl_n hn]
      refine r_icmp 18 (q97 (i := 7) rfl) (by decide) (fun zz => absurd zz (show ¬ (nI (2 ^ n) ≤ x) from Int32.not_le.mpr g2)) (fun _ => ?_)
      refine r_iconst (v := 1) (q97 (i := 8) rfl) (by decide) ?_
      refine r_goto 19 (q97 (i := 9) rfl) (by decide) ?_
      exact r_zret (q97 (i := 11) rfl) rfl (by decide) hQ
    · rw [decide_eq_false (fun y => g2 y.2)] at hQ
      refine r_iload_n (q97 (i := 0) rfl) rfl ?_
      refine r_if 18 (q97 (i := 1) rfl) (by decide) (fun zz => absurd zz (show ¬ (x < 0) from g)) (fun _ => ?_)
      refine r_iload_n (q97 (i := 2) rfl) rfl ?_
      refine r_iconst (v := 1) (q97 (i := 3) rfl) (by decide) ?_
      refine r_aload_n (q97 (i := 4) rfl) rfl ?_
      refine r_getI (x := nI n) (q97 (i := 5) rfl) rfl (by decide) (k_2 S) (fun _ _ _ => rfl) h9 ?_
      refine r_ishl (q97 (i := 6) rfl) ?_
      rw [show (1 <<< ((nI n) &&& 31) : Int32) = nI (2 ^ n) from shl_n hn]
      refine r_icmp 18 (q97 (i := 7) rfl) (by decide) (fun _ => ?_) (fun zz => absurd (show nI (2 ^ n) ≤ x from Int32.not_lt.mp g2) zz)
      refine r_iconst (v := 0) (q97 (i := 10) rfl) (by decide) ?_
      exact r_zret (q97 (i := 11) rfl) rfl (by decide) hQ
def more (h : hp) : hp := sI (sI h 2 11 0) 2 12 0
def anew (h : hp) : hp := more (sI h 21 12 1)
theorem FC.more (h : hp) : FC h (more h) := (FC.w (by decide) _ _).tr (FC.w (by decide) _ _)
theorem FC.anew (h : hp) : FC h (anew h) := (FC.w (by decide) _ _).tr (FC.more _)
set_option maxHeartbeats 2000000 in
set_option maxRecDepth 10000 in
theorem sp_more {d : Nat} {h : hp} (S : Sh h) : Run (d + 1) 98 [.ref 2] h 0 0 none (more h) := by
  refine Run.of (Nat.le_of_ble_eq_true rfl) (fun Q hQ => ?_)
  show Wp (Ex (d)) 98 Q 0 [(0, .ref 2)] [] h 0 0
  refine r_aload_n (q98 (i := 0) rfl) rfl ?_
  refine r_iconst (v := 0) (q98 (i := 1) rfl) (by decide) ?_
  refine r_putZ (q98 (i := 2) rfl) rfl (by decide) (k_2 S) rfl rfl (by decide) ?_
  refine r_aload_n (q98 (i := 3) rfl) rfl ?_
  refine r_iconst (v := 0) (q98 (i := 4) rfl) (by decide) ?_
  refine r_putZ (q98 (i := 5) rfl) rfl (by decide) (k_2 S) rfl rfl (by decide) ?_
  exact r_vret (q98 (i := 6) rfl) rfl hQ
set_option maxHeartbeats 2000000 in
set_option maxRecDepth 10000 in
theorem sp_anew {d : Nat} {h : hp} (S : Sh h) : Run (d + 1 + 1) 99 [.ref 2] h 0 0 none (anew h) := by
  refine Run.of (Nat.le_of_ble_eq_true rfl) (fun Q hQ => ?_)
  show Wp (Ex (d + 1)) 99 Q 0 [(0, .ref 2)] [] h 0 0
  refine r_aload_n (q99 (i := 0) rfl) rfl ?_
  refine r_getR (b := 21) (q99 (i := 1) rfl) rfl (by decide) (k_2 S) (fun _ _ _ => rfl) (r_2_3 S) ?_
  refine r_iconst (v := 1) (q99 (i := 2) rfl) (by decide) ?_
  refine r_putZ (q99 (i := 3) rfl) rfl (by decide) (k_21 S) rfl rfl (by decide) ?_
  refine r_aload_n (q99 (i := 4) rfl) rfl ?_
  refine r_cV (d := _) (q99 (i := 5) rfl) rfl rfl rfl (k_2 S) (Nat.le_of_ble_eq_true rfl) (Nat.zero_le _) (Nat.zero_le _) (sp_more (S.to rfl)) ?_
  show Wp _ _ _ 12 [(0, .ref 2)] [] (more (sI h 21 12 1)) _ _
  exact r_vret (q99 (i := 6) rfl) rfl hQ
set_option maxHeartbeats 2000000 in
set_option maxRecDepth 10000 in
theorem sp_bug {h : hp} {ρ e : Nat} {σ : st8} (C : CI h ρ e σ) (B : zBU h ρ σ) : ∃ h', Run 7 100 [.ref 2] h 0 0 none h' ∧ CI h' ρ e σ ∧ zBU h' ρ σ ∧ LD h' (gW (zG σ)) (zv σ).1 (gC (zG σ)) ∧ FC h h' := by
  rcases id C.2.2.2.2.2.2.2.2.1 with g | ⟨g1, g2, g3⟩
  · obtain ⟨h1, R1, D1, F1⟩ := sp_find (d := 3) C.1.1 B.1 C.2.2.2.2.1.2.2.2
    have S1 := F1.S C.1.1
    have ej : hJ h1 = hJ h := by unfold hJ; rw [F1.1]
    have i : ∀ k, k < 27 ∨ 29 < k → hI h1 k = hI h k := F1.2
    have V1 := C.2.2.2.2.1.1
    rw [V1] at D1
    have B1 : zBU h1 ρ σ := B.to (fun k hk => i k (by omega)) (by rw [ej]) (by rw [F1.1])
    have BZ : zBU (sI h1 2 11 1) ρ σ := B1
    refine ⟨sI h1 2 11 1, ?_, ?_, BZ, D1, (FC.of (by rw [F1.1]) (fun k hk => i k (by omega)) (fun k _ => by rw [ej])).tr (FC.w (by decide) _ _)⟩
    · refine Run.of (d := 6) (Nat.le_of_ble_eq_true rfl) (fun Q hQ => ?_)
      show Wp (Ex 6) 100 Q 0 [(0, .ref 2)] [] h 0 0
      refine r_aload_n (q100 (i := 0) rfl) rfl ?_
      refine r_getI (x := 0) (q100 (i := 1) rfl) rfl (by decide) (k_2 C.1.1) (fun _ _ _ => rfl) g ?_
      refine r_if 27 (q100 (i := 2) rfl) (by decide) (fun zz => absurd zz (show ¬ (¬ (0 : Int32) = 0) from by decide)) (fun _ => ?_)
      refine r_aload_n (q100 (i := 3) rfl) rfl ?_
      refine r_getR (b := 27) (q100 (i := 4) rfl) rfl (by decide) (k_2 C.1.1) (fun _ _ _ => rfl) (r_2_4 C.1.1) ?_
      refine r_aload_n (q100 (i := 5) rfl) rfl ?_
      refine r_getR (b := 21) (q100 (i := 6) rfl) rfl (by decide) (k_2 C.1.1) (fun _ _ _ => rfl) (r_2_3 C.1.1) ?_
      refine r_aload_n (q100 (i := 7) rfl) rfl ?_
      refine r_getR (b := 17) (q100 (i := 8) rfl) rfl (by decide) (k_2 C.1.1) (fun _ _ _ => rfl) (r_2_2 C.1.1) ?_
      refine r_cV (d := _) (q100 (i := 9) rfl) rfl rfl rfl (k_27 C.1.1) (Nat.le_of_ble_eq_true rfl) (Nat.zero_le _) (Nat.zero_le _) R1 ?_
      show Wp _ _ _ 22 [(0, .ref 2)] [] h1 _ _
      refine r_aload_n (q100 (i := 10) rfl) rfl ?_
      refine r_iconst (v := 1) (q100 (i := 11) rfl) (by decide) ?_
      refine r_putZ (q100 (i := 12) rfl) rfl (by decide) (k_2 S1) rfl rfl (by decide) ?_
      exact r_vret (q100 (i := 13) rfl) rfl hQ
    · obtain ⟨c1, c2, c3, c4, c5, c6, c7, c8, c9, c10⟩ := C
      refine ⟨⟨S1.to rfl, ?_, by show 1327 ≤ h1.2.2.2.2; rw [F1.1]; exact c1.2.2⟩, ?_, ⟨(c3.1.to (h' := h1) (fun k a b => i k (by omega))), ?_⟩, ⟨(c4.1.to (h' := h1) (fun k a b => i k (by omega))), ?_⟩, c5.to (h' := h1) (fun k a b => i k (by omega)) (by rw [ej]), ?_, ?_, c8.to (h' := h1) (fun k hk => i k (by omega)) (by rw [ej]) (by rw [F1.1]), Or.inr ⟨rfl, BZ, D1⟩, ?_⟩
      · show hK h1 1 = _ ∧ hJ h1 1 = _
        unfold hK hJ
        rw [F1.1]
        exact c1.2.1
      · show hI h1 2 9 = _ ∧ hI h1 2 10 = _
        rw [i 2 (by decide)]; exact c2
      · show hI h1 3 6 = _
        rw [i 3 (by decide)]; exact c3.2
      · show hI h1 10 6 = _
        rw [i 10 (by decide)]; exact c4.2
      · show TC h1 _ _
        unfold TC
        rw [i 33 (by decide), i 34 (by decide)]; exact c6
      · show hI h1 31 = _
        rw [i 31 (by decide)]; exact c7
      · unfold SSt at *
        cases q : zs σ with
        | none =>
          rw [q] at c10
          show hI h1 2 12 = 0
          rw [i 2 (by decide)]; exact c10
        | some w =>
          rw [q] at c10
          obtain ⟨y1, y2, y3⟩ := c10
          refine ⟨?_, BZ, ?_⟩
          · show hI h1 2 12 = 1
            rw [i 2 (by decide)]; exact y1
          · show hI h1 30 2 = _ ∧ hI h1 30 3 = _ ∧ hI h1 30 4 = _ ∧ hI h1 30 5 = _
            rw [i 30 (by decide)]; exact y3
  · refine ⟨h, ?_, C, B, g3, FC.rf h⟩
    refine Run.of (d := 6) (Nat.le_of_ble_eq_true rfl) (fun Q hQ => ?_)
    show Wp (Ex 6) 100 Q 0 [(0, .ref 2)] [] h 0 0
    have S := C.1.1
    refine r_aload_n (q100 (i := 0) rfl) rfl ?_
    refine r_getI (x := 1) (q100 (i := 1) rfl) rfl (by decide) (k_2 S) (fun _ _ _ => rfl) g1 ?_
    refine r_if 27 (q100 (i := 2) rfl) (by decide) (fun _ => ?_) (fun zz => absurd (show ¬ (1 : Int32) = 0 from by decide) zz)
    exact r_vret (q100 (i := 13) rfl) rfl hQ
def both (k0 k1 : Nat) (x : Int32) : Bool := decide (¬ x < 0 ∧ x < nI k0 ∧ x < nI k1)
theorem both_t {k0 k1 : Nat} {x : Int32} (h0 : k0 ≤ 10) (h1 : k1 ≤ 10) (h : both k0 k1 x = true) : ∃ i, i < k0 ∧ i < k1 ∧ x = nI i := by
  have h := of_decide_eq_true h
  obtain ⟨w, hw, e⟩ := nI_of h.1
  refine ⟨w, ?_, ?_, e⟩
  · have := h.2.1
    rw [e, nI_ltI hw (by omega)] at this
    exact this
  · have := h.2.2
    rw [e, nI_ltI hw (by omega)] at this
    exact this
set_option maxHeartbeats 2000000 in
set_option maxRecDepth 10000 in
theorem sp_both {d : Nat} {h : hp} (S : Sh h) {k0 k1 : Nat} (e0 : hI h 3 8 = nI k0) (e1 : hI h 10 8 = nI k1) (x : Int32) : Run (d + 1) 101 [.ref 2, .int x] h 0 0 (some (.int (if both k0 k1 x then 1 else 0))) h := by
  refine Run.of (Nat.le_of_ble_eq_true rfl) (fun Q hQ => ?_)
  show Wp (Ex d) 101 Q 0 [(0, .ref 2), (1, .int x)] [] h 0 0
  unfold both at hQ
  by_cases g : x < 0
  · rw [decide_eq_false (fun y => y.1 g)] at hQ
    refine r_iload_n (q101 (i := 0) rfl) rfl ?_
    refine r_if 30 (q101 (i := 1) rfl) (by decide) (fun _ => ?_) (fun zz => absurd (show x < 0 from g) zz)
    refine r_iconst (v := 0) (q101 (i := 14) rfl) (by decide) ?_
    exact r_zret (q101 (i := 15) rfl) rfl (by decide) hQ
  · by_cases g2 : x < nI k0
    · by_cases g3 : x < nI k1
      · rw [decide_eq_true ⟨g, g2, g3⟩] at hQ
        refine r_iload_n (q101 (i := 0) rfl) rfl ?_
        refine r_if 30 (q101 (i := 1) rfl) (by decide) (fun zz => absurd zz (show ¬ (x < 0) from g)) (fun _ => ?_)
        refine r_iload_n (q101 (i := 2) rfl) rfl ?_
        refine r_aload_n (q101 (i := 3) rfl) rfl ?_
        refine r_getR (b := 3) (q101 (i := 4) rfl) rfl (by decide) (k_2 S) (fun _ _ _ => rfl) (r_2_0 S) ?_
        refine r_getI (x := nI k0) (q101 (i := 5) rfl) rfl (by decide) (k_3 S) (fun _ _ _ => rfl) e0 ?_
        refine r_icmp 30 (q101 (i := 6) rfl) (by decide) (fun zz => absurd zz (show ¬ (nI k0 ≤ x) from Int32.not_le.mpr g2)) (fun _ => ?_)
        refine r_iload_n (q101 (i := 7) rfl) rfl ?_
        refine r_aload_n (q101 (i := 8) rfl) rfl ?_
        refine r_getR (b := 10) (q101 (i := 9) rfl) rfl (by decide) (k_2 S) (fun _ _ _ => rfl) (r_2_1 S) ?_
        refine r_getI (x := nI k1) (q101 (i := 10) rfl) rfl (by decide) (k_10 S) (fun _ _ _ => rfl) e1 ?_
        refine r_icmp 30 (q101 (i := 11) rfl) (by decide) (fun zz => absurd zz (show ¬ (nI k1 ≤ x) from Int32.not_le.mpr g3)) (fun _ => ?_)
        refine r_iconst (v := 1) (q101 (i := 12) rfl) (by decide) ?_
        refine r_goto 31 (q101 (i := 13) rfl) (by decide) ?_
        exact r_zret (q101 (i := 15) rfl) rfl (by decide) hQ
      · rw [decide_eq_false (fun y => g3 y.2.2)] at hQ
        refine r_iload_n (q101 (i := 0) rfl) rfl ?_
        refine r_if 30 (q101 (i := 1) rfl) (by decide) (fun zz => absurd zz (show ¬ (x < 0) from g)) (fun _ => ?_)
        refine r_iload_n (q101 (i := 2) rfl) rfl ?_
        refine r_aload_n (q101 (i := 3) rfl) rfl ?_
        refine r_getR (b := 3) (q101 (i := 4) rfl) rfl (by decide) (k_2 S) (fun _ _ _ => rfl) (r_2_0 S) ?_
        refine r_getI (x := nI k0) (q101 (i := 5) rfl) rfl (by decide) (k_3 S) (fun _ _ _ => rfl) e0 ?_
        refine r_icmp 30 (q101 (i := 6) rfl) (by decide) (fun zz => absurd zz (show ¬ (nI k0 ≤ x) from Int32.not_le.mpr g2)) (fun _ => ?_)
        refine r_iload_n (q101 (i := 7) rfl) rfl ?_
        refine r_aload_n (q101 (i := 8) rfl) rfl ?_
        refine r_getR (b := 10) (q101 (i := 9) rfl) rfl (by decide) (k_2 S) (fun _ _ _ => rfl) (r_2_1 S) ?_
        refine r_getI (x := nI k1) (q101 (i := 10) rfl) rfl (by decide) (k_10 S) (fun _ _ _ => rfl) e1 ?_
        refine r_icmp 30 (q101 (i := 11) rfl) (by decide) (fun _ => ?_) (fun zz => absurd (show nI k1 ≤ x from Int32.not_lt.mp g3) zz)
        refine r_iconst (v := 0) (q101 (i := 14) rfl) (by decide) ?_
        exact r_zret (q101 (i := 15) rfl) rfl (by decide) hQ
    · rw [decide_eq_false (fun y => g2 y.2.1)] at hQ
      refine r_iload_n (q101 (i := 0) rfl) rfl ?_
      refine r_if 30 (q101 (i := 1) rfl) (by decide) (fun zz => absurd zz (show ¬ (x < 0) from g)) (fun _ => ?_)
      refine r_iload_n (q101 (i := 2) rfl) rfl ?_
      refine r_aload_n (q101 (i := 3) rfl) rfl ?_
      refine r_getR (b := 3) (q101 (i := 4) rfl) rfl (by decide) (k_2 S) (fun _ _ _ => rfl) (r_2_0 S) ?_
      refine r_getI (x := nI k0) (q101 (i := 5) rfl) rfl (by decide) (k_3 S) (fun _ _ _ => rfl) e0 ?_
      refine r_icmp 30 (q101 (i := 6) rfl) (by decide) (fun _ => ?_) (fun zz => absurd (show nI k0 ≤ x from Int32.not_lt.mp g2) zz)
      refine r_iconst (v := 0) (q101 (i := 14) rfl) (by decide) ?_
      exact r_zret (q101 (i := 15) rfl) rfl (by decide) hQ
theorem zlt0 {σ : st8} (Z : zok σ) {s : Int32} (hs : pl s < nI (zn σ + (za σ).2.1)) : sd (zn σ) (z0 σ) s < 2 * gC (zG σ) := by
  obtain ⟨⟨x1, x2⟩, y, w, _⟩ := Z
  have h1 := (gA_ok (f := (za σ).2.1) x2 y.1 y.2.2.1).1
  have h2 := gmk_ok (n := zn σ) (c := (zb σ).1) (st := ((gA (zn σ) (za σ).1 (za σ).2.1).1, fun _ => 0)) ⟨h1.1, fun i hi => absurd hi (Nat.not_lt_zero i)⟩ x2 (zb σ).2.1 w.1 w.2.2.1
  have h3 := sd_lt h1 (by have := y.1; omega) hs
  have h4 : gC (gA (zn σ) (za σ).1 (za σ).2.1).1 ≤ gC (zG σ) := h2.2.1
  exact Nat.lt_of_lt_of_le h3 (Nat.mul_le_mul_left 2 h4)
theorem zlt1 {σ : st8} (Z : zok σ) {s : Int32} (hs : pl s < nI (zn σ + (zb σ).2.1)) : sd (zn σ) (z1 σ) s < 2 * gC (zG σ) := by
  obtain ⟨⟨x1, x2⟩, y, w, _⟩ := Z
  exact sd_lt (gB_ok (s := (zb σ).2.1) x2 y.1 w.1 y.2.2.1 w.2.2.1).1 (by have := w.1; omega) hs
theorem zper {σ : st8} (Z : zok σ) : gper (zn σ) (zG σ) := by
  obtain ⟨⟨x1, x2⟩, y, w, _⟩ := Z
  exact gper_B x2 y.1 w.1 y.2.2.1 w.2.2.1
theorem zwf {σ : st8} (Z : zok σ) : gwf (zn σ) (zG σ) := by
  obtain ⟨⟨x1, x2⟩, y, w, _⟩ := Z
  exact (gB_ok (s := (zb σ).2.1) x2 y.1 w.1 y.2.2.1 w.2.2.1).1.1
theorem zl3 {h : hp} {ρ e : Nat} {σ : st8} (C : CI h ρ e σ) (Z : zok σ) (B : zBU h ρ σ) {d : Nat} {s : Int32} (hs : pl s < nI (zn σ + (za σ).2.1)) : Run (d + 2 + 1) 37 [.ref 3, .int s] h 0 0 (some (.int (nI (sd (zn σ) (z0 σ) s)))) h := by
  obtain ⟨⟨x1, x2⟩, y, w, _⟩ := Z
  have R := sp_literalOf_3 (d := d) C.1.1 (m := zn σ + (za σ).2.1) (by rw [C.2.2.1.2, C.2.2.1.1.2.1]; exact nI_add _ _) (by have := y.1; omega) s
  rw [litS_sd B.2.2.1 (Nat.le_refl _) (by have := y.1; omega) hs] at R
  exact R
theorem zl10 {h : hp} {ρ e : Nat} {σ : st8} (C : CI h ρ e σ) (Z : zok σ) (B : zBU h ρ σ) {d : Nat} {s : Int32} (hs : pl s < nI (zn σ + (zb σ).2.1)) : Run (d + 2 + 1) 37 [.ref 10, .int s] h 0 0 (some (.int (nI (sd (zn σ) (z1 σ) s)))) h := by
  obtain ⟨⟨x1, x2⟩, y, w, _⟩ := Z
  have R := sp_literalOf_10 (d := d) C.1.1 (m := zn σ + (zb σ).2.1) (by rw [C.2.2.2.1.2, C.2.2.2.1.1.2.1]; exact nI_add _ _) (by have := w.1; omega) s
  rw [litS_sd B.2.2.2 (Nat.le_refl _) (by have := w.1; omega) hs] at R
  exact R
/-- the first word that parts the OUTPUTs i -/
def wdo (σ : st8) (i : Nat) : Int32 := apt (gW (zG σ)) (sd (zn σ) (z0 σ) ((za σ).2.2.1 i)) (sd (zn σ) (z1 σ) ((zb σ).2.2.1 i)) (2 ^ zn σ)
set_option maxHeartbeats 2000000 in
set_option maxRecDepth 10000 in
theorem sp_fwo {d : Nat} {h : hp} {ρ e : Nat} {σ : st8} (C : CI h ρ e σ) (Z : zok σ) (B : zBU h ρ σ) {i : Nat} (h0 : i < (za σ).2.2.2) (h1 : i < (zb σ).2.2.2) : Run (d + 3 + 1) 102 [.ref 2, .int (nI i)] h 0 0 (some (.int (wdo σ i))) h := by
  have S := C.1.1
  have s0 := Z.2.1.2.2.2 i h0
  have s1 := Z.2.2.1.2.2.2 i h1
  have x0 := Z.2.1.2.1
  have x1 := Z.2.2.1.2.1
  have R1 := zl3 C Z B (d := d) s0
  have R2 := zl10 C Z B (d := d) s1
  have R3 := sp_fwa (d := d + 1) S B.1 (zlt0 Z s0) (zlt1 Z s1)
  rw [apt_per (zper Z) (zlt0 Z s0) (zlt1 Z s1)] at R3
  have w0 := C.2.2.1.1.2.2.1
  have w1 := C.2.2.2.1.1.2.2.1
  refine Run.of (Nat.le_of_ble_eq_true rfl) (fun Q hQ => ?_)
  show Wp (Ex (d + 3)) 102 Q 0 [(0, .ref 2), (1, .int (nI i))] [] h 0 0
  refine r_aload_n (q102 (i := 0) rfl) rfl ?_
  refine r_getR (b := 3) (q102 (i := 1) rfl) rfl (by decide) (k_2 S) (fun _ _ _ => rfl) (r_2_0 S) ?_
  refine r_aload_n (q102 (i := 2) rfl) rfl ?_
  refine r_getR (b := 3) (q102 (i := 3) rfl) rfl (by decide) (k_2 S) (fun _ _ _ => rfl) (r_2_0 S) ?_
  refine r_getR (b := 8) (q102 (i := 4) rfl) rfl (by decide) (k_3 S) (fun _ _ _ => rfl) (r_3_4 S) ?_
  refine r_iload_n (q102 (i := 5) rfl) rfl ?_
  refine r_iaN (x := (za σ).2.2.1 i) (q102 (i := 6) rfl) (k_8 S) (by omega) (by decide) (congrFun w0 i) ?_
  refine r_cV (d := _) (q102 (i := 7) rfl) rfl rfl rfl (k_3 S) (Nat.le_of_ble_eq_true rfl) (Nat.zero_le _) (Nat.zero_le _) R1 ?_
  show Wp _ _ _ 16 [(0, .ref 2), (1, .int (nI i))] [.int (nI (sd (zn σ) (z0 σ) ((za σ).2.2.1 i)))] h _ _
  refine r_istore_n (ls' := [(2, .int (nI (sd (zn σ) (z0 σ) ((za σ).2.2.1 i)))), (0, .ref 2), (1, .int (nI i))]) (q102 (i := 8) rfl) (Nat.le_of_ble_eq_true rfl) rfl ?_
  refine r_aload_n (q102 (i := 9) rfl) rfl ?_
  refine r_getR (b := 10) (q102 (i := 10) rfl) rfl (by decide) (k_2 S) (fun _ _ _ => rfl) (r_2_1 S) ?_
  refine r_aload_n (q102 (i := 11) rfl) rfl ?_
  refine r_getR (b := 10) (q102 (i := 12) rfl) rfl (by decide) (k_2 S) (fun _ _ _ => rfl) (r_2_1 S) ?_
  refine r_getR (b := 15) (q102 (i := 13) rfl) rfl (by decide) (k_10 S) (fun _ _ _ => rfl) (r_10_4 S) ?_
  refine r_iload_n (q102 (i := 14) rfl) rfl ?_
  refine r_iaN (x := (zb σ).2.2.1 i) (q102 (i := 15) rfl) (k_15 S) (by omega) (by decide) (congrFun w1 i) ?_
  refine r_cV (d := _) (q102 (i := 16) rfl) rfl rfl rfl (k_10 S) (Nat.le_of_ble_eq_true rfl) (Nat.zero_le _) (Nat.zero_le _) R2 ?_
  show Wp _ _ _ 33 [(2, .int (nI (sd (zn σ) (z0 σ) ((za σ).2.2.1 i)))), (0, .ref 2), (1, .int (nI i))] [.int (nI (sd (zn σ) (z1 σ) ((zb σ).2.2.1 i)))] h _ _
  refine r_istore_n (ls' := [(3, .int (nI (sd (zn σ) (z1 σ) ((zb σ).2.2.1 i)))), (2, .int (nI (sd (zn σ) (z0 σ) ((za σ).2.2.1 i)))), (0, .ref 2), (1, .int (nI i))]) (q102 (i := 17) rfl) (Nat.le_of_ble_eq_true rfl) rfl ?_
  refine r_aload_n (q102 (i := 18) rfl) rfl ?_
  refine r_getR (b := 21) (q102 (i := 19) rfl) rfl (by decide) (k_2 S) (fun _ _ _ => rfl) (r_2_3 S) ?_
  refine r_iload_n (q102 (i := 20) rfl) rfl ?_
  refine r_iload_n (q102 (i := 21) rfl) rfl ?_
  refine r_cV (d := _) (q102 (i := 22) rfl) rfl rfl rfl (k_21 S) (Nat.le_of_ble_eq_true rfl) (Nat.zero_le _) (Nat.zero_le _) R3 ?_
  show Wp _ _ _ 43 [(3, .int (nI (sd (zn σ) (z1 σ) ((zb σ).2.2.1 i)))), (2, .int (nI (sd (zn σ) (z0 σ) ((za σ).2.2.1 i)))), (0, .ref 2), (1, .int (nI i))] [.int (wdo σ i)] h _ _
  exact r_iret (q102 (i := 23) rfl) rfl hQ
