/-! ===== the VECTORS, pure ===== -/
abbrev vs : Type := (Nat → Int64) × (Nat → Int32) × Nat
def vadd (v : vs) (w : Nat) : vs := (u1 v.1 (w / 64) (v.1 (w / 64) ||| 1 <<< ((nI (w % 64)).toInt64 &&& 63)), u1 v.2.1 v.2.2 (nI w), v.2.2 + 1)
def vok (v : vs) : Prop := cntB (inV v.1) 4096 = v.2.2
theorem cntB_same {f g : Nat → Bool} : ∀ m, (∀ i, i < m → g i = f i) → cntB g m = cntB f m
  | 0, _ => rfl
  | m + 1, h => by
    show cntB g m + (if g m then 1 else 0) = cntB f m + (if f m then 1 else 0)
    rw [cntB_same m (fun i hi => h i (by omega)), h m (by omega)]
theorem cntB_upd {f g : Nat → Bool} {w : Nat} (hw : f w = false) (hg : g w = true) (ho : ∀ i, i ≠ w → g i = f i) : ∀ m, w < m → cntB g m = cntB f m + 1
  | 0, h => absurd h (Nat.not_lt_zero w)
  | m + 1, h => by
    show cntB g m + (if g m then 1 else 0) = cntB f m + (if f m then 1 else 0) + 1
    by_cases q : w = m
    · subst q
      rw [cntB_same w (fun i hi => ho i (by omega)), hw, hg]
      rfl
    · rw [cntB_upd hw hg ho m (by omega), ho m (fun z => q z.symm)]
      omega
theorem cntB_free {f : Nat → Bool} {w : Nat} (hw : f w = false) : ∀ m, w < m → cntB f m < m
  | 0, h => absurd h (Nat.not_lt_zero w)
  | m + 1, h => by
    show cntB f m + (if f m then 1 else 0) < m + 1
    by_cases q : w = m
    · subst q
      rw [hw]
      have := cntB_le f w
      show cntB f w + 0 < w + 1
      omega
    · have := cntB_free hw m (by omega)
      split <;> omega
theorem inV_add (v : vs) (w i : Nat) : inV (vadd v w).1 i = (inV v.1 i || decide (i = w)) := by
  unfold inV vadd
  show b64 (u1 v.1 (w / 64) _ (i / 64)) (i % 64) = _
  by_cases q : i / 64 = w / 64
  · rw [q, u1_s, b64_or, b64_shl1 (by omega) (by omega)]
    by_cases z : i % 64 = w % 64
    · rw [decide_eq_true z, decide_eq_true (show i = w by omega)]
    · rw [decide_eq_false z, decide_eq_false (show ¬ i = w by omega)]
  · rw [u1_n q, decide_eq_false (show ¬ i = w by intro e; exact q (by rw [e])), Bool.or_false]
theorem vok_lt {v : vs} (V : vok v) {w : Nat} (hw : w < 4096) (hi : inV v.1 w = false) : v.2.2 < 4096 := by
  rw [← V]
  exact cntB_free hi 4096 hw
theorem vok_add {v : vs} (V : vok v) {w : Nat} (hw : w < 4096) (hi : inV v.1 w = false) : vok (vadd v w) := by
  show cntB (inV (vadd v w).1) 4096 = v.2.2 + 1
  rw [cntB_upd (f := inV v.1) (w := w) hi (by rw [inV_add, decide_eq_true rfl, Bool.or_true]) (fun i hne => by rw [inV_add, decide_eq_false hne, Bool.or_false]) 4096 hw, V]
def nz (V : Nat → Int64) (i : Nat) : Bool := decide (V i ≠ 0)
/-- the class's VectorSet holds v -/
def VC (h : hp) (rw : Nat) (v : vs) : Prop := hJ h 19 = v.1 ∧ hI h 18 = v.2.1 ∧ hI h 17 4 = nI v.2.2 ∧ VS h rw (cntB (nz v.1) 64)
def FrV (h h' : hp) : Prop := h'.2.2 = h.2.2 ∧ (∀ k, k ≠ 17 → k ≠ 18 → k ≠ 20 → hI h' k = hI h k) ∧ ∀ k, k ≠ 19 → hJ h' k = hJ h k
theorem orbit_ne {x : Int64} {k : Nat} (hk : k < 64) : x ||| 1 <<< ((nI k).toInt64 &&& 63) ≠ 0 := fun e => by
  have : b64 (x ||| 1 <<< ((nI k).toInt64 &&& 63)) k = false := by rw [e, b64_0]
  rw [b64_or, b64_shl1 hk hk, decide_eq_true rfl, Bool.or_true] at this
  exact absurd this (by decide)
theorem VC_add {h : hp} {rw : Nat} {v : vs} (C : VC h rw v) {w : Nat} (hw : w < 4096) (hr : w / 64 < rw) : VC (addV h w (cntB (nz v.1) 64) v.2.2) rw (vadd v w) ∧ FrV h (addV h w (cntB (nz v.1) 64) v.2.2) := by
  obtain ⟨c1, c2, c3, c4, c5, c6, c7⟩ := C
  have hk : w % 64 < 64 := Nat.mod_lt _ (by decide)
  have hw6 : w / 64 < 64 := by omega
  have hnz : nz (vadd v w).1 (w / 64) = true := by
    unfold nz vadd
    show decide (u1 v.1 (w / 64) _ (w / 64) ≠ 0) = true
    rw [u1_s]
    exact decide_eq_true (orbit_ne hk)
  have hno : ∀ i, i ≠ w / 64 → nz (vadd v w).1 i = nz v.1 i := fun i hi => by
    unfold nz vadd
    show decide (u1 v.1 (w / 64) _ i ≠ 0) = _
    rw [u1_n hi]
  by_cases z : hJ h 19 (w / 64) = 0
  · have z' : nz v.1 (w / 64) = false := by unfold nz; rw [← c1]; exact decide_eq_false (fun q => q z)
    have hc := cntB_upd (f := nz v.1) (g := nz (vadd v w).1) z' hnz hno 64 hw6
    have hlt := cntB_free z' 64 hw6
    have e : addV h w (cntB (nz v.1) 64) v.2.2 = sI (sI (sJ (sI (sI h 20 (cntB (nz v.1) 64) (nI (w / 64))) 17 3 (nI (cntB (nz v.1) 64 + 1))) 19 (w / 64) (hJ h 19 (w / 64) ||| 1 <<< ((nI (w % 64)).toInt64 &&& 63))) 18 v.2.2 (nI w)) 17 4 (nI (v.2.2 + 1)) := by
      unfold addV; rw [if_pos z]
    rw [e]
    refine ⟨⟨?_, ?_, ?_, ?_⟩, rfl, fun k a b c => ?_, fun k a => ?_⟩
    · show u1 (hJ h 19) (w / 64) (hJ h 19 (w / 64) ||| _) = _
      rw [c1]; rfl
    · show u1 (hI h 18) v.2.2 (nI w) = _
      rw [c2]; rfl
    · rfl
    · rw [hc]
      refine ⟨rfl, by omega, fun k hk2 => ?_, fun i hi hne => ?_⟩
      · show ∃ w', w' < rw ∧ u1 (hI h 20) (cntB (nz v.1) 64) (nI (w / 64)) k = nI w'
        by_cases q : k = cntB (nz v.1) 64
        · exact ⟨w / 64, hr, by rw [q, u1_s]⟩
        · obtain ⟨w', a, b⟩ := c6 k (by omega)
          exact ⟨w', a, by rw [u1_n q]; exact b⟩
      · show ∃ k, k < cntB (nz v.1) 64 + 1 ∧ u1 (hI h 20) (cntB (nz v.1) 64) (nI (w / 64)) k = nI i
        by_cases q : i = w / 64
        · exact ⟨cntB (nz v.1) 64, by omega, by rw [u1_s, q]⟩
        · have : u1 (hJ h 19) (w / 64) (hJ h 19 (w / 64) ||| 1 <<< ((nI (w % 64)).toInt64 &&& 63)) i ≠ 0 := hne
          rw [u1_n q] at this
          obtain ⟨k, a, b⟩ := c7 i hi this
          exact ⟨k, by omega, by rw [u1_n (by omega)]; exact b⟩
    · show u2 (u2 (u2 (u2 h.1 20 _ _) 17 _ _) 18 _ _) 17 _ _ k = _
      rw [u2_n a, u2_n b, u2_n a, u2_n c]
    · show u2 h.2.1 19 _ _ k = _
      rw [u2_n a]
  · have z' : nz v.1 (w / 64) = true := by unfold nz; rw [← c1]; exact decide_eq_true z
    have hc : cntB (nz (vadd v w).1) 64 = cntB (nz v.1) 64 := cntB_same 64 (fun i _ => by
      by_cases q : i = w / 64
      · rw [q, hnz, z']
      · exact hno i q)
    have e : addV h w (cntB (nz v.1) 64) v.2.2 = sI (sI (sJ h 19 (w / 64) (hJ h 19 (w / 64) ||| 1 <<< ((nI (w % 64)).toInt64 &&& 63))) 18 v.2.2 (nI w)) 17 4 (nI (v.2.2 + 1)) := by
      unfold addV; rw [if_neg z]
    rw [e]
    refine ⟨⟨?_, ?_, ?_, ?_⟩, rfl, fun k a b c => ?_, fun k a => ?_⟩
    · show u1 (hJ h 19) (w / 64) (hJ h 19 (w / 64) ||| _) = _
      rw [c1]; rfl
    · show u1 (hI h 18) v.2.2 (nI w) = _
      rw [c2]; rfl
    · rfl
    · rw [hc]
      refine ⟨c4, c5, c6, fun i hi hne => ?_⟩
      by_cases q : i = w / 64
      · exact c7 i hi (by rw [q]; exact z)
      · have : u1 (hJ h 19) (w / 64) (hJ h 19 (w / 64) ||| 1 <<< ((nI (w % 64)).toInt64 &&& 63)) i ≠ 0 := hne
        rw [u1_n q] at this
        exact c7 i hi this
    · show u2 (u2 h.1 18 _ _) 17 _ _ k = _
      rw [u2_n a, u2_n b]
    · show u2 h.2.1 19 _ _ k = _
      rw [u2_n a]
theorem sp_addC {d : Nat} {h : hp} (S : Sh h) {rw : Nat} {v : vs} (C : VC h rw v) (K : vok v) {w : Nat} (hw : w < 4096) (hi : inV v.1 w = false) : Run (d + 1 + 1) 73 [.ref 17, .int (nI w)] h 0 0 none (addV h w (cntB (nz v.1) 64) v.2.2) := by
  obtain ⟨c1, c2, c3, c4, c5, c6, c7⟩ := C
  refine sp_add S hw c3 (vok_lt K hw hi) c4 (fun z => ?_) (by rw [c1]; exact hi)
  rw [c1] at z
  exact cntB_free (show nz v.1 (w / 64) = false from decide_eq_false (fun q => q z)) 64 (by omega)
/-! ===== a question ===== -/
abbrev sst : Type := vs × Nat × Nat
/-- the least INPUT WORD that parts p from the node x, 2 ^ n if none does -/
def wdp (T : Nat → Nat → Int64) (n p x : Nat) : Nat := lst (dif T p (2 * x)) (2 ^ n)
noncomputable def pP (T : Nat → Nat → Int64) (V : Nat → Int64) (c x : Nat) : Nat := if lik T V c x = 2 then 2 * c + 1 else 2 * c
noncomputable def askT (T : Nat → Nat → Int64) (n c x : Nat) : Nat → sst → Option Nat × sst
  | 0, s => (none, s)
  | m + 1, s => if lik T s.1.1 c x = 0 then (none, s) else if wdp T n (pP T s.1.1 c x) x = 2 ^ n then (some (pP T s.1.1 c x), (s.1, s.2.1, s.2.2 + 1)) else askT T n c x m (vadd s.1 (wdp T n (pP T s.1.1 c x) x), s.2.1 + 1, s.2.2 + 1)
def oO : Option Nat → Int32
  | none => -1
  | some p => nI p
theorem pP_le (T : Nat → Nat → Int64) (V : Nat → Int64) (c x : Nat) : pP T V c x ≤ 2 * c + 1 := by unfold pP; split <;> omega
theorem wdp_lt (T : Nat → Nat → Int64) (n p x : Nat) (h : wdp T n p x ≠ 2 ^ n) : wdp T n p x < 2 ^ n ∧ dif T p (2 * x) (wdp T n p x) = true := by
  obtain ⟨a, b, c⟩ := lst_facts (dif T p (2 * x)) (2 ^ n)
  have : wdp T n p x < 2 ^ n := by unfold wdp at *; omega
  exact ⟨this, c this⟩
theorem b64_z {T : Nat → Nat → Int64} {V : Nat → Int64} {c x w i : Nat} : b64 (dV T V c x w) i = ((b64 (T c w) i ^^ b64 (T x w) i) && b64 (V w) i) := by unfold dV; rw [b64_and, b64_xor]
theorem lbit_e (T : Nat → Nat → Int64) (c w : Nat) : lbit T (2 * c) w = b64 (T c (w / 64)) (w % 64) := by
  unfold lbit lw
  rw [if_pos (by omega), show 2 * c / 2 = c by omega]
theorem lbit_o (T : Nat → Nat → Int64) (c w : Nat) : lbit T (2 * c + 1) w = !b64 (T c (w / 64)) (w % 64) := by
  unfold lbit lw
  rw [if_neg (by omega), show (2 * c + 1) / 2 = c by omega, b64_not _ (Nat.mod_lt _ (by decide))]
theorem lik_two {T : Nat → Nat → Int64} {V : Nat → Int64} {x y : Nat} (h : lik T V x y = 2) : ∀ w, w < 64 → dV T V x y w = V w := by
  unfold lik at h
  split at h
  · exact absurd h (by decide)
  · split at h
    · assumption
    · exact absurd h (by decide)
theorem lik_one {T : Nat → Nat → Int64} {V : Nat → Int64} {x y : Nat} (h : lik T V x y ≠ 0) (h2 : lik T V x y ≠ 2) : ∀ w, w < 64 → dV T V x y w = 0 := by
  unfold lik at h h2
  split at h
  · assumption
  · split at h
    · rename_i a b
      rw [if_neg a, if_pos b] at h2
      exact absurd rfl h2
    · exact absurd rfl h
/-- what parts two nodes that are LIKE each other isn't a VECTOR yet -/
theorem ask_new {T : Nat → Nat → Int64} {V : Nat → Int64} {c x w : Nat} (hl : lik T V c x ≠ 0) (hd : dif T (pP T V c x) (2 * x) w = true) (hw : w / 64 < 64) : inV V w = false := by
  unfold dif at hd
  rw [lbit_e] at hd
  unfold inV
  by_cases q : lik T V c x = 2
  · have e := b64_z (T := T) (V := V) (c := c) (x := x) (w := w / 64) (i := w % 64)
    rw [lik_two q _ hw] at e
    unfold pP at hd
    rw [if_pos q, lbit_o] at hd
    rw [e]
    revert hd
    cases b64 (T c (w / 64)) (w % 64) <;> cases b64 (T x (w / 64)) (w % 64) <;> cases b64 (V (w / 64)) (w % 64) <;> simp_all
  · have e := b64_z (T := T) (V := V) (c := c) (x := x) (w := w / 64) (i := w % 64)
    rw [lik_one hl q _ hw, b64_0] at e
    unfold pP at hd
    rw [if_neg q, lbit_e] at hd
    revert hd e
    cases b64 (T c (w / 64)) (w % 64) <;> cases b64 (T x (w / 64)) (w % 64) <;> cases b64 (V (w / 64)) (w % 64) <;> simp
/-- the class's Sweeper and VECTORS hold s -/
def SW (h : hp) (rw : Nat) (s : sst) : Prop := VC h rw s.1 ∧ hI h 30 2 = nI s.2.1 ∧ hI h 30 3 = nI s.2.2 ∧ vok s.1
def FrS (h h' : hp) : Prop := h'.2.2 = h.2.2 ∧ (∀ k, k ≠ 17 → k ≠ 18 → k ≠ 20 → k ≠ 30 → hI h' k = hI h k) ∧ (∀ k, k ≠ 19 → hJ h' k = hJ h k) ∧ ∀ k, k ≠ 2 → k ≠ 3 → hI h' 30 k = hI h 30 k
theorem FrS.rf (h : hp) : FrS h h := ⟨rfl, fun _ _ _ _ _ => rfl, fun _ _ => rfl, fun _ _ _ => rfl⟩
theorem FrS.tr {h h' h'' : hp} (a : FrS h h') (b : FrS h' h'') : FrS h h'' := ⟨b.1.trans a.1, fun k x y z t => (b.2.1 k x y z t).trans (a.2.1 k x y z t), fun k x => (b.2.2.1 k x).trans (a.2.2.1 k x), fun k x y => (b.2.2.2 k x y).trans (a.2.2.2 k x y)⟩
theorem FrS.S {h h' : hp} (F : FrS h h') (S : Sh h) : Sh h' := S.to F.1
theorem FrS.G {h h' : hp} (F : FrS h h') {ρ n rw : Nat} {γ : gs} (hρ : ρ ≠ 19) (G : GC h ρ n rw γ) : GC h' ρ n rw γ := by
  obtain ⟨h2, hi, hj, _⟩ := F
  unfold GC Rw hR hK at *
  rw [h2, hi 21 (by decide) (by decide) (by decide) (by decide), hi 22 (by decide) (by decide) (by decide) (by decide), hi 23 (by decide) (by decide) (by decide) (by decide), hi 24 (by decide) (by decide) (by decide) (by decide), hi 25 (by decide) (by decide) (by decide) (by decide), hj ρ hρ]
  exact G
theorem lik012 (T : Nat → Nat → Int64) (V : Nat → Int64) (x y : Nat) : lik T V x y = 0 ∨ lik T V x y = 1 ∨ lik T V x y = 2 := by
  unfold lik
  split
  · exact Or.inr (Or.inl rfl)
  · split
    · exact Or.inr (Or.inr rfl)
    · exact Or.inl rfl
theorem apt_no {T : Nat → Nat → Int64} {p q m : Nat} (h : lst (dif T p q) m = m) : apt T p q m = -1 := if_neg (by rw [h]; exact Nat.lt_irrefl m)
theorem apt_is {T : Nat → Nat → Int64} {p q m : Nat} (h : lst (dif T p q) m < m) : apt T p q m = nI (lst (dif T p q) m) := if_pos h
theorem nI_mul (a b : Nat) : nI a * nI b = nI (a * b) := Int32.toBitVec_inj.mp (by
  show BitVec.ofNat 32 a * BitVec.ofNat 32 b = BitVec.ofNat 32 (a * b)
  exact (BitVec.ofNat_mul a b).symm)
theorem nI_ne1 {a : Nat} (h : a < 2 ^ 31) : ¬ nI a = -1 := fun z => by
  have e : nI a = nI (2 ^ 32 - 1) := z
  have : (nI a).toBitVec = (nI (2 ^ 32 - 1)).toBitVec := by rw [e]
  have h2 : BitVec.ofNat 32 a = BitVec.ofNat 32 (2 ^ 32 - 1) := this
  have h3 := congrArg BitVec.toNat h2
  rw [BitVec.toNat_ofNat, BitVec.toNat_ofNat] at h3
  omega
set_option maxHeartbeats 2000000 in
set_option maxRecDepth 10000 in
theorem ask_53 {d : Nat} {ρ n rw : Nat} {γ : gs} (hρ : ρ ≠ 19) (Pz : ∀ p q, p < 2 * gC γ → q < 2 * gC γ → apt (gW γ) p q (64 * rw) = apt (gW γ) p q (2 ^ n)) (hrw : ∀ w, w < 2 ^ n → w / 64 < rw ∧ w < 4096) {c x : Nat} (hc : c < x) (hx : x < gC γ) {h : hp} (S : Sh h) (G : GC h ρ n rw γ) {s : sst} (W : SW h rw s) {p t : Nat} (hp : p < 2 * gC γ) (hn : wdp (gW γ) n p x < 2 ^ n → inV s.1.1 (wdp (gW γ) n p x) = false) {Q : resP} {bc bs : Nat} (h1 : wdp (gW γ) n p x = 2 ^ n → Q (some (.int (nI p))) h) (h2 : wdp (gW γ) n p x < 2 ^ n → ∀ ls : List (Nat × Value), ls.lookup 5 = some (.int (nI (t + 1))) → ls.lookup 0 = some (.ref 30) → ls.lookup 1 = some (.int (nI c)) → ls.lookup 2 = some (.int (nI x)) → ls.lookup 3 = some (.ref 21) → ls.lookup 4 = some (.ref 17) → Wp (Ex (d + 2)) 62 Q 3 ls [] (sI (addV h (wdp (gW γ) n p x) (cntB (nz s.1.1) 64) s.1.2.2) 30 2 (nI (s.2.1 + 1))) bc bs) (ls : List (Nat × Value)) (l5 : ls.lookup 5 = some (.int (nI t))) (l0 : ls.lookup 0 = some (.ref 30)) (l1 : ls.lookup 1 = some (.int (nI c))) (l2 : ls.lookup 2 = some (.int (nI x))) (l3 : ls.lookup 3 = some (.ref 21)) (l4 : ls.lookup 4 = some (.ref 17)) : Wp (Ex (d + 2)) 62 Q 53 ls [.int (nI p)] h bc bs := by
  have hc9 := G.2.1.2.2.2
  obtain ⟨VCh, w2, w3, w4⟩ := W
  have R1 := sp_fwa (d := d) S G hp (show 2 * x < 2 * gC γ by omega)
  rw [Pz p (2 * x) hp (by omega)] at R1
  have hle := (lst_facts (dif (gW γ) p (2 * x)) (2 ^ n)).1
  by_cases hz : wdp (gW γ) n p x = 2 ^ n
  · have ea := apt_no (T := gW γ) (p := p) (q := 2 * x) hz
    have hQ := h1 hz
    rw [ea] at R1
    refine r_istore (q62 (i := 33) rfl) (Nat.le_of_ble_eq_true rfl) rfl ?_
    have l5 := lk1 (k := 7) (v := .int (nI p)) l5 (by decide) (Or.inr (by decide))
    have l0 := lk1 (k := 7) (v := .int (nI p)) l0 (by decide) (Or.inr (by decide))
    have l1 := lk1 (k := 7) (v := .int (nI p)) l1 (by decide) (Or.inr (by decide))
    have l2 := lk1 (k := 7) (v := .int (nI p)) l2 (by decide) (Or.inr (by decide))
    have l3 := lk1 (k := 7) (v := .int (nI p)) l3 (by decide) (Or.inr (by decide))
    have l4 := lk1 (k := 7) (v := .int (nI p)) l4 (by decide) (Or.inr (by decide))
    have l7 := lk0 ls 7 (.int (nI p))
    generalize lset1 ls 7 (.int (nI p)) = ls at l7 l5 l0 l1 l2 l3 l4 ⊢
    refine r_aload_n (q62 (i := 34) rfl) l3 ?_
    refine r_iload (q62 (i := 35) rfl) l7 ?_
    refine r_iconst (v := 2) (q62 (i := 36) rfl) (by decide) ?_
    refine r_iload_n (q62 (i := 37) rfl) l2 ?_
    refine r_imul (q62 (i := 38) rfl) ?_
    rw [show (2 * (nI x) : Int32) = nI (2 * x) from nI_mul 2 x]
    refine r_cV (d := _) (q62 (i := 39) rfl) rfl rfl rfl (k_21 S) (Nat.le_of_ble_eq_true rfl) (Nat.zero_le _) (Nat.zero_le _) R1 ?_
    show Wp _ _ _ 64 ls [.int (-1)] h _ _
    refine r_istore (q62 (i := 40) rfl) (Nat.le_of_ble_eq_true rfl) rfl ?_
    have l7 := lk1 (k := 8) (v := .int (-1)) l7 (by decide) (Or.inl rfl)
    have l5 := lk1 (k := 8) (v := .int (-1)) l5 (by decide) (Or.inr (by decide))
    have l0 := lk1 (k := 8) (v := .int (-1)) l0 (by decide) (Or.inr (by decide))
    have l1 := lk1 (k := 8) (v := .int (-1)) l1 (by decide) (Or.inr (by decide))
    have l2 := lk1 (k := 8) (v := .int (-1)) l2 (by decide) (Or.inr (by decide))
    have l3 := lk1 (k := 8) (v := .int (-1)) l3 (by decide) (Or.inr (by decide))
    have l4 := lk1 (k := 8) (v := .int (-1)) l4 (by decide) (Or.inr (by decide))
    have l8 := lk0 ls 8 (.int (-1))
    generalize lset1 ls 8 (.int (-1)) = ls at l8 l7 l5 l0 l1 l2 l3 l4 ⊢
    refine r_iload (q62 (i := 41) rfl) l8 ?_
    refine r_iconst (v := (-1)) (q62 (i := 42) rfl) (by decide) ?_
    refine r_icmp 75 (q62 (i := 43) rfl) (by decide) (fun zz => absurd zz (show ¬ (¬ (-1) = (-1)) from fun z => z rfl)) (fun _ => ?_)
    refine r_iload (q62 (i := 44) rfl) l7 ?_
    exact r_iret (q62 (i := 45) rfl) rfl hQ
  · have hlt : wdp (gW γ) n p x < 2 ^ n := by unfold wdp at *; omega
    obtain ⟨q1, q2⟩ := hrw _ hlt
    have ea : apt (gW γ) p (2 * x) (2 ^ n) = nI (wdp (gW γ) n p x) := apt_is hlt
    have hk := h2 hlt
    rw [ea] at R1
    have R2 := sp_addC (d := d) S VCh w4 q2 (hn hlt)
    have F2 := (VC_add VCh q2 q1).2
    have e2 : hI (addV h (wdp (gW γ) n p x) (cntB (nz s.1.1) 64) s.1.2.2) 30 2 = nI s.2.1 := by rw [F2.2.1 30 (by decide) (by decide) (by decide)]; exact w2
    have S2 : Sh (addV h (wdp (gW γ) n p x) (cntB (nz s.1.1) 64) s.1.2.2) := S.to F2.1
    refine r_istore (q62 (i := 33) rfl) (Nat.le_of_ble_eq_true rfl) rfl ?_
    have l5 := lk1 (k := 7) (v := .int (nI p)) l5 (by decide) (Or.inr (by decide))
    have l0 := lk1 (k := 7) (v := .int (nI p)) l0 (by decide) (Or.inr (by decide))
    have l1 := lk1 (k := 7) (v := .int (nI p)) l1 (by decide) (Or.inr (by decide))
    have l2 := lk1 (k := 7) (v := .int (nI p)) l2 (by decide) (Or.inr (by decide))
    have l3 := lk1 (k := 7) (v := .int (nI p)) l3 (by decide) (Or.inr (by decide))
    have l4 := lk1 (k := 7) (v := .int (nI p)) l4 (by decide) (Or.inr (by decide))
    have l7 := lk0 ls 7 (.int (nI p))
    generalize lset1 ls 7 (.int (nI p)) = ls at l7 l5 l0 l1 l2 l3 l4 ⊢
    refine r_aload_n (q62 (i := 34) rfl) l3 ?_
    refine r_iload (q62 (i := 35) rfl) l7 ?_
    refine r_iconst (v := 2) (q62 (i := 36) rfl) (by decide) ?_
    refine r_iload_n (q62 (i := 37) rfl) l2 ?_
    refine r_imul (q62 (i := 38) rfl) ?_
    rw [show (2 * (nI x) : Int32) = nI (2 * x) from nI_mul 2 x]
    refine r_cV (d := _) (q62 (i := 39) rfl) rfl rfl rfl (k_21 S) (Nat.le_of_ble_eq_true rfl) (Nat.zero_le _) (Nat.zero_le _) R1 ?_
    show Wp _ _ _ 64 ls [.int (nI (wdp (gW γ) n p x))] h _ _
    refine r_istore (q62 (i := 40) rfl) (Nat.le_of_ble_eq_true rfl) rfl ?_
    have l7 := lk1 (k := 8) (v := .int (nI (wdp (gW γ) n p x))) l7 (by decide) (Or.inl rfl)
    have l5 := lk1 (k := 8) (v := .int (nI (wdp (gW γ) n p x))) l5 (by decide) (Or.inr (by decide))
    have l0 := lk1 (k := 8) (v := .int (nI (wdp (gW γ) n p x))) l0 (by decide) (Or.inr (by decide))
    have l1 := lk1 (k := 8) (v := .int (nI (wdp (gW γ) n p x))) l1 (by decide) (Or.inr (by decide))
    have l2 := lk1 (k := 8) (v := .int (nI (wdp (gW γ) n p x))) l2 (by decide) (Or.inr (by decide))
    have l3 := lk1 (k := 8) (v := .int (nI (wdp (gW γ) n p x))) l3 (by decide) (Or.inr (by decide))
    have l4 := lk1 (k := 8) (v := .int (nI (wdp (gW γ) n p x))) l4 (by decide) (Or.inr (by decide))
    have l8 := lk0 ls 8 (.int (nI (wdp (gW γ) n p x)))
    generalize lset1 ls 8 (.int (nI (wdp (gW γ) n p x))) = ls at l8 l7 l5 l0 l1 l2 l3 l4 ⊢
    refine r_iload (q62 (i := 41) rfl) l8 ?_
    refine r_iconst (v := (-1)) (q62 (i := 42) rfl) (by decide) ?_
    refine r_icmp 75 (q62 (i := 43) rfl) (by decide) (fun _ => ?_) (fun zz => absurd (show ¬ nI (wdp (gW γ) n p x) = (-1) from nI_ne1 (by omega)) zz)
    refine r_aload (q62 (i := 46) rfl) l4 ?_
    refine r_iload (q62 (i := 47) rfl) l8 ?_
    refine r_cV (d := _) (q62 (i := 48) rfl) rfl rfl rfl (k_17 S) (Nat.le_of_ble_eq_true rfl) (Nat.zero_le _) (Nat.zero_le _) R2 ?_
    show Wp _ _ _ 82 ls [] (addV h (wdp (gW γ) n p x) (cntB (nz s.1.1) 64) s.1.2.2) _ _
    refine r_aload_n (q62 (i := 49) rfl) l0 ?_
    refine r_dup (q62 (i := 50) rfl) rfl ?_
    refine r_getI (x := nI s.2.1) (q62 (i := 51) rfl) rfl (by decide) (k_30 S2) (fun _ _ _ => rfl) e2 ?_
    refine r_iconst (v := 1) (q62 (i := 52) rfl) (by decide) ?_
    refine r_iadd (q62 (i := 53) rfl) ?_
    rw [show ((nI s.2.1) + 1 : Int32) = nI (s.2.1 + 1) from nI_1 _]
    refine r_putI (q62 (i := 54) rfl) rfl (by decide) (k_30 S2) rfl rfl ?_
    refine r_iinc (y := nI (t + 1)) (q62 (i := 55) rfl) (Nat.le_of_ble_eq_true rfl) l5 (nI_1 t) rfl ?_
    have l8 := lk1 (k := 5) (v := .int (nI (t + 1))) l8 (by decide) (Or.inr (by decide))
    have l7 := lk1 (k := 5) (v := .int (nI (t + 1))) l7 (by decide) (Or.inr (by decide))
    have l0 := lk1 (k := 5) (v := .int (nI (t + 1))) l0 (by decide) (Or.inr (by decide))
    have l1 := lk1 (k := 5) (v := .int (nI (t + 1))) l1 (by decide) (Or.inr (by decide))
    have l2 := lk1 (k := 5) (v := .int (nI (t + 1))) l2 (by decide) (Or.inr (by decide))
    have l3 := lk1 (k := 5) (v := .int (nI (t + 1))) l3 (by decide) (Or.inr (by decide))
    have l4 := lk1 (k := 5) (v := .int (nI (t + 1))) l4 (by decide) (Or.inl rfl)
    have l5 := lk0 ls 5 (.int (nI (t + 1)))
    generalize lset1 ls 5 (.int (nI (t + 1))) = ls at l5 l8 l7 l0 l1 l2 l3 l4 ⊢
    refine r_goto 3 (q62 (i := 56) rfl) (by decide) ?_
    exact hk ls l5 l0 l1 l2 l3 l4
set_option maxHeartbeats 2000000 in
set_option maxRecDepth 10000 in
theorem lp_ask {d : Nat} {ρ n rw : Nat} {γ : gs} (hρ : ρ ≠ 19) (Pz : ∀ p q, p < 2 * gC γ → q < 2 * gC γ → apt (gW γ) p q (64 * rw) = apt (gW γ) p q (2 ^ n)) (hrw : ∀ w, w < 2 ^ n → w / 64 < rw ∧ w < 4096) {c x : Nat} (hc : c < x) (hx : x < gC γ) : ∀ (m t : Nat) (s : sst) (h : hp), t + m = 2 → Sh h → GC h ρ n rw γ → SW h rw s → ∃ h', SW h' rw (askT (gW γ) n c x m s).2 ∧ FrS h h' ∧ ∀ (Q : resP), Q (some (.int (oO (askT (gW γ) n c x m s).1))) h' → ∀ (bc bs : Nat) (ls : List (Nat × Value)), ls.lookup 5 = some (.int (nI t)) → ls.lookup 0 = some (.ref 30) → ls.lookup 1 = some (.int (nI c)) → ls.lookup 2 = some (.int (nI x)) → ls.lookup 3 = some (.ref 21) → ls.lookup 4 = some (.ref 17) → Wp (Ex (d + 2)) 62 Q 3 ls [] h bc bs := by
  intro m
  induction m with
  | zero =>
    intro t s h ht S G W
    have e : t = 2 := by omega
    subst e
    refine ⟨h, W, FrS.rf h, ?_⟩
    intro Q hQ bc bs ls l5 l0 l1 l2 l3 l4
    have hQ : Q (some (.int (-1))) h := hQ
    refine r_iload (q62 (i := 2) rfl) l5 ?_
    refine r_iconst (v := 2) (q62 (i := 3) rfl) (by decide) ?_
    refine r_icmp 98 (q62 (i := 4) rfl) (by decide) (fun _ => ?_) (fun zz => absurd (show 2 ≤ nI 2 from Int32.le_refl _) zz)
    refine r_iconst (v := (-1)) (q62 (i := 57) rfl) (by decide) ?_
    exact r_iret (q62 (i := 58) rfl) rfl hQ
  | succ m ih =>
    intro t s h ht S G W
    have hc9 := G.2.1.2.2.2
    have VCh := W.1
    have R1 := sp_lik (d := d + 1) S G VCh.2.2.2 (show c < gC γ by omega) hx
    rw [VCh.1] at R1
    by_cases hl : lik (gW γ) s.1.1 c x = 0
    · have e : askT (gW γ) n c x (m + 1) s = (none, s) := by unfold askT; rw [if_pos hl]
      rw [e]
      refine ⟨h, W, FrS.rf h, ?_⟩
      intro Q hQ bc bs ls l5 l0 l1 l2 l3 l4
      have hQ : Q (some (.int (-1))) h := hQ
      rw [hl] at R1
      refine r_iload (q62 (i := 2) rfl) l5 ?_
      refine r_iconst (v := 2) (q62 (i := 3) rfl) (by decide) ?_
      refine r_icmp 98 (q62 (i := 4) rfl) (by decide) (fun zz => absurd zz (show ¬ (2 ≤ nI t) from nI_ge (a := t) (b := 2) (by omega) (by omega))) (fun _ => ?_)
      refine r_aload_n (q62 (i := 5) rfl) l3 ?_
      refine r_iload_n (q62 (i := 6) rfl) l1 ?_
      refine r_iload_n (q62 (i := 7) rfl) l2 ?_
      refine r_aload (q62 (i := 8) rfl) l4 ?_
      refine r_cV (d := _) (q62 (i := 9) rfl) rfl rfl rfl (k_21 S) (Nat.le_of_ble_eq_true rfl) (Nat.zero_le _) (Nat.zero_le _) R1 ?_
      show Wp _ _ _ 17 ls [.int 0] h _ _
      refine r_istore (q62 (i := 10) rfl) (Nat.le_of_ble_eq_true rfl) rfl ?_
      have l5 := lk1 (k := 6) (v := .int 0) l5 (by decide) (Or.inl rfl)
      have l0 := lk1 (k := 6) (v := .int 0) l0 (by decide) (Or.inr (by decide))
      have l1 := lk1 (k := 6) (v := .int 0) l1 (by decide) (Or.inr (by decide))
      have l2 := lk1 (k := 6) (v := .int 0) l2 (by decide) (Or.inr (by decide))
      have l3 := lk1 (k := 6) (v := .int 0) l3 (by decide) (Or.inr (by decide))
      have l4 := lk1 (k := 6) (v := .int 0) l4 (by decide) (Or.inr (by decide))
      have l6 := lk0 ls 6 (.int 0)
      generalize lset1 ls 6 (.int 0) = ls at l6 l5 l0 l1 l2 l3 l4 ⊢
      refine r_iload (q62 (i := 11) rfl) l6 ?_
      refine r_if 26 (q62 (i := 12) rfl) (by decide) (fun zz => absurd zz (show ¬ (¬ 0 = 0) from fun z => z rfl)) (fun _ => ?_)
      refine r_iconst (v := (-1)) (q62 (i := 13) rfl) (by decide) ?_
      exact r_iret (q62 (i := 14) rfl) rfl hQ
    · have Fa : FrS h (sI h 30 3 (nI (s.2.2 + 1))) := ⟨rfl, fun k _ _ _ hk => by show u2 h.1 30 _ _ k = _; rw [u2_n hk], fun _ _ => rfl, fun k _ hk => by show u2 h.1 30 _ _ 30 k = _; rw [u2_s, u1_n hk]⟩
      have W1 : SW (sI h 30 3 (nI (s.2.2 + 1))) rw (s.1, s.2.1, s.2.2 + 1) := ⟨W.1, W.2.1, rfl, W.2.2.2⟩
      have hpl := pP_le (gW γ) s.1.1 c x
      have hin : wdp (gW γ) n (pP (gW γ) s.1.1 c x) x < 2 ^ n → inV s.1.1 (wdp (gW γ) n (pP (gW γ) s.1.1 c x) x) = false := fun hz => ask_new hl (wdp_lt _ _ _ _ (by omega)).2 (by have := (hrw _ hz).2; omega)
      have X53 := fun Q bc bs => ask_53 (d := d) hρ Pz hrw hc hx (Fa.S S) (Fa.G hρ G) W1 (p := pP (gW γ) s.1.1 c x) (t := t) (by omega) hin (Q := Q) (bc := bc) (bs := bs)
      by_cases hz : wdp (gW γ) n (pP (gW γ) s.1.1 c x) x = 2 ^ n
      · have e : askT (gW γ) n c x (m + 1) s = (some (pP (gW γ) s.1.1 c x), (s.1, s.2.1, s.2.2 + 1)) := by
          show (if _ then _ else _) = _
          rw [if_neg hl, if_pos hz]
        rw [e]
        refine ⟨_, W1, Fa, ?_⟩
        intro Q hQ bc bs ls l5 l0 l1 l2 l3 l4
        have K53 := X53 Q bc bs (fun _ => hQ) (fun z => absurd hz (by omega))
        by_cases h2 : lik (gW γ) s.1.1 c x = 2
        · have ep : pP (gW γ) s.1.1 c x = 2 * c + 1 := if_pos h2
          rw [ep] at K53
          rw [h2] at R1
          refine r_iload (q62 (i := 2) rfl) l5 ?_
          refine r_iconst (v := 2) (q62 (i := 3) rfl) (by decide) ?_
          refine r_icmp 98 (q62 (i := 4) rfl) (by decide) (fun zz => absurd zz (show ¬ (2 ≤ nI t) from nI_ge (a := t) (b := 2) (by omega) (by omega))) (fun _ => ?_)
          refine r_aload_n (q62 (i := 5) rfl) l3 ?_
          refine r_iload_n (q62 (i := 6) rfl) l1 ?_
          refine r_iload_n (q62 (i := 7) rfl) l2 ?_
          refine r_aload (q62 (i := 8) rfl) l4 ?_
          refine r_cV (d := _) (q62 (i := 9) rfl) rfl rfl rfl (k_21 S) (Nat.le_of_ble_eq_true rfl) (Nat.zero_le _) (Nat.zero_le _) R1 ?_
          show Wp _ _ _ 17 ls [.int 2] h _ _
          refine r_istore (q62 (i := 10) rfl) (Nat.le_of_ble_eq_true rfl) rfl ?_
          have l5 := lk1 (k := 6) (v := .int 2) l5 (by decide) (Or.inl rfl)
          have l0 := lk1 (k := 6) (v := .int 2) l0 (by decide) (Or.inr (by decide))
          have l1 := lk1 (k := 6) (v := .int 2) l1 (by decide) (Or.inr (by decide))
          have l2 := lk1 (k := 6) (v := .int 2) l2 (by decide) (Or.inr (by decide))
          have l3 := lk1 (k := 6) (v := .int 2) l3 (by decide) (Or.inr (by decide))
          have l4 := lk1 (k := 6) (v := .int 2) l4 (by decide) (Or.inr (by decide))
          have l6 := lk0 ls 6 (.int 2)
          generalize lset1 ls 6 (.int 2) = ls at l6 l5 l0 l1 l2 l3 l4 ⊢
          refine r_iload (q62 (i := 11) rfl) l6 ?_
          refine r_if 26 (q62 (i := 12) rfl) (by decide) (fun _ => ?_) (fun zz => absurd (show ¬ (2 : Int32) = 0 from by decide) zz)
          refine r_aload_n (q62 (i := 15) rfl) l0 ?_
          refine r_dup (q62 (i := 16) rfl) rfl ?_
          refine r_getI (x := nI s.2.2) (q62 (i := 17) rfl) rfl (by decide) (k_30 S) (fun _ _ _ => rfl) W.2.2.1 ?_
          refine r_iconst (v := 1) (q62 (i := 18) rfl) (by decide) ?_
          refine r_iadd (q62 (i := 19) rfl) ?_
          rw [show ((nI s.2.2) + 1 : Int32) = nI (s.2.2 + 1) from nI_1 _]
          refine r_putI (q62 (i := 20) rfl) rfl (by decide) (k_30 S) rfl rfl ?_
          refine r_iload (q62 (i := 21) rfl) l6 ?_
          refine r_iconst (v := 2) (q62 (i := 22) rfl) (by decide) ?_
          refine r_icmp 50 (q62 (i := 23) rfl) (by decide) (fun zz => absurd zz (show ¬ (¬ (2 : Int32) = 2) from by decide)) (fun _ => ?_)
          refine r_iconst (v := 2) (q62 (i := 24) rfl) (by decide) ?_
          refine r_iload_n (q62 (i := 25) rfl) l1 ?_
          refine r_imul (q62 (i := 26) rfl) ?_
          rw [show (2 * (nI c) : Int32) = nI (2 * c) from nI_mul 2 c]
          refine r_iconst (v := 1) (q62 (i := 27) rfl) (by decide) ?_
          refine r_iadd (q62 (i := 28) rfl) ?_
          rw [show ((nI (2 * c)) + 1 : Int32) = nI (2 * c + 1) from nI_1 _]
          refine r_goto 53 (q62 (i := 29) rfl) (by decide) ?_
          exact K53 ls l5 l0 l1 l2 l3 l4
        · have ep : pP (gW γ) s.1.1 c x = 2 * c := if_neg h2
          rw [ep] at K53
          refine r_iload (q62 (i := 2) rfl) l5 ?_
          refine r_iconst (v := 2) (q62 (i := 3) rfl) (by decide) ?_
          refine r_icmp 98 (q62 (i := 4) rfl) (by decide) (fun zz => absurd zz (show ¬ (2 ≤ nI t) from nI_ge (a := t) (b := 2) (by omega) (by omega))) (fun _ => ?_)
          refine r_aload_n (q62 (i := 5) rfl) l3 ?_
          refine r_iload_n (q62 (i := 6) rfl) l1 ?_
          refine r_iload_n (q62 (i := 7) rfl) l2 ?_
          refine r_aload (q62 (i := 8) rfl) l4 ?_
          refine r_cV (d := _) (q62 (i := 9) rfl) rfl rfl rfl (k_21 S) (Nat.le_of_ble_eq_true rfl) (Nat.zero_le _) (Nat.zero_le _) R1 ?_
          show Wp _ _ _ 17 ls [.int (lik (gW γ) s.1.1 c x)] h _ _
          refine r_istore (q62 (i := 10) rfl) (Nat.le_of_ble_eq_true rfl) rfl ?_
          have l5 := lk1 (k := 6) (v := .int (lik (gW γ) s.1.1 c x)) l5 (by decide) (Or.inl rfl)
          have l0 := lk1 (k := 6) (v := .int (lik (gW γ) s.1.1 c x)) l0 (by decide) (Or.inr (by decide))
          have l1 := lk1 (k := 6) (v := .int (lik (gW γ) s.1.1 c x)) l1 (by decide) (Or.inr (by decide))
          have l2 := lk1 (k := 6) (v := .int (lik (gW γ) s.1.1 c x)) l2 (by decide) (Or.inr (by decide))
          have l3 := lk1 (k := 6) (v := .int (lik (gW γ) s.1.1 c x)) l3 (by decide) (Or.inr (by decide))
          have l4 := lk1 (k := 6) (v := .int (lik (gW γ) s.1.1 c x)) l4 (by decide) (Or.inr (by decide))
          have l6 := lk0 ls 6 (.int (lik (gW γ) s.1.1 c x))
          generalize lset1 ls 6 (.int (lik (gW γ) s.1.1 c x)) = ls at l6 l5 l0 l1 l2 l3 l4 ⊢
          refine r_iload (q62 (i := 11) rfl) l6 ?_
          refine r_if 26 (q62 (i := 12) rfl) (by decide) (fun _ => ?_) (fun zz => absurd (show ¬ lik (gW γ) s.1.1 c x = 0 from hl) zz)
          refine r_aload_n (q62 (i := 15) rfl) l0 ?_
          refine r_dup (q62 (i := 16) rfl) rfl ?_
          refine r_getI (x := nI s.2.2) (q62 (i := 17) rfl) rfl (by decide) (k_30 S) (fun _ _ _ => rfl) W.2.2.1 ?_
          refine r_iconst (v := 1) (q62 (i := 18) rfl) (by decide) ?_
          refine r_iadd (q62 (i := 19) rfl) ?_
          rw [show ((nI s.2.2) + 1 : Int32) = nI (s.2.2 + 1) from nI_1 _]
          refine r_putI (q62 (i := 20) rfl) rfl (by decide) (k_30 S) rfl rfl ?_
          refine r_iload (q62 (i := 21) rfl) l6 ?_
          refine r_iconst (v := 2) (q62 (i := 22) rfl) (by decide) ?_
          refine r_icmp 50 (q62 (i := 23) rfl) (by decide) (fun _ => ?_) (fun zz => absurd (show ¬ lik (gW γ) s.1.1 c x = 2 from h2) zz)
          refine r_iconst (v := 2) (q62 (i := 30) rfl) (by decide) ?_
          refine r_iload_n (q62 (i := 31) rfl) l1 ?_
          refine r_imul (q62 (i := 32) rfl) ?_
          rw [show (2 * (nI c) : Int32) = nI (2 * c) from nI_mul 2 c]
          exact K53 ls l5 l0 l1 l2 l3 l4
      · have hlt := (wdp_lt _ _ _ _ hz).1
        have e : askT (gW γ) n c x (m + 1) s = askT (gW γ) n c x m (vadd s.1 (wdp (gW γ) n (pP (gW γ) s.1.1 c x) x), s.2.1 + 1, s.2.2 + 1) := by
          show (if _ then _ else _) = _
          rw [if_neg hl, if_neg hz]
        rw [e]
        obtain ⟨q1, q2⟩ := hrw _ hlt
        obtain ⟨VC2, FV⟩ := VC_add W1.1 q2 q1
        have W2 : SW (sI (addV (sI h 30 3 (nI (s.2.2 + 1))) (wdp (gW γ) n (pP (gW γ) s.1.1 c x) x) (cntB (nz s.1.1) 64) s.1.2.2) 30 2 (nI (s.2.1 + 1))) rw (vadd s.1 (wdp (gW γ) n (pP (gW γ) s.1.1 c x) x), s.2.1 + 1, s.2.2 + 1) := by
          refine ⟨VC2, rfl, ?_, vok_add W.2.2.2 q2 (hin hlt)⟩
          show hI (addV (sI h 30 3 (nI (s.2.2 + 1))) (wdp (gW γ) n (pP (gW γ) s.1.1 c x) x) (cntB (nz s.1.1) 64) s.1.2.2) 30 3 = _
          rw [FV.2.1 30 (by decide) (by decide) (by decide)]
          rfl
        have F2 : FrS h (sI (addV (sI h 30 3 (nI (s.2.2 + 1))) (wdp (gW γ) n (pP (gW γ) s.1.1 c x) x) (cntB (nz s.1.1) 64) s.1.2.2) 30 2 (nI (s.2.1 + 1))) := by
          refine Fa.tr ⟨FV.1, fun k a b c e => ?_, fun k a => FV.2.2 k a, fun k a b => ?_⟩
          · show u2 (addV _ _ _ _).1 30 _ _ k = _
            rw [u2_n e]
            exact FV.2.1 k a b c
          · show u2 (addV _ _ _ _).1 30 _ _ 30 k = _
            rw [u2_s, u1_n a]
            exact congrFun (FV.2.1 30 (by decide) (by decide) (by decide)) k
        obtain ⟨h', W', F', hk⟩ := ih (t + 1) _ _ (by omega) (F2.S S) (F2.G hρ G) W2
        refine ⟨h', W', F2.tr F', ?_⟩
        intro Q hQ bc bs ls l5 l0 l1 l2 l3 l4
        have K53 := X53 Q bc bs (fun z => absurd z hz) (fun _ ls l5 l0 l1 l2 l3 l4 => hk Q hQ bc bs ls l5 l0 l1 l2 l3 l4)
        by_cases h2 : lik (gW γ) s.1.1 c x = 2
        · have ep : pP (gW γ) s.1.1 c x = 2 * c + 1 := if_pos h2
          rw [ep] at K53
          rw [h2] at R1
          refine r_iload (q62 (i := 2) rfl) l5 ?_
          refine r_iconst (v := 2) (q62 (i := 3) rfl) (by decide) ?_
          refine r_icmp 98 (q62 (i := 4) rfl) (by decide) (fun zz => absurd zz (show ¬ (2 ≤ nI t) from nI_ge (a := t) (b := 2) (by omega) (by omega))) (fun _ => ?_)
          refine r_aload_n (q62 (i := 5) rfl) l3 ?_
          refine r_iload_n (q62 (i := 6) rfl) l1 ?_
          refine r_iload_n (q62 (i := 7) rfl) l2 ?_
          refine r_aload (q62 (i := 8) rfl) l4 ?_
          refine r_cV (d := _) (q62 (i := 9) rfl) rfl rfl rfl (k_21 S) (Nat.le_of_ble_eq_true rfl) (Nat.zero_le _) (Nat.zero_le _) R1 ?_
          show Wp _ _ _ 17 ls [.int 2] h _ _
          refine r_istore (q62 (i := 10) rfl) (Nat.le_of_ble_eq_true rfl) rfl ?_
          have l5 := lk1 (k := 6) (v := .int 2) l5 (by decide) (Or.inl rfl)
          have l0 := lk1 (k := 6) (v := .int 2) l0 (by decide) (Or.inr (by decide))
          have l1 := lk1 (k := 6) (v := .int 2) l1 (by decide) (Or.inr (by decide))
          have l2 := lk1 (k := 6) (v := .int 2) l2 (by decide) (Or.inr (by decide))
          have l3 := lk1 (k := 6) (v := .int 2) l3 (by decide) (Or.inr (by decide))
          have l4 := lk1 (k := 6) (v := .int 2) l4 (by decide) (Or.inr (by decide))
          have l6 := lk0 ls 6 (.int 2)
          generalize lset1 ls 6 (.int 2) = ls at l6 l5 l0 l1 l2 l3 l4 ⊢
          refine r_iload (q62 (i := 11) rfl) l6 ?_
          refine r_if 26 (q62 (i := 12) rfl) (by decide) (fun _ => ?_) (fun zz => absurd (show ¬ (2 : Int32) = 0 from by decide) zz)
          refine r_aload_n (q62 (i := 15) rfl) l0 ?_
          refine r_dup (q62 (i := 16) rfl) rfl ?_
          refine r_getI (x := nI s.2.2) (q62 (i := 17) rfl) rfl (by decide) (k_30 S) (fun _ _ _ => rfl) W.2.2.1 ?_
          refine r_iconst (v := 1) (q62 (i := 18) rfl) (by decide) ?_
          refine r_iadd (q62 (i := 19) rfl) ?_
          rw [show ((nI s.2.2) + 1 : Int32) = nI (s.2.2 + 1) from nI_1 _]
          refine r_putI (q62 (i := 20) rfl) rfl (by decide) (k_30 S) rfl rfl ?_
          refine r_iload (q62 (i := 21) rfl) l6 ?_
          refine r_iconst (v := 2) (q62 (i := 22) rfl) (by decide) ?_
          refine r_icmp 50 (q62 (i := 23) rfl) (by decide) (fun zz => absurd zz (show ¬ (¬ (2 : Int32) = 2) from by decide)) (fun _ => ?_)
          refine r_iconst (v := 2) (q62 (i := 24) rfl) (by decide) ?_
          refine r_iload_n (q62 (i := 25) rfl) l1 ?_
          refine r_imul (q62 (i := 26) rfl) ?_
          rw [show (2 * (nI c) : Int32) = nI (2 * c) from nI_mul 2 c]
          refine r_iconst (v := 1) (q62 (i := 27) rfl) (by decide) ?_
          refine r_iadd (q62 (i := 28) rfl) ?_
          rw [show ((nI (2 * c)) + 1 : Int32) = nI (2 * c + 1) from nI_1 _]
          refine r_goto 53 (q62 (i := 29) rfl) (by decide) ?_
          exact K53 ls l5 l0 l1 l2 l3 l4
        · have ep : pP (gW γ) s.1.1 c x = 2 * c := if_neg h2
          rw [ep] at K53
          refine r_iload (q62 (i := 2) rfl) l5 ?_
          refine r_iconst (v := 2) (q62 (i := 3) rfl) (by decide) ?_
          refine r_icmp 98 (q62 (i := 4) rfl) (by decide) (fun zz => absurd zz (show ¬ (2 ≤ nI t) from nI_ge (a := t) (b := 2) (by omega) (by omega))) (fun _ => ?_)
          refine r_aload_n (q62 (i := 5) rfl) l3 ?_
          refine r_iload_n (q62 (i := 6) rfl) l1 ?_
          refine r_iload_n (q62 (i := 7) rfl) l2 ?_
          refine r_aload (q62 (i := 8) rfl) l4 ?_
          refine r_cV (d := _) (q62 (i := 9) rfl) rfl rfl rfl (k_21 S) (Nat.le_of_ble_eq_true rfl) (Nat.zero_le _) (Nat.zero_le _) R1 ?_
          show Wp _ _ _ 17 ls [.int (lik (gW γ) s.1.1 c x)] h _ _
          refine r_istore (q62 (i := 10) rfl) (Nat.le_of_ble_eq_true rfl) rfl ?_
          have l5 := lk1 (k := 6) (v := .int (lik (gW γ) s.1.1 c x)) l5 (by decide) (Or.inl rfl)
          have l0 := lk1 (k := 6) (v := .int (lik (gW γ) s.1.1 c x)) l0 (by decide) (Or.inr (by decide))
          have l1 := lk1 (k := 6) (v := .int (lik (gW γ) s.1.1 c x)) l1 (by decide) (Or.inr (by decide))
          have l2 := lk1 (k := 6) (v := .int (lik (gW γ) s.1.1 c x)) l2 (by decide) (Or.inr (by decide))
          have l3 := lk1 (k := 6) (v := .int (lik (gW γ) s.1.1 c x)) l3 (by decide) (Or.inr (by decide))
          have l4 := lk1 (k := 6) (v := .int (lik (gW γ) s.1.1 c x)) l4 (by decide) (Or.inr (by decide))
          have l6 := lk0 ls 6 (.int (lik (gW γ) s.1.1 c x))
          generalize lset1 ls 6 (.int (lik (gW γ) s.1.1 c x)) = ls at l6 l5 l0 l1 l2 l3 l4 ⊢
          refine r_iload (q62 (i := 11) rfl) l6 ?_
          refine r_if 26 (q62 (i := 12) rfl) (by decide) (fun _ => ?_) (fun zz => absurd (show ¬ lik (gW γ) s.1.1 c x = 0 from hl) zz)
          refine r_aload_n (q62 (i := 15) rfl) l0 ?_
          refine r_dup (q62 (i := 16) rfl) rfl ?_
          refine r_getI (x := nI s.2.2) (q62 (i := 17) rfl) rfl (by decide) (k_30 S) (fun _ _ _ => rfl) W.2.2.1 ?_
          refine r_iconst (v := 1) (q62 (i := 18) rfl) (by decide) ?_
          refine r_iadd (q62 (i := 19) rfl) ?_
          rw [show ((nI s.2.2) + 1 : Int32) = nI (s.2.2 + 1) from nI_1 _]
          refine r_putI (q62 (i := 20) rfl) rfl (by decide) (k_30 S) rfl rfl ?_
          refine r_iload (q62 (i := 21) rfl) l6 ?_
          refine r_iconst (v := 2) (q62 (i := 22) rfl) (by decide) ?_
          refine r_icmp 50 (q62 (i := 23) rfl) (by decide) (fun _ => ?_) (fun zz => absurd (show ¬ lik (gW γ) s.1.1 c x = 2 from h2) zz)
          refine r_iconst (v := 2) (q62 (i := 30) rfl) (by decide) ?_
          refine r_iload_n (q62 (i := 31) rfl) l1 ?_
          refine r_imul (q62 (i := 32) rfl) ?_
          rw [show (2 * (nI c) : Int32) = nI (2 * c) from nI_mul 2 c]
          exact K53 ls l5 l0 l1 l2 l3 l4
set_option maxHeartbeats 2000000 in
set_option maxRecDepth 10000 in
theorem sp_ask {d : Nat} {ρ n rw : Nat} {γ : gs} (hρ : ρ ≠ 19) (Pz : ∀ p q, p < 2 * gC γ → q < 2 * gC γ → apt (gW γ) p q (64 * rw) = apt (gW γ) p q (2 ^ n)) (hrw : ∀ w, w < 2 ^ n → w / 64 < rw ∧ w < 4096) {c x : Nat} (hc : c < x) (hx : x < gC γ) {s : sst} {h : hp} (S : Sh h) (G : GC h ρ n rw γ) (W : SW h rw s) : ∃ h', Run (d + 2 + 1) 62 [.ref 30, .int (nI c), .int (nI x), .ref 21, .ref 17] h 0 0 (some (.int (oO (askT (gW γ) n c x 2 s).1))) h' ∧ SW h' rw (askT (gW γ) n c x 2 s).2 ∧ FrS h h' := by
  obtain ⟨h', W', F', hk⟩ := lp_ask (d := d) hρ Pz hrw hc hx 2 0 s h rfl S G W
  refine ⟨h', ?_, W', F'⟩
  refine Run.of (Nat.le_of_ble_eq_true rfl) (fun Q hQ => ?_)
  show Wp (Ex (d + 2)) 62 Q 0 [(0, .ref 30), (1, .int (nI c)), (2, .int (nI x)), (3, .ref 21), (4, .ref 17)] [] h 0 0
  refine r_iconst (v := 0) (q62 (i := 0) rfl) (by decide) ?_
  refine r_istore (ls' := [(5, .int 0), (0, .ref 30), (1, .int (nI c)), (2, .int (nI x)), (3, .ref 21), (4, .ref 17)]) (q62 (i := 1) rfl) (Nat.le_of_ble_eq_true rfl) rfl ?_
  exact hk Q hQ _ _ _ rfl rfl rfl rfl rfl rfl
