/-! ===== the graph, pure: how many nodes, their sides, their rows ===== -/
abbrev gs : Type := Nat × (Nat → Nat) × (Nat → Nat) × (Nat → Nat → Int64)
abbrev gC (γ : gs) : Nat := γ.1
abbrev gL (γ : gs) : Nat → Nat := γ.2.1
abbrev gR (γ : gs) : Nat → Nat := γ.2.2.1
abbrev gW (γ : gs) : Nat → Nat → Int64 := γ.2.2.2
/-- a LITERAL's row -/
def lw (T : Nat → Nat → Int64) (p w : Nat) : Int64 := if p % 2 = 0 then T (p / 2) w else T (p / 2) w ^^^ (-1)
/-- the greatest AND below m whose lesser side is p, or 0 -/
def prv (n : Nat) (L : Nat → Nat) (p : Nat) : Nat → Nat
  | 0 => 0
  | m + 1 => if n < m ∧ L m = p then m else prv n L p m
/-- the greatest AND below m with these sides, or 0 -/
def gfind (n : Nat) (L R : Nat → Nat) (l r : Nat) : Nat → Nat
  | 0 => 0
  | m + 1 => if n < m ∧ L m = l ∧ R m = r then m else gfind n L R l r m
def gpush (γ : gs) (l r : Nat) : gs := (gC γ + 1, u1 (gL γ) (gC γ) l, u1 (gR γ) (gC γ) r, u1 (gW γ) (gC γ) (fun w => lw (gW γ) l w &&& lw (gW γ) r w))
def gnew (n : Nat) (γ : gs) (l r : Nat) : Nat × gs := if gfind n (gL γ) (gR γ) l r (gC γ) = 0 then (2 * gC γ, gpush γ l r) else (2 * gfind n (gL γ) (gR γ) l r (gC γ), γ)
def gand (n : Nat) (γ : gs) (p q : Nat) : Nat × gs := if p = 0 ∨ q = 0 ∨ p = q ^^^ 1 then (0, γ) else if q = p ∨ q = 1 then (p, γ) else if p = 1 then (q, γ) else if p < q then gnew n γ p q else gnew n γ q p
theorem prv_lt (n : Nat) (L : Nat → Nat) (p : Nat) : ∀ m, prv n L p m ≠ 0 → n < prv n L p m ∧ prv n L p m < m ∧ L (prv n L p m) = p
  | 0, h => absurd rfl h
  | m + 1, h => by
    unfold prv at h ⊢
    split
    · next e => exact ⟨e.1, by omega, e.2⟩
    · next e =>
      rw [if_neg e] at h
      obtain ⟨a, b, c⟩ := prv_lt n L p m h
      exact ⟨a, by omega, c⟩
theorem prv_0 (n : Nat) (L : Nat → Nat) (p : Nat) : ∀ m, prv n L p m = 0 → ∀ k, n < k → k < m → L k ≠ p
  | 0, _, k, _, hk => absurd hk (Nat.not_lt_zero k)
  | m + 1, h, k, hn, hk => by
    unfold prv at h
    split at h
    · next e => omega
    · next e =>
      by_cases q : k = m
      · subst q; exact fun z => e ⟨hn, z⟩
      · exact prv_0 n L p m h k hn (by omega)
theorem prv_none (n : Nat) (L : Nat → Nat) (p : Nat) : ∀ m, (∀ k, n < k → k < m → L k ≠ p) → prv n L p m = 0
  | 0, _ => rfl
  | m + 1, h => by
    unfold prv
    rw [if_neg (fun e => h m e.1 (by omega) e.2)]
    exact prv_none n L p m (fun k a b => h k a (by omega))
theorem prv_congr (n : Nat) {L L' : Nat → Nat} (p : Nat) : ∀ m, (∀ k, k < m → L k = L' k) → prv n L p m = prv n L' p m
  | 0, _ => rfl
  | m + 1, h => by
    unfold prv
    rw [h m (by omega), prv_congr n p m (fun k hk => h k (by omega))]
theorem gfind_0 (n : Nat) (L R : Nat → Nat) (l r : Nat) : ∀ m, prv n L l m = 0 → gfind n L R l r m = 0
  | 0, _ => rfl
  | m + 1, h => by
    unfold prv at h
    unfold gfind
    split at h
    · next e => omega
    · next e =>
      rw [if_neg (fun q => e ⟨q.1, q.2.1⟩)]
      exact gfind_0 n L R l r m h
theorem gfind_prv (n : Nat) (L R : Nat → Nat) (l r : Nat) : ∀ m, prv n L l m ≠ 0 → gfind n L R l r m = if R (prv n L l m) = r then prv n L l m else gfind n L R l r (prv n L l m)
  | 0, h => absurd rfl h
  | m + 1, h => by
    unfold prv at h ⊢
    have eg : gfind n L R l r (m + 1) = if n < m ∧ L m = l ∧ R m = r then m else gfind n L R l r m := rfl
    rw [eg]
    split at h
    · next e =>
      rw [if_pos e]
      by_cases q : R m = r
      · rw [if_pos ⟨e.1, e.2, q⟩, if_pos q]
      · rw [if_neg (fun z => q z.2.2), if_neg q]
    · next e =>
      rw [if_neg e, if_neg (fun q => e ⟨q.1, q.2.1⟩)]
      exact gfind_prv n L R l r m h
theorem gfind_lt (n : Nat) (L R : Nat → Nat) (l r : Nat) : ∀ m, gfind n L R l r m ≠ 0 → n < gfind n L R l r m ∧ gfind n L R l r m < m ∧ L (gfind n L R l r m) = l ∧ R (gfind n L R l r m) = r
  | 0, h => absurd rfl h
  | m + 1, h => by
    unfold gfind at h ⊢
    split
    · next e => exact ⟨e.1, by omega, e.2⟩
    · next e =>
      rw [if_neg e] at h
      obtain ⟨a, b, c⟩ := gfind_lt n L R l r m h
      exact ⟨a, by omega, c⟩
theorem gfind_none (n : Nat) (L R : Nat → Nat) (l r : Nat) : ∀ m, gfind n L R l r m = 0 → ∀ k, n < k → k < m → ¬ (L k = l ∧ R k = r)
  | 0, _, k, _, hk => absurd hk (Nat.not_lt_zero k)
  | m + 1, h, k, hn, hk => by
    unfold gfind at h
    split at h
    · next e => omega
    · next e =>
      by_cases q : k = m
      · subst q; exact fun z => e ⟨hn, z⟩
      · exact gfind_none n L R l r m h k hn (by omega)
/-- a graph over n inputs: sides stand below, the lesser first, nothing twice -/
def gwf (n : Nat) (γ : gs) : Prop := n < gC γ ∧ (∀ k, n < k → k < gC γ → gL γ k < gR γ k ∧ gR γ k < 2 * k) ∧ ∀ i j, n < i → i < j → j < gC γ → ¬ (gL γ i = gL γ j ∧ gR γ i = gR γ j)
theorem gwf_push {n : Nat} {γ : gs} {l r : Nat} (h : gwf n γ) (hl : l < r) (hr : r < 2 * gC γ) (hf : gfind n (gL γ) (gR γ) l r (gC γ) = 0) : gwf n (gpush γ l r) := by
  obtain ⟨h1, h2, h3⟩ := h
  have eC : gC (gpush γ l r) = gC γ + 1 := rfl
  have eL : ∀ k, k < gC γ → gL (gpush γ l r) k = gL γ k := fun k hk => u1_n (by omega)
  have eR : ∀ k, k < gC γ → gR (gpush γ l r) k = gR γ k := fun k hk => u1_n (by omega)
  have eL0 : gL (gpush γ l r) (gC γ) = l := u1_s
  have eR0 : gR (gpush γ l r) (gC γ) = r := u1_s
  refine ⟨by rw [eC]; omega, fun k a b => ?_, fun i j a b c => ?_⟩
  · rw [eC] at b
    by_cases q : k = gC γ
    · subst q; rw [eL0, eR0]; exact ⟨hl, hr⟩
    · rw [eL k (by omega), eR k (by omega)]; exact h2 k a (by omega)
  · rw [eC] at c
    rw [eL i (by omega), eR i (by omega)]
    by_cases q : j = gC γ
    · subst q
      rw [eL0, eR0]
      exact gfind_none n _ _ l r _ hf i a b
    · rw [eL j (by omega), eR j (by omega)]
      exact h3 i j a b (by omega)
theorem gnew_facts {n : Nat} {γ : gs} {l r : Nat} (h : gwf n γ) (hl : l < r) (hr : r < 2 * gC γ) : gwf n (gnew n γ l r).2 ∧ (gnew n γ l r).1 < 2 * gC (gnew n γ l r).2 ∧ gC γ ≤ gC (gnew n γ l r).2 ∧ gC (gnew n γ l r).2 ≤ gC γ + 1 := by
  unfold gnew
  split
  · next e => exact ⟨gwf_push h hl hr e, by show 2 * gC γ < 2 * (gC γ + 1); omega, by show gC γ ≤ gC γ + 1; omega, Nat.le_refl _⟩
  · next e =>
    have := gfind_lt n _ _ l r _ e
    exact ⟨h, by show 2 * gfind _ _ _ _ _ _ < 2 * gC γ; omega, Nat.le_refl _, by show gC γ ≤ gC γ + 1; omega⟩
theorem xor1_lt {p m : Nat} (h : p < 2 * m) : p ^^^ 1 < 2 * m := by
  have e : p ^^^ 1 = if p % 2 = 0 then p + 1 else p - 1 := by
    by_cases q : p % 2 = 0
    · rw [if_pos q]
      obtain ⟨k, rfl⟩ : ∃ k, p = 2 * k := ⟨p / 2, by omega⟩
      apply Nat.eq_of_testBit_eq
      intro i
      rw [Nat.testBit_xor]
      cases i with
      | zero => simp
      | succ i => simp [Nat.testBit_succ, show (2 * k + 1) / 2 = k by omega]
    · rw [if_neg q]
      obtain ⟨k, rfl⟩ : ∃ k, p = 2 * k + 1 := ⟨p / 2, by omega⟩
      apply Nat.eq_of_testBit_eq
      intro i
      rw [Nat.testBit_xor]
      cases i with
      | zero => simp
      | succ i => simp [Nat.testBit_succ, show (2 * k + 1) / 2 = k by omega]
  rw [e]
  split <;> omega
theorem gand_facts {n : Nat} {γ : gs} {p q : Nat} (h : gwf n γ) (hp : p < 2 * gC γ) (hq : q < 2 * gC γ) : gwf n (gand n γ p q).2 ∧ (gand n γ p q).1 < 2 * gC (gand n γ p q).2 ∧ gC γ ≤ gC (gand n γ p q).2 ∧ gC (gand n γ p q).2 ≤ gC γ + 1 := by
  have h0 := h.1
  unfold gand
  split
  · exact ⟨h, by show 0 < 2 * gC γ; omega, Nat.le_refl _, by show gC γ ≤ gC γ + 1; omega⟩
  · next c1 =>
    split
    · exact ⟨h, hp, Nat.le_refl _, by show gC γ ≤ gC γ + 1; omega⟩
    · next c2 =>
      split
      · exact ⟨h, hq, Nat.le_refl _, by show gC γ ≤ gC γ + 1; omega⟩
      · split
        · next c4 => exact gnew_facts h c4 hq
        · next c4 => exact gnew_facts h (by omega) hp
