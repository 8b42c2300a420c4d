/-! ===== what a step says, opened ===== -/
theorem oI_inv {st : List Value} {k : Int32 → List Value → Prop} (h : oI st k) : ∃ x r, st = .int x :: r ∧ k x r := by
  unfold oI at h
  split at h
  · exact ⟨_, _, rfl, h⟩
  · exact h.elim
theorem oII_inv {st : List Value} {k : Int32 → Int32 → List Value → Prop} (h : oII st k) : ∃ x y r, st = .int y :: .int x :: r ∧ k x y r := by
  unfold oII at h
  split at h
  · exact ⟨_, _, _, rfl, h⟩
  · exact h.elim
theorem oJ_inv {st : List Value} {k : Int64 → List Value → Prop} (h : oJ st k) : ∃ x r, st = .long x :: r ∧ k x r := by
  unfold oJ at h
  split at h
  · exact ⟨_, _, rfl, h⟩
  · exact h.elim
theorem oJJ_inv {st : List Value} {k : Int64 → Int64 → List Value → Prop} (h : oJJ st k) : ∃ x y r, st = .long y :: .long x :: r ∧ k x y r := by
  unfold oJJ at h
  split at h
  · exact ⟨_, _, _, rfl, h⟩
  · exact h.elim
theorem oJI_inv {st : List Value} {k : Int64 → Int32 → List Value → Prop} (h : oJI st k) : ∃ x y r, st = .int y :: .long x :: r ∧ k x y r := by
  unfold oJI at h
  split at h
  · exact ⟨_, _, _, rfl, h⟩
  · exact h.elim
theorem oA_inv {st : List Value} {k : Nat → List Value → Prop} (h : oA st k) : ∃ a r, st = .ref a :: r ∧ k a r := by
  unfold oA at h
  split at h
  · exact ⟨_, _, rfl, h⟩
  · exact h.elim
theorem oAI_inv {st : List Value} {k : Nat → Int32 → List Value → Prop} (h : oAI st k) : ∃ a i r, st = .int i :: .ref a :: r ∧ k a i r := by
  unfold oAI at h
  split at h
  · exact ⟨_, _, _, rfl, h⟩
  · exact h.elim
theorem oAII_inv {st : List Value} {k : Nat → Int32 → Int32 → List Value → Prop} (h : oAII st k) : ∃ a i x r, st = .int x :: .int i :: .ref a :: r ∧ k a i x r := by
  unfold oAII at h
  split at h
  · exact ⟨_, _, _, _, rfl, h⟩
  · exact h.elim
theorem oAIJ_inv {st : List Value} {k : Nat → Int32 → Int64 → List Value → Prop} (h : oAIJ st k) : ∃ a i x r, st = .long x :: .int i :: .ref a :: r ∧ k a i x r := by
  unfold oAIJ at h
  split at h
  · exact ⟨_, _, _, _, rfl, h⟩
  · exact h.elim
theorem oV_inv {st : List Value} {k : Value → List Value → Prop} (h : oV st k) : (∃ a r, st = .ref a :: r ∧ k (.ref a) r) ∨ ∃ r, st = .null :: r ∧ k .null r := by
  unfold oV at h
  split at h
  · exact Or.inl ⟨_, _, rfl, h⟩
  · exact Or.inr ⟨_, rfl, h⟩
  · exact h.elim
theorem lI_inv {ls : List (Nat × Value)} {i : Nat} {k : Int32 → Prop} (h : lI ls i k) : ∃ x, ls.lookup i = some (.int x) ∧ k x := by
  unfold lI at h
  split at h
  · exact ⟨_, by assumption, h⟩
  · exact h.elim
theorem lJ_inv {ls : List (Nat × Value)} {i : Nat} {k : Int64 → Prop} (h : lJ ls i k) : ∃ x, ls.lookup i = some (.long x) ∧ k x := by
  unfold lJ at h
  split at h
  · exact ⟨_, by assumption, h⟩
  · exact h.elim
theorem lA_inv {ls : List (Nat × Value)} {i : Nat} {k : Value → Prop} (h : lA ls i k) : (∃ x, ls.lookup i = some (.ref x) ∧ k (.ref x)) ∨ (ls.lookup i = some .null ∧ k .null) := by
  unfold lA at h
  split at h
  · exact Or.inl ⟨_, by assumption, h⟩
  · exact Or.inr ⟨by assumption, h⟩
  · exact h.elim
theorem jmp_ok {pc : Nat} {off : Int} (h : jok pc off) : (pc : Int) + off = (jmp pc off : Int) := (Int.toNat_of_nonneg h).symm
theorem mem_lookup2 {β : Type} {l : List (Nat × β)} {i : Nat} {v : β} (h : l.lookup i = some v) : (i, v) ∈ l := by
  induction l with
  | nil => cases h
  | cons q r ih =>
    obtain ⟨a, b⟩ := q
    rw [List.lookup_cons] at h
    by_cases e : i == a
    · rw [e] at h
      have h1 : i = a := by simpa using e
      cases h
      rw [h1]
      exact List.mem_cons_self
    · have e' : (i == a) = false := by simpa using e
      rw [e'] at h
      exact List.mem_cons_of_mem _ (ih h)
theorem key_dm {o i : Nat} (hi : i < 1000) : (o * 1000 + i) / 1000 = o ∧ (o * 1000 + i) % 1000 = i := by omega
theorem fres_in {o i : Nat} (h : (fres o i).1 < 10) : i < 1000 ∧ (o * 1000 + i, fres o i) ∈ ftab := by
  unfold fres at h ⊢
  split at h
  · next hi =>
    rw [if_pos hi]
    refine ⟨hi, ?_⟩
    cases e : ftab.lookup (o * 1000 + i) with
    | none => rw [e] at h; exact absurd h (by decide)
    | some v => exact mem_lookup2 e
  · exact absurd h (by decide)
theorem cres_in {o i : Nat} (h : 1 ≤ (cres o i).1) : i < 1000 ∧ (o * 1000 + i, cres o i) ∈ ctab := by
  unfold cres at h ⊢
  split at h
  · next hi =>
    rw [if_pos hi]
    refine ⟨hi, ?_⟩
    cases e : ctab.lookup (o * 1000 + i) with
    | none => rw [e] at h; exact absurd h (by decide)
    | some v => exact mem_lookup2 e
  · exact absurd h (by decide)
theorem nres_in {o i : Nat} (h : (nres o i).1 < 10) : i < 1000 ∧ (o * 1000 + i, nres o i) ∈ ntab := by
  unfold nres at h ⊢
  split at h
  · next hi =>
    rw [if_pos hi]
    refine ⟨hi, ?_⟩
    cases e : ntab.lookup (o * 1000 + i) with
    | none => rw [e] at h; exact absurd h (by decide)
    | some v => exact mem_lookup2 e
  · exact absurd h (by decide)
theorem gres_in {o i : Nat} (h : 1 ≤ (gres o i).1) : i < 1000 ∧ (o * 1000 + i, gres o i) ∈ gtab := by
  unfold gres at h ⊢
  split at h
  · next hi =>
    rw [if_pos hi]
    refine ⟨hi, ?_⟩
    cases e : gtab.lookup (o * 1000 + i) with
    | none => rw [e] at h; exact absurd h (by decide)
    | some v => exact mem_lookup2 e
  · exact absurd h (by decide)
theorem lres_in {o i : Nat} {v : Int64 × Nat} (h : lres o i = some v) : i < 1000 ∧ (o * 1000 + i, v) ∈ ltab := by
  unfold lres at h
  split at h
  · next hi => exact ⟨hi, mem_lookup2 h⟩
  · cases h
theorem mE_in {i : Nat} (h0 : 0 < i) (h : i < 163) : mE i ∈ mRest := by
  have hl : mtab.length = 163 := by decide +kernel
  unfold mE
  obtain ⟨i, rfl⟩ : ∃ k, i = k + 1 := ⟨i - 1, by omega⟩
  show (mLaw :: mRest).getD (i + 1) mLaw ∈ mRest
  have h2 : i < mRest.length := by
    have : (mLaw :: mRest).length = 163 := hl
    rw [List.length_cons] at this
    omega
  rw [List.getD_cons_succ, List.getD_eq_getElem?_getD, List.getElem?_eq_getElem h2]
  exact List.getElem_mem h2
