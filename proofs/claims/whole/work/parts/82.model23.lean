/-! ===== the reference reads ===== -/
theorem LSt_X {h : hp} {B : Nat → Int32} {z n M O N : Nat} {s : pst} (L : LSt h B z n M O O N s) (hn : n ≤ 12) (hO : O ≤ 10) (hN : N ≤ 119) (h3 : hI h 1075 3 = nI O) (h4 : hI h 1075 4 = nI N) (hb : ∀ v, s.2.1 v ≤ n + N) (h0 : s.2.1 0 = 0) : XTm h (s.2.1, s.2.2.1.1, n, O, N) ∧ AL h (s.2.1, s.2.2.1.1, n, O, N) ∧ OL h (s.2.1, s.2.2.1.1, n, O, N) := by
  refine ⟨⟨⟨L.1.1, h3, h4⟩, L.2.2.1, fun i hi j hj => ?_, ⟨h0, hb⟩, hn, hO, hN⟩, fun i hi => (L.2.2.2.2 i hi).1, fun i hi => ?_⟩
  · obtain ⟨_, _, c⟩ := L.2.2.2.2 i hi
    exact ⟨(c j hj).1, (c j hj).2.2.1⟩
  · obtain ⟨a, _, c, _⟩ := L.2.2.2.1 i hi
    exact ⟨a, c⟩
/-- everything that read leaves alone: the vectors, the tape, the class, the rest -/
def FrRd (h h' : hp) : Prop := h'.2 = h.2 ∧ (∀ k, (k < 1075 ∨ 1326 ≤ k) → k ≠ 47 → hI h' k = hI h k) ∧ ∀ j, (j < 26 ∨ 29 < j) → hI h' 47 j = hI h 47 j
theorem FrRd.tr {h h' h'' : hp} (a : FrRd h h') (b : FrRd h' h'') : FrRd h h'' := ⟨b.1.trans a.1, fun k x y => (b.2.1 k x y).trans (a.2.1 k x y), fun j x => (b.2.2 j x).trans (a.2.2 j x)⟩
theorem FrT2.Rd {h h' : hp} (F : FrT2 h h') : FrRd h h' := ⟨F.1, fun k _ y => F.2.1 k y, F.2.2⟩
theorem FrH.Rd {h h' : hp} (F : FrH h h') : FrRd h h' := ⟨F.1, fun k x y => F.2.1 k y (by omega) (by omega), F.2.2⟩
theorem FrLn.Rd {h h' : hp} (F : FrLn h h') : FrRd h h' := ⟨F.1, fun k x y => by
  rcases x with x | x
  · exact F.2.1 k (by omega) y
  · exact F.2.2.1 k (by omega), F.2.2.2⟩
theorem FrR.Rd {h h' : hp} (F : FrR h h') : FrRd h h' := ⟨F.1, fun k x y => F.2 k (by omega), fun j _ => by rw [F.2 47 (by decide)]⟩
theorem FrRd.M {h h' : hp} (F : FrRd h h') : FM h h' := ⟨by rw [F.1], fun k hk => ⟨F.2.1 k (by omega) (by omega), by unfold hJ; rw [F.1]⟩⟩
/-- the reference behind a text with a FAULT -/
theorem MI.rdf {h h' : hp} {σ : st8} (M : MI h σ) (Z : zok σ) (F : FrRd h h') {p : Int32} (hp : hI h' 47 26 = p) : MI (sI h' 47 25 0) (rdE σ p) := by
  refine M.tp (σ' := rdE σ p) Z (by show h'.2.2 = _; rw [F.1]) (fun k a b => ?_) (fun k a => ?_) (fun k a b => ?_) rfl rfl rfl rfl ⟨?_, ?_, ?_⟩ ⟨?_, rfl, hp⟩ ?_
  · show u2 h'.1 47 _ _ k = _
    rw [u2_n (by omega)]; exact F.2.1 k (by omega) (by omega)
  · show u1 (h'.1 47) 25 _ k = _
    rw [u1_n (by omega)]; exact F.2.2 k (by omega)
  · show h'.2.1 k = _
    rw [F.1]
  · show h'.2.1 1071 = _
    rw [F.1]; exact M.2.2.2.1.1
  · show hI h' 1072 = _
    rw [F.2.1 1072 (by decide) (by decide)]; exact M.2.2.2.1.2.1
  · show hI h' 47 17 = _
    rw [F.2.2 17 (by decide)]; exact M.2.2.2.1.2.2
  · show hI h' 1074 = _
    rw [F.2.1 1074 (by decide) (by decide)]; exact M.2.2.2.2.1.1
  · show hI h' 1073 = _
    rw [F.2.1 1073 (by decide) (by decide)]; exact M.2.2.2.2.2.1
