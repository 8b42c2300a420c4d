/-! ===== the constructors: the heap while it is built ===== -/
def vW (W : List (Nat × Nat × Int32)) (k j : Nat) : Int32 := match W with
  | [] => 0
  | e :: W => if k = e.1 ∧ j = e.2.1 then e.2.2 else vW W k j
def inD (D : List (Nat × Nat)) (k j : Nat) : Bool := match D with
  | [] => false
  | e :: D => (k == e.1 && j == e.2) || inD D k j
def isG (k : Nat) : Bool := (K1 k).1 == 5 || (K1 k).1 == 6
/-- m cells are there; of the references those of D are put, of the ints those of W -/
def Bd (m : Nat) (D : List (Nat × Nat)) (W : List (Nat × Nat × Int32)) (L : Nat) (xs : Nat → Int32) (h : hp) : Prop :=
  (hN h = m ∧ 2 ≤ m) ∧ (hI h 0 = xs ∧ hK h 0 = (7, L) ∧ hK h 1 = (8, 6) ∧ hJ h 1 = pats) ∧
  (∀ k, 2 ≤ k → k < m → hK h k = K1 k ∧ (∀ j, hR h k j = if (isG k || inD D k j) = true then R1 k j else none) ∧ (∀ j, hJ h k j = 0) ∧ ∀ j, hI h k j = vW W k j) ∧
  (∀ k j, m ≤ k → inD D k j = false) ∧ ∀ k j, m ≤ k → vW W k j = 0
theorem Bd.new {m : Nat} {D : List (Nat × Nat)} {W : List (Nat × Nat × Int32)} {L : Nat} {xs : Nat → Int32} {h : hp} (B : Bd m D W L xs h) {t n : Nat} (hk : K1 m = (t, n)) (hg : isG m = false) : Bd (m + 1) D W L xs (hnew h t n) := by
  obtain ⟨⟨b1, b2⟩, ⟨b3, b4, b5, b6⟩, b7, b8, b9⟩ := B
  have i : ∀ k, k ≠ m → hI (hnew h t n) k = hI h k ∧ hJ (hnew h t n) k = hJ h k ∧ hR (hnew h t n) k = hR h k ∧ hK (hnew h t n) k = hK h k := fun k hk => by
    have hk : k ≠ hN h := by rw [b1]; exact hk
    exact ⟨u1_n hk, u1_n hk, u1_n hk, u1_n hk⟩
  have s : hI (hnew h t n) m = (fun _ => 0) ∧ hJ (hnew h t n) m = (fun _ => 0) ∧ hR (hnew h t n) m = (fun _ => none) ∧ hK (hnew h t n) m = (t, n) := by
    rw [← b1]; exact ⟨u1_s, u1_s, u1_s, u1_s⟩
  refine ⟨⟨by show hN h + 1 = m + 1; rw [b1], by omega⟩, ⟨(i 0 (by omega)).1.trans b3, (i 0 (by omega)).2.2.2.trans b4, (i 1 (by omega)).2.2.2.trans b5, (i 1 (by omega)).2.1.trans b6⟩, fun k x y => ?_, fun k j x => b8 k j (by omega), fun k j x => b9 k j (by omega)⟩
  by_cases e : k = m
  · rw [e, s.1, s.2.1, s.2.2.1, s.2.2.2]
    refine ⟨hk.symm, fun j => ?_, fun j => rfl, fun j => (b9 m j (Nat.le_refl _)).symm⟩
    rw [hg, b8 m j (Nat.le_refl _)]; rfl
  · obtain ⟨i1, i2, i3, i4⟩ := i k e
    rw [i1, i2, i3, i4]; exact b7 k x (by omega)
theorem Bd.grid {m : Nat} {D : List (Nat × Nat)} {W : List (Nat × Nat × Int32)} {L : Nat} {xs : Nat → Int32} {h : hp} (B : Bd m D W L xs h) {t ti n c m' : Nat} (em : m + 1 + n = m') (hk : K1 m = (t, n)) (hg : isG m = true) (hr : ∀ i, R1 m i = if i < n then some (m + 1 + i) else none) (hc : ∀ k, m < k → k ≤ m + n → K1 k = (ti, c) ∧ isG k = false) : Bd m' D W L xs (hgrid h t ti n c) := by
  obtain ⟨⟨b1, b2⟩, ⟨b3, b4, b5, b6⟩, b7, b8, b9⟩ := B
  have i : ∀ k, k < m → hI (hgrid h t ti n c) k = hI h k ∧ hJ (hgrid h t ti n c) k = hJ h k ∧ hR (hgrid h t ti n c) k = hR h k ∧ hK (hgrid h t ti n c) k = hK h k := fun k hk => by
    refine ⟨if_neg (by rw [b1]; omega), if_neg (by rw [b1]; omega), ?_, ?_⟩
    · show (if k = hN h then _ else if hN h < k ∧ k ≤ hN h + n then _ else _) = _
      rw [if_neg (by rw [b1]; omega), if_neg (by rw [b1]; omega)]
    · show (if k = hN h then _ else if hN h < k ∧ k ≤ hN h + n then _ else _) = _
      rw [if_neg (by rw [b1]; omega), if_neg (by rw [b1]; omega)]
  have z : ∀ k, m ≤ k → k < m' → hI (hgrid h t ti n c) k = (fun _ => 0) ∧ hJ (hgrid h t ti n c) k = (fun _ => 0) := fun k x y => ⟨if_pos (by rw [b1]; omega), if_pos (by rw [b1]; omega)⟩
  refine ⟨⟨by show hN h + 1 + n = m'; rw [b1]; exact em, by omega⟩, ⟨(i 0 (by omega)).1.trans b3, (i 0 (by omega)).2.2.2.trans b4, (i 1 (by omega)).2.2.2.trans b5, (i 1 (by omega)).2.1.trans b6⟩, fun k x y => ?_, fun k j x => b8 k j (by omega), fun k j x => b9 k j (by omega)⟩
  by_cases e : k < m
  · obtain ⟨i1, i2, i3, i4⟩ := i k e
    rw [i1, i2, i3, i4]; exact b7 k x e
  · obtain ⟨z1, z2⟩ := z k (by omega) y
    rw [z1, z2]
    by_cases e2 : k = m
    · rw [e2]
      refine ⟨?_, fun j => ?_, fun j => rfl, fun j => (b9 m j (Nat.le_refl _)).symm⟩
      · show (if m = hN h then _ else _) = _
        rw [if_pos b1.symm]; exact hk.symm
      · rw [hg, Bool.true_or, if_pos rfl, hr j]
        show (if m = hN h then (fun i => if i < n then some (hN h + 1 + i) else none) else _) j = _
        rw [if_pos b1.symm, b1]
    · obtain ⟨c1, c2⟩ := hc k (by omega) (by omega)
      refine ⟨?_, fun j => ?_, fun j => rfl, fun j => (b9 k j (by omega)).symm⟩
      · show (if k = hN h then _ else if hN h < k ∧ k ≤ hN h + n then _ else _) = _
        rw [if_neg (by rw [b1]; exact e2), if_pos (by rw [b1]; omega)]; exact c1.symm
      · rw [c2, b8 k j (by omega)]
        show (if k = hN h then (fun i => if i < n then some (hN h + 1 + i) else none) else if hN h < k ∧ k ≤ hN h + n then (fun _ => none) else hR h k) j = _
        rw [if_neg (by rw [b1]; exact e2), if_pos (by rw [b1]; omega)]; rfl
theorem Bd.putR {m : Nat} {D : List (Nat × Nat)} {W : List (Nat × Nat × Int32)} {L : Nat} {xs : Nat → Int32} {h : hp} (B : Bd m D W L xs h) {a i b : Nat} (ha : 2 ≤ a) (hm : a < m) (hr : R1 a i = some b) : Bd m ((a, i) :: D) W L xs (sR h a i (some b)) := by
  obtain ⟨b1, b2, b7, b8, b9⟩ := B
  refine ⟨b1, b2, fun k x y => ⟨(b7 k x y).1, fun j => ?_, (b7 k x y).2.2⟩, fun k j x => ?_, b9⟩
  · show u2 h.2.2.1 a i (some b) k j = if (isG k || ((k == a && j == i) || inD D k j)) = true then R1 k j else none
    by_cases e : k = a
    · by_cases e2 : j = i
      · rw [e, e2, u2_s, u1_s, beq_self_eq_true, beq_self_eq_true, Bool.and_true, Bool.true_or, Bool.or_true, if_pos rfl, hr]
      · rw [e, u2_s, u1_n e2, beq_eq_false_iff_ne.mpr e2, Bool.and_false, Bool.false_or]
        exact (b7 a ha hm).2.1 j
    · rw [u2_n e, beq_eq_false_iff_ne.mpr e, Bool.false_and, Bool.false_or]
      exact (b7 k x y).2.1 j
  · show ((k == a && j == i) || inD D k j) = false
    rw [beq_eq_false_iff_ne.mpr (show k ≠ a by omega), Bool.false_and, Bool.false_or]
    exact b8 k j x
theorem Bd.putI {m : Nat} {D : List (Nat × Nat)} {W : List (Nat × Nat × Int32)} {L : Nat} {xs : Nat → Int32} {h : hp} (B : Bd m D W L xs h) {a i : Nat} (v : Int32) (ha : 2 ≤ a) (hm : a < m) : Bd m D ((a, i, v) :: W) L xs (sI h a i v) := by
  obtain ⟨b1, b2, b7, b8, b9⟩ := B
  refine ⟨b1, ⟨?_, b2.2⟩, fun k x y => ⟨(b7 k x y).1, (b7 k x y).2.1, (b7 k x y).2.2.1, fun j => ?_⟩, b8, fun k j x => ?_⟩
  · show u2 h.1 a i v 0 = _
    rw [u2_n (by omega)]; exact b2.1
  · show u2 h.1 a i v k j = if k = a ∧ j = i then v else vW W k j
    by_cases e : k = a
    · by_cases e2 : j = i
      · rw [e, e2, u2_s, u1_s, if_pos ⟨rfl, rfl⟩]
      · rw [e, u2_s, u1_n e2, if_neg (fun q => e2 q.2)]
        exact (b7 a ha hm).2.2.2 j
    · rw [u2_n e, if_neg (fun q => e q.1)]
      exact (b7 k x y).2.2.2 j
  · show (if k = a ∧ j = i then v else vW W k j) = 0
    rw [if_neg (fun q => by omega)]
    exact b9 k j x
section
variable {C : callP} {j : Nat} {Q : resP} {pc : Nat} {ls : List (Nat × Value)} {st : List Value} {h : hp} {bc bs : Nat} {m : Nat} {D : List (Nat × Nat)} {W : List (Nat × Nat × Int32)} {L : Nat} {xs : Nat → Int32}
theorem b_newa (B : Bd m D W L xs h) {t : ArrayType} {x : Int32} {n : Nat} (hm : (pc, Instr.newarray t, 2) ∈ pt j) (hk : K1 m = (atag t, n)) (hg : isG m = false) (h1 : 1 ≤ atag t) (h4 : atag t ≤ 4) (hx : ¬ x < 0) (hn : x.toNatClampNeg = n) (h6 : n ≤ 60000000) (hc : 1 ≤ bc) (hs : n ≤ bs) (kk : ∀ h', Bd (m + 1) D W L xs h' → Wp C j Q (pc + 2) ls (.ref m :: st) h' (bc - 1) (bs - n)) : Wp C j Q pc ls (.int x :: st) h bc bs := by
  refine r_newa hm h1 h4 hx hn h6 hc hs ?_
  rw [B.1.1]
  exact kk _ (B.new hk hg)
theorem b_new (B : Bd m D W L xs h) {i ci q : Nat} (hm : (pc, Instr.new i, 3) ∈ pt j) (hn : nres (mO j) i = (ci, q)) (hci : ci < 10) (hk : K1 m = (0, ci)) (hg : isG m = false) (hc : 1 ≤ bc) (hs : clN ci ≤ bs) (kk : ∀ h', Bd (m + 1) D W L xs h' → Wp C j Q (pc + 3) ls (.ref m :: st) h' (bc - 1) (bs - clN ci)) : Wp C j Q pc ls st h bc bs := by
  refine r_new hm hn hci hc hs ?_
  rw [B.1.1]
  exact kk _ (B.new hk hg)
theorem b_grid (B : Bd m D W L xs h) {i : Nat} {x y : Int32} {t n k q m' : Nat} (em : m + 1 + n = m') (hm : (pc, Instr.multianewarray i 2, 4) ∈ pt j) (hg : gres (mO j) i = (t, q)) (ht : t = 5 ∨ t = 6) (hx : ¬ x < 0) (hy : ¬ y < 0) (hn : x.toNatClampNeg = n) (hk : y.toNatClampNeg = k) (h1 : n ≤ 100000) (h2 : k ≤ 100000) (hc : 1 + n ≤ bc) (hs : n + n * k ≤ bs) (gk : K1 m = (t, n)) (gg : isG m = true) (gr : ∀ i, R1 m i = if i < n then some (m + 1 + i) else none) (gc : ∀ a, m < a → a ≤ m + n → K1 a = (t - 4, k) ∧ isG a = false)
    (kk : ∀ h', Bd m' D W L xs h' → Wp C j Q (pc + 4) ls (.ref m :: st) h' (bc - (1 + n)) (bs - (n + n * k))) : Wp C j Q pc ls (.int y :: .int x :: st) h bc bs := by
  refine r_grid hm hg ht hx hy hn hk h1 h2 hc hs ?_
  rw [B.1.1]
  exact kk _ (B.grid em gk gg gr gc)
theorem b_getR (B : Bd m D W L xs h) {i a b ci k q : Nat} (hm : (pc, Instr.getfield i, 3) ∈ pt j) (hf : fres (mO j) i = (ci, k, q)) (hci : ci < 10) (hk : K1 a = (0, ci)) (ha : 2 ≤ a) (hb : a < m) (hty : ∀ u v r, pval (fT ci k) u v r = va_rf r) (hD : inD D a k = true) (hr : R1 a k = some b) (kk : Wp C j Q (pc + 3) ls (.ref b :: st) h bc bs) : Wp C j Q pc ls (.ref a :: st) h bc bs :=
  r_getR hm hf hci ((B.2.2.1 a ha hb).1.trans hk) hty (by rw [(B.2.2.1 a ha hb).2.1 k, hD, Bool.or_true, if_pos rfl]; exact hr) kk
theorem b_putR (B : Bd m D W L xs h) {i a b ci k q : Nat} (hm : (pc, Instr.putfield i, 3) ∈ pt j) (hf : fres (mO j) i = (ci, k, q)) (hci : ci < 10) (hk : K1 a = (0, ci)) (ha : 2 ≤ a) (hb : a < m) (hr : R1 a k = some b) (hfin : (clT ci k).2.2.2 = false ∨ ((clT ci k).2.2.2 = true ∧ (mY j).name = "<init>" ∧ mO j = ci)) (hty : (∃ C, fT ci k = .object C) ∨ ∃ t, fT ci k = .array t) (kk : ∀ h', Bd m ((a, k) :: D) W L xs h' → Wp C j Q (pc + 3) ls st h' bc bs) : Wp C j Q pc ls (.ref b :: .ref a :: st) h bc bs :=
  r_putR hm hf hci ((B.2.2.1 a ha hb).1.trans hk) hfin hty (kk _ (B.putR ha hb hr))
theorem b_putI (B : Bd m D W L xs h) {i a ci k q : Nat} {x : Int32} (hm : (pc, Instr.putfield i, 3) ∈ pt j) (hf : fres (mO j) i = (ci, k, q)) (hci : ci < 10) (hk : K1 a = (0, ci)) (ha : 2 ≤ a) (hb : a < m) (hfin : (clT ci k).2.2.2 = false) (hty : fT ci k = .int) (kk : ∀ h', Bd m D ((a, k, x) :: W) L xs h' → Wp C j Q (pc + 3) ls st h' bc bs) : Wp C j Q pc ls (.int x :: .ref a :: st) h bc bs :=
  r_putI hm hf hci ((B.2.2.1 a ha hb).1.trans hk) hfin hty (kk _ (B.putI x ha hb))
theorem b_putZ (B : Bd m D W L xs h) {i a ci k q : Nat} {x : Int32} (hm : (pc, Instr.putfield i, 3) ∈ pt j) (hf : fres (mO j) i = (ci, k, q)) (hci : ci < 10) (hk : K1 a = (0, ci)) (ha : 2 ≤ a) (hb : a < m) (hfin : (clT ci k).2.2.2 = false) (hty : fT ci k = .boolean) (hx : x = 0 ∨ x = 1) (kk : ∀ h', Bd m D ((a, k, x) :: W) L xs h' → Wp C j Q (pc + 3) ls st h' bc bs) : Wp C j Q pc ls (.int x :: .ref a :: st) h bc bs :=
  r_putZ hm hf hci ((B.2.2.1 a ha hb).1.trans hk) hfin hty hx (kk _ (B.putI x ha hb))
theorem b_call {d : Nat} {i kd ca n q a mc ms m' : Nat} {D' : List (Nat × Nat)} {W' : List (Nat × Nat × Int32)} {as rest : List Value} (hm : (pc, Instr.invokespecial i, 3) ∈ pt j) (hc : cres (mO j) i = (kd, ca, n, q)) (hkd : kd = 3 ∨ kd = 5) (hd : st.drop n = .ref a :: rest) (ht : (st.take n).reverse = as) (h8 : cats rest ≤ 8) (h1 : mc ≤ bc) (h2 : ms ≤ bs) (hE : Ex d ca (.ref a :: as) h mc ms (fun v h' => v = none ∧ Bd m' D' W' L xs h'))
    (kk : ∀ h', Bd m' D' W' L xs h' → Wp (Ex d) j Q (pc + 3) ls rest h' (bc - mc) (bs - ms)) : Wp (Ex d) j Q pc ls st h bc bs :=
  Wp.go (ins := .invokespecial i) (len := 3) hm (by
    show _ ∨ _
    rw [hc]
    refine Or.inr ⟨hkd, ?_⟩
    dsimp only
    rw [hd, ht]
    exact ⟨h8, mc, ms, _, h1, h2, hE, fun v h' e => by obtain ⟨rfl, e⟩ := e; exact kk h' e⟩)
end
