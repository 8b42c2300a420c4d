/-! ===== what needs itself ===== -/
noncomputable def slf (t : txt) (a : Nat) : Bool := @decide (rch t a a) (Classical.propDecidable _)
theorem slf_t {t : txt} {a : Nat} : slf t a = true ↔ rch t a a := by unfold slf; exact @decide_eq_true_iff _ (Classical.propDecidable _)
theorem slf_f {t : txt} {a : Nat} : slf t a = false ↔ ¬ rch t a a := by
  rw [← slf_t]
  exact Bool.eq_false_iff
theorem badd_mono (b : bst) (o : Option Nat) {k : Nat} (h : b.2.1 k = true) : (badd b o).2.1 k = true := by
  cases o with
  | none => exact h
  | some j =>
    unfold badd
    show (if b.2.1 j then b else _).2.1 k = true
    split
    · exact h
    · show u1 b.2.1 j true k = true
      by_cases q : k = j
      · rw [q, u1_s]
      · rw [u1_n q]; exact h
theorem badd_in (b : bst) (k : Nat) : (badd b (some k)).2.1 k = true := by
  unfold badd
  show (if b.2.1 k then b else _).2.1 k = true
  split
  · assumption
  · exact u1_s
theorem badd_only {b : bst} {o : Option Nat} {k : Nat} (h : (badd b o).2.1 k = true) : b.2.1 k = true ∨ o = some k := by
  cases o with
  | none => exact Or.inl h
  | some j =>
    unfold badd at h
    have h : (if b.2.1 j then b else (u1 b.1 b.2.2 j, u1 b.2.1 j true, b.2.2 + 1)).2.1 k = true := h
    split at h
    · exact Or.inl h
    · by_cases q : k = j
      · exact Or.inr (by rw [q])
      · have h : u1 b.2.1 j true k = true := h
        rw [u1_n q] at h
        exact Or.inl h
theorem badd_q (b : bst) (o : Option Nat) : b.2.2 ≤ (badd b o).2.2 ∧ ∀ j, j < b.2.2 → (badd b o).1 j = b.1 j := by
  cases o with
  | none => exact ⟨Nat.le_refl _, fun _ _ => rfl⟩
  | some k =>
    unfold badd
    show b.2.2 ≤ (if b.2.1 k then b else (u1 b.1 b.2.2 k, u1 b.2.1 k true, b.2.2 + 1)).2.2 ∧ ∀ j, j < b.2.2 → (if b.2.1 k then b else (u1 b.1 b.2.2 k, u1 b.2.1 k true, b.2.2 + 1)).1 j = b.1 j
    split
    · exact ⟨Nat.le_refl _, fun _ _ => rfl⟩
    · exact ⟨Nat.le_succ _, fun j hj => u1_n (by omega)⟩
theorem badd_lst {b : bst} {o : Option Nat} (h : ∀ k, b.2.1 k = true → ∃ j, j < b.2.2 ∧ b.1 j = k) : ∀ k, (badd b o).2.1 k = true → ∃ j, j < (badd b o).2.2 ∧ (badd b o).1 j = k := by
  intro k hk
  obtain ⟨q1, q2⟩ := badd_q b o
  rcases badd_only hk with g | g
  · obtain ⟨j, a, c⟩ := h k g
    exact ⟨j, by omega, by rw [q2 j a]; exact c⟩
  · subst g
    cases e : b.2.1 k with
    | true =>
      obtain ⟨j, a, c⟩ := h k e
      exact ⟨j, by omega, by rw [q2 j a]; exact c⟩
    | false =>
      have e2 : badd b (some k) = (u1 b.1 b.2.2 k, u1 b.2.1 k true, b.2.2 + 1) := by
        show (if b.2.1 k then b else _) = _
        rw [e]; rfl
      rw [e2]
      exact ⟨b.2.2, Nat.lt_succ_self _, u1_s⟩
theorem bside_q (t : txt) (b : bst) (a : Nat) : b.2.2 ≤ (bside t b a).2.2 ∧ ∀ j, j < b.2.2 → (bside t b a).1 j = b.1 j := by
  obtain ⟨p1, p2⟩ := badd_q b (sAO t a 0)
  obtain ⟨q1, q2⟩ := badd_q (badd b (sAO t a 0)) (sAO t a 1)
  exact ⟨Nat.le_trans p1 q1, fun j hj => (q2 j (by omega)).trans (p2 j hj)⟩
theorem bside_in {t : txt} {b : bst} {a c : Nat} (h : dep t a c) : (bside t b a).2.1 c = true := by
  unfold bside
  rcases h with h | h
  · apply badd_mono
    rw [h]
    exact badd_in _ _
  · rw [h]
    exact badd_in _ _
theorem bside_mono (t : txt) (b : bst) (a : Nat) {k : Nat} (h : b.2.1 k = true) : (bside t b a).2.1 k = true := badd_mono _ _ (badd_mono _ _ h)
theorem bside_only {t : txt} {b : bst} {a k : Nat} (h : (bside t b a).2.1 k = true) : b.2.1 k = true ∨ dep t a k := by
  rcases badd_only h with g | g
  · rcases badd_only g with y | y
    · exact Or.inl y
    · exact Or.inr (Or.inl y)
  · exact Or.inr (Or.inr g)
def binv (t : txt) (a i : Nat) (b : bst) : Prop := (∀ k, b.2.1 k = true → rch t a k) ∧ (∀ k, b.2.1 k = true → ∃ j, j < b.2.2 ∧ b.1 j = k) ∧ (∀ c, dep t a c → b.2.1 c = true) ∧ (∀ j, j < b.2.2 → rch t a (b.1 j)) ∧ i ≤ b.2.2 + 119 ∧ ∀ j, j < i → j < b.2.2 → ∀ c, dep t (b.1 j) c → b.2.1 c = true
theorem badd_r {t : txt} {a : Nat} {b : bst} {o : Option Nat} (h : ∀ j, j < b.2.2 → rch t a (b.1 j)) (ho : ∀ k, o = some k → rch t a k) : ∀ j, j < (badd b o).2.2 → rch t a ((badd b o).1 j) := by
  cases o with
  | none => exact h
  | some k =>
    cases e : b.2.1 k with
    | true =>
      have e2 : badd b (some k) = b := by
        show (if b.2.1 k then b else _) = _
        rw [e]; rfl
      rw [e2]; exact h
    | false =>
      have e2 : badd b (some k) = (u1 b.1 b.2.2 k, u1 b.2.1 k true, b.2.2 + 1) := by
        show (if b.2.1 k then b else _) = _
        rw [e]; rfl
      rw [e2]
      intro j hj
      show rch t a (u1 b.1 b.2.2 k j)
      have hj : j < b.2.2 + 1 := hj
      by_cases q : j = b.2.2
      · rw [q, u1_s]; exact ho k rfl
      · rw [u1_n q]; exact h j (by omega)
theorem bloop_end {t : txt} {a : Nat} : ∀ (m i : Nat) (b : bst), i + m = 119 → binv t a i b → (bloop t m i b).2.2 ≤ 119 → ∀ k, (bloop t m i b).2.1 k = true ↔ rch t a k := by
  have fin : ∀ (i : Nat) (b : bst), binv t a i b → b.2.2 ≤ i → ∀ k, b.2.1 k = true ↔ rch t a k := by
    intro i b B hi k
    refine ⟨B.1 k, fun r => r (fun k => b.2.1 k = true) B.2.2.1 (fun c e hc d => ?_)⟩
    obtain ⟨j, j1, j2⟩ := B.2.1 c hc
    exact B.2.2.2.2.2 j (by omega) j1 e (by rw [j2]; exact d)
  intro m
  induction m with
  | zero =>
    intro i b hm B hb
    exact fin i b B (by have : b.2.2 ≤ 119 := hb; omega)
  | succ m ih =>
    intro i b hm B hb
    by_cases g : i < b.2.2
    · have e : bloop t (m + 1) i b = bloop t m (i + 1) (bside t b (b.1 i)) := if_pos g
      rw [e] at hb ⊢
      obtain ⟨q1, q2⟩ := bside_q t b (b.1 i)
      have r0 := B.2.2.2.1 i g
      refine ih (i + 1) _ (by omega) ⟨fun k hk => ?_, badd_lst (badd_lst B.2.1), fun c hc => bside_mono t b _ (B.2.2.1 c hc), badd_r (badd_r B.2.2.2.1 (fun k hk => rch_s r0 (Or.inl hk))) (fun k hk => rch_s r0 (Or.inr hk)), by omega, fun j hj hj2 c hc => ?_⟩ hb
      · rcases bside_only hk with y | y
        · exact B.1 k y
        · exact rch_s r0 y
      · rw [q2 j (by omega)] at hc
        by_cases y : j = i
        · rw [y] at hc; exact bside_in hc
        · exact bside_mono t b _ (B.2.2.2.2.2 j (by omega) (by omega) c hc)
    · have e : bloop t (m + 1) i b = b := if_neg g
      rw [e]
      exact fin i b B (by omega)
theorem bres_is {t : txt} {a : Nat} (hb : (bres t a).2.2 ≤ 119) : (bres t a).2.1 a = slf t a := by
  have B0 : binv t a 0 (bside t b00 a) := by
    refine ⟨fun k hk => ?_, badd_lst (badd_lst (fun k hk => by cases hk)), fun c hc => bside_in hc, badd_r (badd_r (fun j hj => absurd hj (Nat.not_lt_zero j)) (fun k hk => rch_1 (Or.inl hk))) (fun k hk => rch_1 (Or.inr hk)), Nat.zero_le _, fun j hj => absurd hj (Nat.not_lt_zero j)⟩
    rcases bside_only hk with y | y
    · cases y
    · exact rch_1 y
  have := bloop_end 119 0 _ rfl B0 hb a
  cases e : slf t a with
  | true => exact this.mpr (slf_t.mp e)
  | false =>
    apply Bool.eq_false_iff.mpr
    intro y
    exact slf_f.mp e (this.mp y)
/-! ===== an order ===== -/
abbrev ost : Type := (Nat → Nat) × (Nat → Option Nat)
noncomputable def arr (t : txt) : Nat → Nat → ost → Bool × ost
  | 0, _, s => (true, s)
  | m + 1, i, s => match frdy t s.2 with
    | some k => arr t m (i + 1) (u1 s.1 i k, u1 s.2 k (some i))
    | none => (false, s)
def o00 : ost := (fun _ => 0, fun _ => none)
def ainv (t : txt) (i : Nat) (s : ost) : Prop := (∀ k j, s.2 k = some j → j < i ∧ s.1 j = k ∧ k < tN t) ∧ (∀ j, j < i → s.1 j < tN t ∧ s.2 (s.1 j) = some j) ∧ (∀ k j b, s.2 k = some j → dep t k b → ∃ j', s.2 b = some j' ∧ j' < j) ∧ cntB (fun k => (s.2 k).isSome) (tN t) = i
theorem frdy_some {t : txt} {rk : Nat → Option Nat} {k : Nat} (h : frdy t rk = some k) : k < tN t ∧ rk k = none ∧ ∀ b, dep t k b → (rk b).isSome = true := by
  unfold frdy at h
  split at h
  · rename_i g
    have e : lst (rdy t rk) (tN t) = k := Option.some.inj h
    have hr := (lst_facts (rdy t rk) (tN t)).2.2 g
    rw [e] at g hr
    unfold rdy at hr
    rw [Bool.and_eq_true, Bool.and_eq_true] at hr
    obtain ⟨⟨r1, r2⟩, r3⟩ := hr
    refine ⟨g, ?_, fun b hb => ?_⟩
    · cases e2 : rk k with
      | none => rfl
      | some j => rw [e2] at r1; cases r1
    · rcases hb with hb | hb
      · unfold thr at r2
        unfold sAO at hb
        rw [hb] at r2
        exact r2
      · unfold thr at r3
        unfold sAO at hb
        rw [hb] at r3
        exact r3
  · cases h
theorem frdy_none {t : txt} {rk : Nat → Option Nat} (h : frdy t rk = none) : ∀ k, k < tN t → rk k = none → ∃ b, dep t k b ∧ rk b = none := by
  intro k hk hn
  unfold frdy at h
  split at h
  · cases h
  · rename_i g
    have hr := (lst_facts (rdy t rk) (tN t)).2.1 k (by have := (lst_facts (rdy t rk) (tN t)).1; omega)
    unfold rdy at hr
    rw [hn] at hr
    have two : ∀ j, thr t rk (sid t k j) = false → ∃ b, sAO t k j = some b ∧ rk b = none := by
      intro j e
      unfold thr at e
      cases e2 : AO (tD t) (tn t) (sid t k j) with
      | none => rw [e2] at e; cases e
      | some b =>
        rw [e2] at e
        refine ⟨b, e2, ?_⟩
        cases e3 : rk b with
        | none => rfl
        | some i => have e : (rk b).isSome = false := e; rw [e3] at e; cases e
    cases e0 : thr t rk (sid t k 0) with
    | false =>
      obtain ⟨b, b1, b2⟩ := two 0 e0
      exact ⟨b, Or.inl b1, b2⟩
    | true =>
      cases e1 : thr t rk (sid t k 1) with
      | false =>
        obtain ⟨b, b1, b2⟩ := two 1 e1
        exact ⟨b, Or.inr b1, b2⟩
      | true => rw [e0, e1] at hr; cases hr
theorem ainv_0 (t : txt) : ainv t 0 o00 := ⟨fun k j h => (by cases h), fun j hj => absurd hj (Nat.not_lt_zero j), fun k j b h => (by cases h), cntB_0 _⟩
theorem ainv_s {t : txt} {i k : Nat} {s : ost} (I : ainv t i s) (h : frdy t s.2 = some k) : ainv t (i + 1) (u1 s.1 i k, u1 s.2 k (some i)) := by
  obtain ⟨f1, f2, f3⟩ := frdy_some h
  obtain ⟨a1, a2, a3, a4⟩ := I
  have hne : ∀ j, j < i → s.1 j ≠ k := fun j hj e => by
    have := (a2 j hj).2
    rw [e, f2] at this
    cases this
  refine ⟨fun k' j hj => ?_, fun j hj => ?_, fun k' j b hj hd => ?_, ?_⟩
  · have hj : u1 s.2 k (some i) k' = some j := hj
    show j < i + 1 ∧ u1 s.1 i k j = k' ∧ k' < tN t
    by_cases q : k' = k
    · rw [q, u1_s] at hj
      cases hj
      rw [u1_s, q]
      exact ⟨Nat.lt_succ_self _, rfl, f1⟩
    · rw [u1_n q] at hj
      obtain ⟨x, y, w⟩ := a1 k' j hj
      rw [u1_n (by omega)]
      exact ⟨by omega, y, w⟩
  · show u1 s.1 i k j < tN t ∧ u1 s.2 k (some i) (u1 s.1 i k j) = some j
    by_cases q : j = i
    · rw [q, u1_s, u1_s]; exact ⟨f1, rfl⟩
    · rw [u1_n q, u1_n (hne j (by omega))]
      exact a2 j (by omega)
  · have hj : u1 s.2 k (some i) k' = some j := hj
    show ∃ j', u1 s.2 k (some i) b = some j' ∧ j' < j
    have key : ∀ j', s.2 b = some j' → u1 s.2 k (some i) b = some j' := fun j' hb => by
      have q : b ≠ k := fun e => by rw [e, f2] at hb; cases hb
      rw [u1_n q]; exact hb
    by_cases q : k' = k
    · rw [q, u1_s] at hj
      cases hj
      rw [q] at hd
      have := f3 b hd
      cases e : s.2 b with
      | none => rw [e] at this; cases this
      | some j' => exact ⟨j', key j' e, (a1 b j' e).1⟩
    · rw [u1_n q] at hj
      obtain ⟨j', x, y⟩ := a3 k' j b hj hd
      exact ⟨j', key j' x, y⟩
  · show cntB (fun x => (u1 s.2 k (some i) x).isSome) (tN t) = i + 1
    rw [cntB_upd (f := fun x => (s.2 x).isSome) (w := k) (by rw [f2]; rfl) (by show (u1 s.2 k (some i) k).isSome = true; rw [u1_s]; rfl) (fun x hx => by show (u1 s.2 k (some i) x).isSome = _; rw [u1_n hx]) (tN t) f1, a4]
theorem ainv_all {t : txt} {s : ost} (I : ainv t (tN t) s) {k : Nat} (hk : k < tN t) : ∃ j, s.2 k = some j ∧ j < tN t := by
  cases e : s.2 k with
  | none =>
    have := cntB_free (f := fun x => (s.2 x).isSome) (w := k) (by rw [e]; rfl) (tN t) hk
    rw [I.2.2.2] at this
    omega
  | some j => exact ⟨j, rfl, (I.1 k j e).1⟩
theorem ainv_no {t : txt} {s : ost} (I : ainv t (tN t) s) {k : Nat} (hk : k < tN t) : ¬ rch t k k := by
  obtain ⟨j, e, _⟩ := ainv_all I hk
  intro r
  obtain ⟨j', x, y⟩ := r (fun b => ∃ j', s.2 b = some j' ∧ j' < j) (fun c hc => I.2.2.1 k j c e hc) (fun c b hc hd => by
    obtain ⟨j1, x1, y1⟩ := hc
    obtain ⟨j2, x2, y2⟩ := I.2.2.1 c j1 b x1 hd
    exact ⟨j2, x2, by omega⟩)
  rw [e] at x
  cases x
  omega
noncomputable def mur (t : txt) (k : Nat) : Nat := cntB (fun b => @decide (rch t k b) (Classical.propDecidable _)) (tN t)
theorem cntB_sub {f g : Nat → Bool} {w : Nat} (hs : ∀ i, f i = true → g i = true) (hw : f w = false) (hg : g w = true) : ∀ m, w < m → cntB f m < cntB g m
  | 0, h => absurd h (Nat.not_lt_zero w)
  | m + 1, h => by
    show cntB f m + (if f m then 1 else 0) < cntB g m + (if g m then 1 else 0)
    by_cases q : w = m
    · subst q
      rw [hw, hg]
      have : ∀ m, cntB f m ≤ cntB g m := by
        intro m
        induction m with
        | zero => exact Nat.le_refl _
        | succ m ih =>
          show cntB f m + (if f m then 1 else 0) ≤ cntB g m + (if g m then 1 else 0)
          cases e : f m with
          | false => have : (if false = true then 1 else 0) = 0 := rfl; omega
          | true => rw [hs m e]; omega
      have := this w
      show cntB f w + 0 < cntB g w + 1
      omega
    · have ih := cntB_sub hs hw hg m (by omega)
      cases e : f m with
      | false => have : (if false = true then 1 else 0) = 0 := rfl; omega
      | true => rw [hs m e]; omega
theorem stuck_self {t : txt} (hlt : ∀ a b, a < tN t → dep t a b → b < tN t) {i : Nat} {s : ost} (I : ainv t i s) (hi : i < tN t) (h : frdy t s.2 = none) : ∃ k, k < tN t ∧ rch t k k := by
  apply Classical.byContradiction
  intro hno
  have hno : ∀ k, k < tN t → ¬ rch t k k := fun k hk r => hno ⟨k, hk, r⟩
  have hall : ∀ N k, mur t k ≤ N → k < tN t → s.2 k = none → False := by
    intro N
    induction N with
    | zero =>
      intro k hN hk hn
      obtain ⟨b, d, e⟩ := frdy_none h k hk hn
      have hb := hlt k b hk d
      have : cntB (fun _ => false) (tN t) < mur t k := cntB_sub (fun _ y => by cases y) rfl (@decide_eq_true _ (Classical.propDecidable _) (rch_1 d)) (tN t) hb
      omega
    | succ N ih =>
      intro k hN hk hn
      obtain ⟨b, d, e⟩ := frdy_none h k hk hn
      have hb := hlt k b hk d
      refine ih b ?_ hb e
      have : mur t b < mur t k := cntB_sub (f := fun y => @decide (rch t b y) (Classical.propDecidable _)) (g := fun y => @decide (rch t k y) (Classical.propDecidable _)) (w := b) (fun x hx => @decide_eq_true _ (Classical.propDecidable _) (rch_tr (rch_1 d) (@of_decide_eq_true _ (Classical.propDecidable _) hx))) (@decide_eq_false _ (Classical.propDecidable _) (hno b hb)) (@decide_eq_true _ (Classical.propDecidable _) (rch_1 d)) (tN t) hb
      omega
  have : ∃ k, k < tN t ∧ s.2 k = none := by
    apply Classical.byContradiction
    intro hc
    have : cntB (fun k => (s.2 k).isSome) (tN t) = cntB (fun _ => true) (tN t) := cntB_same (tN t) (fun k hk => by
      cases e : s.2 k with
      | none => exact absurd ⟨k, hk, e⟩ hc
      | some j => rfl)
    have ht : ∀ m, cntB (fun _ => true) m = m := by
      intro m
      induction m with
      | zero => rfl
      | succ m ih => show cntB (fun _ => true) m + 1 = m + 1; rw [ih]
    rw [I.2.2.2, ht] at this
    omega
  obtain ⟨k, hk, e⟩ := this
  exact hall (mur t k) k (Nat.le_refl _) hk e
theorem arr_res {t : txt} (hlt : ∀ a b, a < tN t → dep t a b → b < tN t) : ∀ (m i : Nat) (s : ost), i + m = tN t → ainv t i s → ((arr t m i s).1 = true ∧ ainv t (tN t) (arr t m i s).2 ∧ lst (slf t) (tN t) = tN t) ∨ ((arr t m i s).1 = false ∧ lst (slf t) (tN t) < tN t) := by
  intro m
  induction m with
  | zero =>
    intro i s hm I
    have e : i = tN t := by omega
    subst e
    exact Or.inl ⟨rfl, I, lst_no (fun k hk => slf_f.mpr (ainv_no I hk))⟩
  | succ m ih =>
    intro i s hm I
    cases e : frdy t s.2 with
    | some k =>
      have e2 : arr t (m + 1) i s = arr t m (i + 1) (u1 s.1 i k, u1 s.2 k (some i)) := by
        show (match frdy t s.2 with
          | some k => arr t m (i + 1) (u1 s.1 i k, u1 s.2 k (some i))
          | none => (false, s)) = _
        rw [e]
      rw [e2]
      exact ih (i + 1) _ (by omega) (ainv_s I e)
    | none =>
      have e2 : arr t (m + 1) i s = (false, s) := by
        show (match frdy t s.2 with
          | some k => arr t m (i + 1) (u1 s.1 i k, u1 s.2 k (some i))
          | none => (false, s)) = _
        rw [e]
      rw [e2]
      refine Or.inr ⟨rfl, ?_⟩
      obtain ⟨k, hk, r⟩ := stuck_self hlt I (by omega) e
      rcases Nat.lt_or_ge (lst (slf t) (tN t)) (tN t) with y | y
      · exact y
      · have := (lst_facts (slf t) (tN t)).2.1 k (by omega)
        exact absurd r (slf_f.mp this)
