/-! ===== a text, read: pure ===== -/
def PI (m : Nat) (s : pst) : Prop := (∀ v, s.2.1 v ≤ m) ∧ (s.2.2.2.1 = false → ∀ i, i < s.2.2.1.2.2 → 2 ≤ s.2.2.1.1 i)
theorem PI.ex {m : Nat} {B : Nat → Int32} {z c : Nat} {s s' : pst} (P : PI m s) (h : Fex B z c s = .ok s') : PI m s' := by
  have e := Fex_ok h
  unfold PI at *
  rw [e]; exact P
theorem PI.df {m : Nat} {B : Nat → Int32} {z H j : Nat} {s s' : pst} (P : PI m s) (h : Fdef B z H j s = .ok s') (hj : j ≤ m) : PI m s' := by
  unfold Fdef at h
  split at h
  · split at h
    · cases h
    · injection h with h
      subst h
      refine ⟨fun v => ?_, P.2⟩
      show u1 s.2.1 _ j v ≤ m
      by_cases e : v = (numP B z s.1).1 / 2
      · rw [e, u1_s]; exact hj
      · rw [u1_n e]; exact P.1 v
  · cases h
theorem PI.us {m : Nat} {B : Nat → Int32} {z H : Nat} {s s' : pst} (P : PI m s) (h : Fuse B z H s = .ok s') : PI m s' := by
  unfold Fuse at h
  split at h
  · split at h
    · cases h
    · injection h with h
      subst h
      refine ⟨P.1, fun k i hi => ?_⟩
      have k : (s.2.2.2.1 || decide ((numP B z s.1).1 < 2)) = false := k
      rw [Bool.or_eq_false_iff] at k
      have k2 := of_decide_eq_false k.2
      have hi : i < s.2.2.1.2.2 + 1 := hi
      show 2 ≤ u1 s.2.2.1.1 s.2.2.1.2.2 _ i
      by_cases e : i = s.2.2.1.2.2
      · rw [e, u1_s]; omega
      · rw [u1_n e]; exact P.2 k.1 i (by omega)
  · cases h
theorem PI.ins {B : Nat → Int32} {z H M : Nat} : ∀ (m i : Nat) (s s' : pst), Fins B z H m i s = .ok s' → i + m ≤ M → PI M s → PI M s'
  | 0, _, s, s', h, _, P => by
    have h : (Except.ok s : pres) = .ok s' := h
    injection h with h
    subst h; exact P
  | m + 1, i, s, s', h, hm, P => by
    obtain ⟨a, h1, h2⟩ := bind_ok h
    obtain ⟨b, h3, h4⟩ := bind_ok h1
    exact PI.ins m (i + 1) a s' h2 (by omega) ((P.df h3 (by omega)).ex h4)
theorem PI.outs {B : Nat → Int32} {z H M : Nat} : ∀ (m : Nat) (s s' : pst), Fouts B z H m s = .ok s' → PI M s → PI M s'
  | 0, s, s', h, P => by
    have h : (Except.ok s : pres) = .ok s' := h
    injection h with h
    subst h; exact P
  | m + 1, s, s', h, P => by
    obtain ⟨a, h1, h2⟩ := bind_ok h
    obtain ⟨b, h3, h4⟩ := bind_ok h1
    exact PI.outs m a s' h2 ((P.us h3).ex h4)
theorem Fline_ok {B : Nat → Int32} {z H n M : Nat} {s s' : pst} (h : Fline B z H n s = .ok s') (P : PI M s) (hm : n + 1 + s.2.2.2.2.2 ≤ M) : PI M s' ∧ s'.2.2.2.2.2 = s.2.2.2.2.2 + 1 ∧ s'.2.2.1.2.2 = s.2.2.1.2.2 + 2 := by
  obtain ⟨a5, h5, k6⟩ := bind_ok h
  obtain ⟨a4, h4, k5⟩ := bind_ok h5
  obtain ⟨a3, h3, k4⟩ := bind_ok h4
  obtain ⟨a2, h2, k3⟩ := bind_ok h3
  obtain ⟨a1, h1, k2⟩ := bind_ok h2
  have P0 : PI M (Fap s) := P
  have P1 := P0.df h1 hm
  refine ⟨((((P1.ex k2).us k3).ex k4).us k5).ex k6, ?_, ?_⟩
  · rw [Fex_ok k6, (Fuse_ok k5).2, Fex_ok k4, (Fuse_ok k3).2, Fex_ok k2, Fdef_ok h1]; rfl
  · rw [Fex_ok k6, (Fuse_ok k5).1, Fex_ok k4, (Fuse_ok k3).1, Fex_ok k2, Fdef_ok h1]; rfl
theorem PI.ands {B : Nat → Int32} {z H n M : Nat} : ∀ (m : Nat) (s s' : pst), Fands B z H n m s = .ok s' → n + s.2.2.2.2.2 + m ≤ M → PI M s → PI M s' ∧ s'.2.2.2.2.2 = s.2.2.2.2.2 + m ∧ s'.2.2.1.2.2 = s.2.2.1.2.2 + 2 * m
  | 0, s, s', h, _, P => by
    have h : (Except.ok s : pres) = .ok s' := h
    injection h with h
    subst h; exact ⟨P, rfl, rfl⟩
  | m + 1, s, s', h, hm, P => by
    obtain ⟨a, h1, h2⟩ := bind_ok h
    obtain ⟨P1, e1, e2⟩ := Fline_ok h1 P (by omega)
    obtain ⟨P2, e3, e4⟩ := PI.ands m a s' h2 (by omega) P1
    exact ⟨P2, by omega, by omega⟩
theorem Fnd_ok : ∀ (m k : Nat) (s s' : pst), Fnd m k s = .ok s' → s' = s ∧ ∀ i, k ≤ i → i < k + m → s.2.2.1.1 i / 2 = 0 ∨ s.2.1 (s.2.2.1.1 i / 2) ≠ 0
  | 0, k, s, s', h => by
    have h : (Except.ok s : pres) = .ok s' := h
    injection h with h
    exact ⟨h.symm, fun i a b => by omega⟩
  | m + 1, k, s, s', h => by
    unfold Fnd at h
    split at h
    · cases h
    · rename_i q
      obtain ⟨e, H⟩ := Fnd_ok m (k + 1) s s' h
      refine ⟨e, fun i a b => ?_⟩
      by_cases ei : i = k
      · rw [ei]
        by_cases y : s.2.2.1.1 k / 2 = 0
        · exact Or.inl y
        · exact Or.inr (fun w => q ⟨by omega, w⟩)
      · exact H i (by omega) (by omega)
theorem Fend_ok {z : Nat} {s s' : pst} (h : Fend z s = .ok s') : s' = s := by
  unfold Fend at h
  split at h
  · cases h
  · injection h with h; exact h.symm
theorem body_ok {B : Nat → Int32} {z n a : Nat} {hv : Nat → Nat} {s : pst} (h : Fbody B z n hv (a, s00.2) = .ok s) : PI (n + hv 4) s ∧ s.2.2.2.2.2 = hv 4 ∧ s.2.2.1.2.2 = hv 3 + 2 * hv 4 ∧ ∀ i, i < hv 3 + 2 * hv 4 → s.2.2.1.1 i / 2 = 0 ∨ s.2.1 (s.2.2.1.1 i / 2) ≠ 0 := by
  obtain ⟨s4, h4, k5⟩ := bind_ok h
  obtain ⟨s3, h3, k4⟩ := bind_ok h4
  obtain ⟨s2, h2, k3⟩ := bind_ok h3
  obtain ⟨s1, h1, k2⟩ := bind_ok h2
  have P0 : PI (n + hv 4) (a, s00.2) := ⟨fun _ => Nat.zero_le _, fun _ i hi => absurd hi (Nat.not_lt_zero i)⟩
  have P1 := PI.ins n 0 _ _ h1 (by omega) P0
  have P2 := PI.outs _ _ _ k2 P1
  have e1 := Fins_ok _ _ _ _ h1
  obtain ⟨e2, e3⟩ := Fouts_ok _ _ _ k2
  have x1 : s1.2.2.1.2.2 = 0 := by rw [e1]; rfl
  have x2 : s1.2.2.2.2.2 = 0 := by rw [e1]; rfl
  have x3 : s2.2.2.2.2.2 = 0 := by rw [e3]; exact x2
  obtain ⟨P3, e4, e5⟩ := PI.ands _ _ _ k3 (by rw [x3]; omega) P2
  have e6 := Fend_ok k4
  obtain ⟨e7, H⟩ := Fnd_ok _ _ _ _ k5
  have k7 : s = s3 := by rw [e7, e6]
  have k6 : s.2.2.1.2.2 = hv 3 + 2 * hv 4 := by rw [k7, e5, e2, x1]; omega
  refine ⟨by rw [k7]; exact P3, by rw [k7, e4, x3]; omega, k6, fun i hi => ?_⟩
  have := H i (Nat.zero_le _) (by rw [← e7, k6]; omega)
  rw [← e7] at this
  exact this
/-- the signal that a literal becomes is there -/
theorem sgn_lt {t : txt} {K : Bool} {rk : Nat → Option Nat} {lit i : Nat} (hK : K = false → 2 ≤ lit) (hd : lit / 2 = 0 ∨ tD t (lit / 2) ≠ 0) (hr : ∀ b, AO (tD t) (tn t) lit = some b → ∃ j, rk b = some j ∧ j < i) : sgn t K rk lit < tn t + k0 K + i := by
  unfold sgn
  by_cases y : lit / 2 = 0
  · rw [if_pos y]
    cases K with
    | false => have := hK rfl; omega
    | true => show tn t < tn t + 1 + i; omega
  · rw [if_neg y]
    cases q : AO (tD t) (tn t) lit with
    | none =>
      unfold AO at q
      split at q
      · cases q
      · rename_i w
        show tD t (lit / 2) - 1 < _
        rcases hd with x | x
        · exact absurd x y
        · omega
    | some b =>
      obtain ⟨j, e1, e2⟩ := hr b q
      show tn t + (if K then 1 else 0) + (rk b).getD 0 < _
      rw [e1]
      show tn t + k0 K + j < _
      omega
theorem pl_not {v : Nat} (h : v < 2 ^ 31) : pl (nI v ^^^ (-1)) = nI v := by
  have h0 : ¬ nI v < 0 := nI_pos h
  have h1 : nI v ^^^ (-1) < 0 := by
    rw [ltz] at h0 ⊢
    show ((nI v).toBitVec ^^^ (-1 : Int32).toBitVec).msb = true
    rw [show (-1 : Int32).toBitVec = BitVec.allOnes 32 by decide, BitVec.xor_allOnes, BitVec.msb_not]
    cases e : (nI v).toBitVec.msb with
    | true => exact absurd e h0
    | false => rfl
  unfold pl
  rw [if_pos h1]
  exact Int32.toBitVec_inj.mp (by
    show ((nI v).toBitVec ^^^ (-1 : Int32).toBitVec) ^^^ (-1 : Int32).toBitVec = (nI v).toBitVec
    rw [BitVec.xor_assoc, BitVec.xor_self, BitVec.xor_zero])
theorem pl_sg {t : txt} {K : Bool} {rk : Nat → Option Nat} {lit m : Nat} (h : sgn t K rk lit < m) (hm : m < 2 ^ 31) : pl (sg t K rk lit) < nI m := by
  have e : pl (sg t K rk lit) = nI (sgn t K rk lit) := by
    unfold sg
    split
    · exact pl_pos (nI_pos' (by omega))
    · exact pl_not (by omega)
  rw [e]
  exact nI_lt h hm
/-- the sides of the gates that are filled in -/
def sok (t : txt) (K : Bool) (o : ost) (i : Nat) : Prop := pl (sg t K o.2 (sid t (o.1 i) 0)) < nI (tn t + (k0 K + i)) ∧ pl (sg t K o.2 (sid t (o.1 i) 1)) < nI (tn t + (k0 K + i))
theorem flA_ok {t : txt} {K : Bool} {o : ost} : ∀ (m i : Nat) (c : cir), (∀ g, g < k0 K + i → cok (tn t) c g) → (∀ j, i ≤ j → j < i + m → sok t K o j) → ∀ g, g < k0 K + (i + m) → cok (tn t) (flA t K o m i c) g
  | 0, i, c, H, _ => H
  | m + 1, i, c, H, W => by
    have w := W i (Nat.le_refl _) (by omega)
    have := flA_ok m (i + 1) (addg c (k0 K + i) 0 (sg t K o.2 (sid t (o.1 i) 0)) (sg t K o.2 (sid t (o.1 i) 1)) 0) (fun g hg => ?_) (fun j a b => W j (by omega) (by omega))
    · intro g hg
      exact this g (by omega)
    · by_cases e : g = k0 K + i
      · rw [e]
        unfold cok addg
        show (∃ k, k ≤ 8 ∧ u1 c.1 _ 0 _ = nI k) ∧ (u1 c.1 _ 0 _ ≠ 8 → pl (u1 c.2.1 _ _ _) < nI (tn t + (k0 K + i)) ∧ pl (u1 c.2.2.1 _ _ _) < nI (tn t + (k0 K + i))) ∧ (u1 c.1 _ 0 _ = 6 ∨ u1 c.1 _ 0 _ = 7 → pl (u1 c.2.2.2 _ 0 _) < nI (tn t + (k0 K + i)))
        rw [u1_s, u1_s, u1_s, u1_s]
        exact ⟨⟨0, by decide, rfl⟩, fun _ => w, fun y => by rcases y with y | y <;> exact absurd y (by decide)⟩
      · exact cok_add (by omega) (H g (by omega))
theorem fl0_ok {n : Nat} (K : Bool) (c : cir) : ∀ g, g < k0 K + 0 → cok n (fl0 K c) g := by
  intro g hg
  cases K with
  | false => exact absurd hg (Nat.not_lt_zero g)
  | true =>
    have : g = 0 := by have : g < 1 := hg; omega
    rw [this]
    show cok n (addg c 0 8 0 0 0) 0
    unfold cok addg
    show (∃ k, k ≤ 8 ∧ u1 c.1 0 8 0 = nI k) ∧ (u1 c.1 0 8 0 ≠ 8 → _) ∧ (u1 c.1 0 8 0 = 6 ∨ u1 c.1 0 8 0 = 7 → _)
    rw [u1_s]
    exact ⟨⟨8, by decide, rfl⟩, fun y => absurd rfl y, fun y => by rcases y with y | y <;> exact absurd y (by decide)⟩
theorem flO_ok {t : txt} {K : Bool} {o : ost} {x : Int32} : ∀ (m i : Nat) (w : Nat → Int32), (∀ j, j < i → pl (w j) < x) → (∀ j, i ≤ j → j < i + m → pl (sg t K o.2 (tU t j)) < x) → ∀ j, j < i + m → pl (flO t K o m i w j) < x
  | 0, i, w, H, _ => H
  | m + 1, i, w, H, W => by
    intro j hj
    refine flO_ok m (i + 1) (u1 w i (sg t K o.2 (tU t i))) (fun j' hj' => ?_) (fun j' a b => W j' (by omega) (by omega)) j (by omega)
    by_cases e : j' = i
    · rw [e, u1_s]; exact W i (Nat.le_refl _) (by omega)
    · rw [u1_n e]; exact H j' (by omega)
/-- the whole text -/
noncomputable def Fall (B : Nat → Int32) (z n : Nat) : Except (Nat × Nat) (Bool × txt × (Nat → Nat)) := match Fhead B z n with
  | .error e => .error e
  | .ok q => match Fbody B z n q.2 (q.1, s00.2) with
    | .error e => .error e
    | .ok s => if lst (slf (s.2.1, s.2.2.1.1, n, q.2 3, q.2 4)) (q.2 4) < q.2 4 then .error (6, s.2.2.2.2.1 (lst (slf (s.2.1, s.2.2.1.1, n, q.2 3, q.2 4)) (q.2 4))) else .ok (s.2.2.2.1, (s.2.1, s.2.2.1.1, n, q.2 3, q.2 4), s.2.2.2.2.1)
theorem Fall_1 {B : Nat → Int32} {z n : Nat} {e : Nat × Nat} (h : Fhead B z n = .error e) : Fall B z n = .error e := by
  unfold Fall; rw [h]
theorem Fall_2 {B : Nat → Int32} {z n : Nat} {q : Nat × (Nat → Nat)} {e : Nat × Nat} (h : Fhead B z n = .ok q) (h2 : Fbody B z n q.2 (q.1, s00.2) = .error e) : Fall B z n = .error e := by
  unfold Fall; rw [h]; show (match Fbody B z n q.2 (q.1, s00.2) with | .error e => _ | .ok s => _) = _; rw [h2]
theorem Fall_3 {B : Nat → Int32} {z n : Nat} {q : Nat × (Nat → Nat)} {s : pst} (h : Fhead B z n = .ok q) (h2 : Fbody B z n q.2 (q.1, s00.2) = .ok s) : Fall B z n = if lst (slf (s.2.1, s.2.2.1.1, n, q.2 3, q.2 4)) (q.2 4) < q.2 4 then .error (6, s.2.2.2.2.1 (lst (slf (s.2.1, s.2.2.1.1, n, q.2 3, q.2 4)) (q.2 4))) else .ok (s.2.2.2.1, (s.2.1, s.2.2.1.1, n, q.2 3, q.2 4), s.2.2.2.2.1) := by
  unfold Fall; rw [h]; show (match Fbody B z n q.2 (q.1, s00.2) with | .error e => _ | .ok s => _) = _; rw [h2]
noncomputable abbrev tor (t : txt) : ost := (arr t (tN t) 0 o00).2
/-- what holds of a good text -/
def tok (K : Bool) (t : txt) : Prop := (tn t ≤ 12 ∧ tO t ≤ 10 ∧ tN t ≤ 119) ∧ (∀ v, tD t v ≤ tn t + tN t) ∧ (∀ i, i < tO t + 2 * tN t → tU t i / 2 = 0 ∨ tD t (tU t i / 2) ≠ 0) ∧ (K = false → ∀ i, i < tO t + 2 * tN t → 2 ≤ tU t i) ∧ ainv t (tN t) (tor t)
theorem tok_fok {K : Bool} {t : txt} (T : tok K t) : fok t (tor t) := ⟨fun k hk => by
  obtain ⟨j, e, _⟩ := ainv_all T.2.2.2.2 hk
  rw [e]; rfl, fun j hj => (T.2.2.2.2.2.1 j hj).1, T.2.2.1⟩
theorem AO_lt2 {t : txt} (hD : ∀ v, tD t v ≤ tn t + tN t) {lit b : Nat} (e : AO (tD t) (tn t) lit = some b) : b < tN t := by
  unfold AO at e
  split at e
  · injection e with e
    have := hD (lit / 2)
    omega
  · cases e
theorem dep_lt2 {t : txt} (hD : ∀ v, tD t v ≤ tn t + tN t) (a b : Nat) (_ : a < tN t) (d : dep t a b) : b < tN t := by
  rcases d with d | d
  · exact AO_lt2 hD d
  · exact AO_lt2 hD d
theorem tok_sok {K : Bool} {t : txt} (T : tok K t) {i : Nat} (hi : i < tN t) : sok t K (tor t) i := by
  obtain ⟨⟨b1, b2, b3⟩, hD, hU, hK, I⟩ := T
  have ho := (I.2.1 i hi)
  have k1 : k0 K ≤ 1 := by cases K <;> decide
  have one : ∀ j, j ≤ 1 → pl (sg t K (tor t).2 (sid t ((tor t).1 i) j)) < nI (tn t + (k0 K + i)) := by
    intro j hj
    have hlt : tO t + 2 * (tor t).1 i + j < tO t + 2 * tN t := by omega
    refine pl_sg (m := tn t + (k0 K + i)) ?_ (by omega)
    have := sgn_lt (t := t) (K := K) (rk := (tor t).2) (lit := sid t ((tor t).1 i) j) (i := i) (fun k => hK k _ hlt) (hU _ hlt) (fun b hb => by
      have d : dep t ((tor t).1 i) b := by
        rcases (show j = 0 ∨ j = 1 by omega) with e | e
        · rw [e] at hb; exact Or.inl hb
        · rw [e] at hb; exact Or.inr hb
      exact I.2.2.1 _ _ b ho.2 d)
    omega
  exact ⟨one 0 (by decide), one 1 (by decide)⟩
/-- the circuit that a text becomes -/
noncomputable def flC (K : Bool) (t : txt) (c : ck) : ck := (flA t K (tor t) (tN t) 0 (fl0 K c.1), k0 K + tN t, flO t K (tor t) (tO t) 0 c.2.2.1, tO t)
theorem flC_ok {K : Bool} {t : txt} (T : tok K t) (c : ck) : kok (tn t) (flC K t c) := by
  have T' := T
  obtain ⟨⟨b1, b2, b3⟩, hD, hU, hK, I⟩ := T
  have k1 : k0 K ≤ 1 := by cases K <;> decide
  refine ⟨by show k0 K + tN t ≤ 120; omega, b2, ?_, ?_⟩
  · have := flA_ok (t := t) (K := K) (o := tor t) (tN t) 0 (fl0 K c.1) (fl0_ok K c.1) (fun j _ hj => tok_sok T' (by omega))
    intro g hg
    exact this g (by have : g < k0 K + tN t := hg; omega)
  · have := flO_ok (t := t) (K := K) (o := tor t) (x := nI (tn t + (k0 K + tN t))) (tO t) 0 c.2.2.1 (fun j hj => absurd hj (Nat.not_lt_zero j)) (fun j _ hj => by
      refine pl_sg (m := tn t + (k0 K + tN t)) ?_ (by omega)
      have hlt : j < tO t + 2 * tN t := by omega
      have := sgn_lt (t := t) (K := K) (rk := (tor t).2) (lit := tU t j) (i := tN t) (fun k => hK k _ hlt) (hU _ hlt) (fun b hb => ainv_all I (AO_lt2 hD hb))
      omega)
    intro j hj
    exact this j (by have : j < tO t := hj; omega)
theorem Fall_tok {B : Nat → Int32} {z n : Nat} (hn : n ≤ 12) {q : Bool × txt × (Nat → Nat)} (h : Fall B z n = .ok q) : tok q.1 q.2.1 ∧ tn q.2.1 = n := by
  cases e : Fhead B z n with
  | error x => rw [Fall_1 e] at h; cases h
  | ok p =>
    cases e2 : Fbody B z n p.2 (p.1, s00.2) with
    | error x => rw [Fall_2 e e2] at h; cases h
    | ok s =>
      rw [Fall_3 e e2] at h
      split at h
      · cases h
      · rename_i w
        injection h with h
        subst h
        obtain ⟨_, _, _, _, y3, y4, _⟩ := Fhead_ok (a := p.1) (hv := p.2) e
        obtain ⟨P, c1, c2, H⟩ := body_ok e2
        refine ⟨⟨⟨hn, y3, y4⟩, P.1, H, fun k i hi => P.2 k i (by rw [c2]; exact hi), ?_⟩, rfl⟩
        rcases arr_res (t := (s.2.1, s.2.2.1.1, n, p.2 3, p.2 4)) (dep_lt2 P.1) (p.2 4) 0 o00 (Nat.zero_add _) (ainv_0 _) with ⟨a1, a2, a3⟩ | ⟨a1, a2⟩
        · exact a2
        · exact absurd a2 w
noncomputable def aRead (σ : st8) (x : Int32) : Int32 := if x = 0 ∨ x = 1 then (match Fall (zt σ).1 (zt σ).2 (zn σ) with
  | .error e => nI e.1
  | .ok _ => 0) else -1
def rdE (σ : st8) (p : Int32) : st8 := (σ.1, σ.2.1, σ.2.2.1, σ.2.2.2.1, ((zt σ).1, 0), p, σ.2.2.2.2.2.2)
noncomputable def nRead (σ : st8) (x : Int32) : st8 := if x = 0 then (match Fall (zt σ).1 (zt σ).2 (zn σ) with
  | .error e => rdE σ (nI e.2)
  | .ok q => rdE (upA σ (flC q.1 q.2.1 (za σ))) (-1)) else if x = 1 then (match Fall (zt σ).1 (zt σ).2 (zn σ) with
  | .error e => rdE σ (nI e.2)
  | .ok q => rdE (upB σ (flC q.1 q.2.1 (zb σ))) (-1)) else σ
theorem rdE_ok {σ : st8} (Z : zok σ) (p : Int32) : zok (rdE σ p) := ⟨Z.1, Z.2.1, Z.2.2.1, Z.2.2.2.1, Nat.zero_le _, Z.2.2.2.2.2⟩
theorem read_ok {σ : st8} (Z : zok σ) (x : Int32) : zok (nRead σ x) := by
  unfold nRead
  split
  · cases e : Fall (zt σ).1 (zt σ).2 (zn σ) with
    | error p => exact rdE_ok Z _
    | ok q =>
      obtain ⟨T, en⟩ := Fall_tok Z.1.2 e
      have := flC_ok T (za σ)
      rw [en] at this
      exact rdE_ok (σ := upA σ _) ⟨Z.1, this, Z.2.2⟩ _
  · split
    · cases e : Fall (zt σ).1 (zt σ).2 (zn σ) with
      | error p => exact rdE_ok Z _
      | ok q =>
        obtain ⟨T, en⟩ := Fall_tok Z.1.2 e
        have := flC_ok T (zb σ)
        rw [en] at this
        exact rdE_ok (σ := upB σ _) ⟨Z.1, Z.2.1, this, Z.2.2.2⟩ _
    · exact Z
/-! ===== the class reads ===== -/
def FrTx (h h' : hp) : Prop := h'.2 = h.2 ∧ ∀ k, (k < 35 ∨ 46 < k) → hI h' k = hI h k
def RA (h' : hp) (z : Nat) : Except (Nat × Nat) (Bool × txt × (Nat → Nat)) → Prop
  | .error e => PS h' z (.error e)
  | .ok q => hI h' 35 14 = 0 ∧ FT h' q.2.1 q.1 (tor q.2.1)
set_option maxHeartbeats 2000000 in
set_option maxRecDepth 10000 in
theorem rd_12 {h : hp} (S : Sh h) {B : Nat → Int32} {z n : Nat} (T : TC h B z) (hn : n ≤ 12) (h9 : hI h 2 9 = nI n) (o : Nat) (x : Int32) : ∃ h', RA h' z (Fall B z n) ∧ FrTx h h' ∧ ∀ (Q : resP) (bc bs : Nat), Wp (Ex 7) 81 Q 40 [(2, .ref o), (0, .ref 2), (1, .int x)] [] h' bc bs → Wp (Ex 7) 81 Q 12 [(2, .ref o), (0, .ref 2), (1, .int x)] [] h bc bs := by
  obtain ⟨h1, R1, P1, F1⟩ := sp_parse (d := 1) S T hn
  have S1 : Sh h1 := S.to (by rw [F1.1])
  have V1 : FrTx h h1 := ⟨F1.1, fun k hk => F1.2 k (by omega)⟩
  unfold PQ at P1
  cases e : Fhead B z n with
  | error p =>
    rw [e] at P1
    have P1 : PS h1 z (.error p) := P1
    refine ⟨h1, by rw [Fall_1 e]; exact P1, V1, fun Q bc bs kk => ?_⟩
    refine r_aload_n (q81 (i := 8) rfl) rfl ?_
    refine r_getR (b := 35) (q81 (i := 9) rfl) rfl (by decide) (k_2 S) (fun _ _ _ => rfl) (r_2_7 S) ?_
    refine r_aload_n (q81 (i := 10) rfl) rfl ?_
    refine r_getI (x := nI n) (q81 (i := 11) rfl) rfl (by decide) (k_2 S) (fun _ _ _ => rfl) h9 ?_
    refine r_cV (d := _) (q81 (i := 12) rfl) rfl rfl rfl (k_35 S) (Nat.le_of_ble_eq_true rfl) (Nat.zero_le _) (Nat.zero_le _) R1 ?_
    show Wp _ _ _ 23 [(2, .ref o), (0, .ref 2), (1, .int x)] [] h1 _ _
    refine r_aload_n (q81 (i := 13) rfl) rfl ?_
    refine r_getR (b := 35) (q81 (i := 14) rfl) rfl (by decide) (k_2 S1) (fun _ _ _ => rfl) (r_2_7 S1) ?_
    refine r_getI (x := hI h1 35 14) (q81 (i := 15) rfl) rfl (by decide) (k_35 S1) (fun _ _ _ => rfl) rfl ?_
    refine r_if 40 (q81 (i := 16) rfl) (by decide) (fun _ => ?_) (fun zz => absurd (show ¬ hI h1 35 14 = 0 from err_ne P1) zz)
    exact kk
  | ok q =>
    rw [e] at P1
    obtain ⟨P, p8, p9, p10⟩ := P1
    cases e2 : Fbody B z n q.2 (q.1, s00.2) with
    | error p =>
      have P1 : PS h1 z (.error p) := by rw [e2] at P; exact P
      refine ⟨h1, by rw [Fall_2 e e2]; exact P1, V1, fun Q bc bs kk => ?_⟩
      refine r_aload_n (q81 (i := 8) rfl) rfl ?_
      refine r_getR (b := 35) (q81 (i := 9) rfl) rfl (by decide) (k_2 S) (fun _ _ _ => rfl) (r_2_7 S) ?_
      refine r_aload_n (q81 (i := 10) rfl) rfl ?_
      refine r_getI (x := nI n) (q81 (i := 11) rfl) rfl (by decide) (k_2 S) (fun _ _ _ => rfl) h9 ?_
      refine r_cV (d := _) (q81 (i := 12) rfl) rfl rfl rfl (k_35 S) (Nat.le_of_ble_eq_true rfl) (Nat.zero_le _) (Nat.zero_le _) R1 ?_
      show Wp _ _ _ 23 [(2, .ref o), (0, .ref 2), (1, .int x)] [] h1 _ _
      refine r_aload_n (q81 (i := 13) rfl) rfl ?_
      refine r_getR (b := 35) (q81 (i := 14) rfl) rfl (by decide) (k_2 S1) (fun _ _ _ => rfl) (r_2_7 S1) ?_
      refine r_getI (x := hI h1 35 14) (q81 (i := 15) rfl) rfl (by decide) (k_35 S1) (fun _ _ _ => rfl) rfl ?_
      refine r_if 40 (q81 (i := 16) rfl) (by decide) (fun _ => ?_) (fun zz => absurd (show ¬ hI h1 35 14 = 0 from err_ne P1) zz)
      exact kk
    | ok s =>
      have P : PS h1 z (.ok s) := by rw [e2] at P; exact P
      obtain ⟨_, _, _, _, y3, y4, _⟩ := Fhead_ok (a := q.1) (hv := q.2) e
      obtain ⟨PI1, c1, c2, H⟩ := body_ok e2
      have X : XT h1 (s.2.1, s.2.2.1.1, n, q.2 3, q.2 4) := ⟨fun v hv => ⟨(P.2.1 v hv).1, PI1.1 v⟩, fun i hi => ⟨(P.2.2.1.1 i (by rw [c2]; exact hi)).1, (P.2.2.1.1 i (by rw [c2]; exact hi)).2.2⟩, ⟨p8, p9, p10⟩, hn, y3, y4⟩
      obtain ⟨h2, R2, Q2, F2⟩ := sp_arrange (d := 2) (t := (s.2.1, s.2.2.1.1, n, q.2 3, q.2 4)) (z := z) (s := s) c1 S1 X P
      have S2 : Sh h2 := F2.S S1
      refine ⟨h2, ?_, ⟨F2.1.trans V1.1, fun k hk => (F2.2.1 k (by omega)).trans (V1.2 k hk)⟩, fun Q bc bs kk => ?_⟩
      · rw [Fall_3 e e2]
        unfold AQ at Q2
        rcases arr_res (t := (s.2.1, s.2.2.1.1, n, q.2 3, q.2 4)) (dep_lt2 PI1.1) (q.2 4) 0 o00 (Nat.zero_add _) (ainv_0 _) with ⟨a1, a2, a3⟩ | ⟨a1, a2⟩
        · rw [if_pos a1] at Q2
          rw [if_neg (by have : lst (slf (s.2.1, s.2.2.1.1, n, q.2 3, q.2 4)) (q.2 4) = q.2 4 := a3; omega)]
          exact ⟨Q2.1.1.1, F2.X X, Q2.1.2.2.2.1, Q2.2⟩
        · rw [if_neg (by rw [a1]; decide)] at Q2
          rw [if_pos a2]
          exact Q2
      · skip
        refine r_aload_n (q81 (i := 8) rfl) rfl ?_
        refine r_getR (b := 35) (q81 (i := 9) rfl) rfl (by decide) (k_2 S) (fun _ _ _ => rfl) (r_2_7 S) ?_
        refine r_aload_n (q81 (i := 10) rfl) rfl ?_
        refine r_getI (x := nI n) (q81 (i := 11) rfl) rfl (by decide) (k_2 S) (fun _ _ _ => rfl) h9 ?_
        refine r_cV (d := _) (q81 (i := 12) rfl) rfl rfl rfl (k_35 S) (Nat.le_of_ble_eq_true rfl) (Nat.zero_le _) (Nat.zero_le _) R1 ?_
        show Wp _ _ _ 23 [(2, .ref o), (0, .ref 2), (1, .int x)] [] h1 _ _
        refine r_aload_n (q81 (i := 13) rfl) rfl ?_
        refine r_getR (b := 35) (q81 (i := 14) rfl) rfl (by decide) (k_2 S1) (fun _ _ _ => rfl) (r_2_7 S1) ?_
        refine r_getI (x := hI h1 35 14) (q81 (i := 15) rfl) rfl (by decide) (k_35 S1) (fun _ _ _ => rfl) rfl ?_
        refine r_if 40 (q81 (i := 16) rfl) (by decide) (fun zz => absurd zz (show ¬ (¬ hI h1 35 14 = 0) from fun zz => zz P.1.1)) (fun _ => ?_)
        refine r_aload_n (q81 (i := 17) rfl) rfl ?_
        refine r_getR (b := 42) (q81 (i := 18) rfl) rfl (by decide) (k_2 S1) (fun _ _ _ => rfl) (r_2_8 S1) ?_
        refine r_cV (d := _) (q81 (i := 19) rfl) rfl rfl rfl (k_42 S1) (Nat.le_of_ble_eq_true rfl) (Nat.zero_le _) (Nat.zero_le _) R2 ?_
        show Wp _ _ _ 40 [(2, .ref o), (0, .ref 2), (1, .int x)] [] h2 _ _
        exact kk
theorem CI.pl {h : hp} {ρ e : Nat} {σ : st8} (C : CI h ρ e σ) (p : Int32) : CI (sI h 2 10 p) ρ e (σ.1, σ.2.1, σ.2.2.1, σ.2.2.2.1, σ.2.2.2.2.1, p, σ.2.2.2.2.2.2) := by
  obtain ⟨c1, c2, c3, c4, c5, c6, c7, c8, c9, c10⟩ := C
  have i : ∀ k, k ≠ 2 → hI (sI h 2 10 p) k = hI h k := fun k hk => by show u2 h.1 2 _ _ k = _; rw [u2_n hk]
  have b : zBU h ρ σ → zBU (sI h 2 10 p) ρ σ := fun B => B.to (fun k hk => i k (by omega)) rfl rfl
  exact ⟨⟨c1.1.to rfl, c1.2⟩, ⟨c2.1, rfl⟩, c3, c4, c5, c6, c7, c8.to (fun k hk => i k (by omega)) rfl rfl, GSt.to (σ := σ) c9 rfl b (fun k _ _ => i k (by omega)), SSt.to (σ := σ) c10 rfl rfl b⟩
theorem CI.c3 {h h' : hp} {ρ e : Nat} {σ : st8} (C : CI h ρ e σ) (e2 : h'.2 = h.2) (i : ∀ k, k ≠ 2 → (k < 3 ∨ 8 < k) → hI h' k = hI h k) (i9 : hI h' 2 9 = hI h 2 9) {p : Int32} (ip : hI h' 2 10 = p) {c : ck} (CC : CH_3 h' c.1 c.2.1 c.2.2.1 c.2.2.2) (c36 : hI h' 3 6 = nI (zn σ)) : CI (anew h') ρ e (σ.1, c, σ.2.2.1, σ.2.2.2.1, σ.2.2.2.2.1, p, σ.2.2.2.2.2.2.1, none) := by
  obtain ⟨c1, c2, c3, c4, c5, c6, c7, c8, c9, c10⟩ := C
  have ej : hJ h' = hJ h := by unfold hJ; rw [e2]
  have e3 : h'.2.2 = h.2.2 := by rw [e2]
  have im : ∀ k, k ≠ 2 → k ≠ 21 → hI (anew h') k = hI h' k := fun k h2 h21 => by
    show u2 (u2 (u2 h'.1 21 _ _) 2 _ _) 2 _ _ k = _
    rw [u2_n h2, u2_n h2, u2_n h21]
  have ia : ∀ k, k ≠ 2 → k ≠ 21 → (k < 3 ∨ 8 < k) → hI (anew h') k = hI h k := fun k h2 h21 hk => (im k h2 h21).trans (i k h2 hk)
  refine ⟨⟨c1.1.to e3, ?_, by show 1327 ≤ h'.2.2.2.2; rw [e3]; exact c1.2.2⟩, ⟨i9.trans c2.1, ip⟩, ⟨CC.to (fun k a b => im k (by omega) (by omega)), by rw [im 3 (by decide) (by decide)]; exact c36⟩, ⟨c4.1.to (fun k a b => ia k (by omega) (by omega) (by omega)), by rw [ia 10 (by decide) (by decide) (by decide)]; exact c4.2⟩, c5.to (fun k a b => ia k (by omega) (by omega) (by omega)) (by show hJ h' 19 = _; rw [ej]), ?_, (ia 31 (by decide) (by decide) (by decide)).trans c7, CGr_st c8 e3 rfl, Or.inl rfl, rfl⟩
  · have := c1.2.1
    unfold Pt hK hJ at *
    show h'.2.2.2.1 1 = _ ∧ _
    rw [show (anew h').2 = h'.2 from rfl, e2]
    exact this
  · unfold TC
    rw [ia 33 (by decide) (by decide) (by decide), ia 34 (by decide) (by decide) (by decide)]
    exact c6
theorem CI.c10 {h h' : hp} {ρ e : Nat} {σ : st8} (C : CI h ρ e σ) (e2 : h'.2 = h.2) (i : ∀ k, k ≠ 2 → (k < 10 ∨ 15 < k) → hI h' k = hI h k) (i9 : hI h' 2 9 = hI h 2 9) {p : Int32} (ip : hI h' 2 10 = p) {c : ck} (CC : CH_10 h' c.1 c.2.1 c.2.2.1 c.2.2.2) (c36 : hI h' 10 6 = nI (zn σ)) : CI (anew h') ρ e (σ.1, σ.2.1, c, σ.2.2.2.1, σ.2.2.2.2.1, p, σ.2.2.2.2.2.2.1, none) := by
  obtain ⟨c1, c2, c3, c4, c5, c6, c7, c8, c9, c10⟩ := C
  have ej : hJ h' = hJ h := by unfold hJ; rw [e2]
  have e3 : h'.2.2 = h.2.2 := by rw [e2]
  have im : ∀ k, k ≠ 2 → k ≠ 21 → hI (anew h') k = hI h' k := fun k h2 h21 => by
    show u2 (u2 (u2 h'.1 21 _ _) 2 _ _) 2 _ _ k = _
    rw [u2_n h2, u2_n h2, u2_n h21]
  have ia : ∀ k, k ≠ 2 → k ≠ 21 → (k < 10 ∨ 15 < k) → hI (anew h') k = hI h k := fun k h2 h21 hk => (im k h2 h21).trans (i k h2 hk)
  refine ⟨⟨c1.1.to e3, ?_, by show 1327 ≤ h'.2.2.2.2; rw [e3]; exact c1.2.2⟩, ⟨i9.trans c2.1, ip⟩, ⟨c3.1.to (fun k a b => ia k (by omega) (by omega) (by omega)), by rw [ia 3 (by decide) (by decide) (by decide)]; exact c3.2⟩, ⟨CC.to (fun k a b => im k (by omega) (by omega)), by rw [im 10 (by decide) (by decide)]; exact c36⟩, c5.to (fun k a b => ia k (by omega) (by omega) (by omega)) (by show hJ h' 19 = _; rw [ej]), ?_, (ia 31 (by decide) (by decide) (by decide)).trans c7, CGr_st c8 e3 rfl, Or.inl rfl, rfl⟩
  · have := c1.2.1
    unfold Pt hK hJ at *
    show h'.2.2.2.1 1 = _ ∧ _
    rw [show (anew h').2 = h'.2 from rfl, e2]
    exact this
  · unfold TC
    rw [ia 33 (by decide) (by decide) (by decide), ia 34 (by decide) (by decide) (by decide)]
    exact c6
set_option maxHeartbeats 2000000 in
set_option maxRecDepth 10000 in
theorem xs_read {h : hp} {ρ e : Nat} {σ : st8} (C : CI h ρ e σ) (Z : zok σ) (x : Int32) : CStep 81 [.ref 2, .int x] h e (aRead σ x) (nRead σ x) := by
  have S := C.1.1
  have T := C.2.2.2.2.2.1
  have hn := Z.1.2
  unfold aRead nRead
  by_cases x0 : x = 0
  · rw [if_pos (Or.inl x0), if_pos x0]
    subst x0
    have R0 := sp_cat0 (d := 6) S
    obtain ⟨h2, P2, V, kk⟩ := rd_12 S T hn C.2.1.1 3 0
    have S2 : Sh h2 := S.to (by rw [V.1])
    have h29 : hI h2 2 9 = nI (zn σ) := by rw [V.2 2 (by decide)]; exact C.2.1.1
    have C3 : CI (sI h2 33 1 0) ρ e (sT σ ((zt σ).1, 0)) := C.fr (h' := sI h2 33 1 0) V.1 (fun k hk => by show u2 h2.1 33 _ _ k = _; rw [u2_n (by omega)]; exact V.2 k (by omega)) (t := ((zt σ).1, 0)) ⟨(V.2 34 (by decide)).trans T.1, rfl, Nat.zero_le _⟩
    have V3 : FC h (sI h2 33 1 0) := (FC.of (h := h) (h' := h2) (by rw [V.1]) (fun k hk => V.2 k (by omega)) (fun k _ => by show h2.2.1 k = _; rw [V.1])).tr (FC.w (by decide) _ _)
    cases q : Fall (zt σ).1 (zt σ).2 (zn σ) with
    | error p =>
      rw [q] at P2
      have P2 : PS h2 (zt σ).2 (.error p) := P2
      refine CStep.of (ρ := ρ) (?_ : Run (7 + 1) 81 _ h 0 0 (some (.int (nI p.1))) (sI (sI h2 33 1 0) 2 10 (nI p.2))) (C3.pl (nI p.2)) (V3.tr (FC.w (by decide) _ _))
      refine Run.of (Nat.le_of_ble_eq_true rfl) (fun Q hQ => ?_)
      show Wp (Ex 7) 81 Q 0 [(0, .ref 2), (1, .int 0)] [] h 0 0
      refine r_aload_n (q81 (i := 0) rfl) rfl ?_
      refine r_iload_n (q81 (i := 1) rfl) rfl ?_
      refine r_cV (d := _) (q81 (i := 2) rfl) rfl rfl rfl (k_2 S) (Nat.le_of_ble_eq_true rfl) (Nat.zero_le _) (Nat.zero_le _) R0 ?_
      show Wp _ _ _ 5 [(0, .ref 2), (1, .int 0)] [.ref 3] h _ _
      refine r_astore_n (ls' := [(2, .ref 3), (0, .ref 2), (1, .int 0)]) (q81 (i := 3) rfl) (Nat.le_of_ble_eq_true rfl) rfl ?_
      refine r_aload_n (q81 (i := 4) rfl) rfl ?_
      refine r_ifnonnull 12 (q81 (i := 5) rfl) (by decide) ?_
      refine kk Q _ _ ?_
      refine r_aload_n (q81 (i := 20) rfl) rfl ?_
      refine r_getR (b := 33) (q81 (i := 21) rfl) rfl (by decide) (k_2 S2) (fun _ _ _ => rfl) (r_2_6 S2) ?_
      refine r_iconst (v := 0) (q81 (i := 22) rfl) (by decide) ?_
      refine r_putI (q81 (i := 23) rfl) rfl (by decide) (k_33 S2) rfl rfl ?_
      refine r_aload_n (q81 (i := 24) rfl) rfl ?_
      refine r_getR (b := 35) (q81 (i := 25) rfl) rfl (by decide) (k_2 S2) (fun _ _ _ => rfl) (r_2_7 S2) ?_
      refine r_getI (x := nI p.1) (q81 (i := 26) rfl) rfl (by decide) (k_35 S2) (fun _ _ _ => rfl) P2.1 ?_
      refine r_if 77 (q81 (i := 27) rfl) (by decide) (fun zz => absurd zz (show ¬ (nI p.1 = 0) from (P2.1 ▸ err_ne P2))) (fun _ => ?_)
      refine r_aload_n (q81 (i := 28) rfl) rfl ?_
      refine r_aload_n (q81 (i := 29) rfl) rfl ?_
      refine r_getR (b := 35) (q81 (i := 30) rfl) rfl (by decide) (k_2 S2) (fun _ _ _ => rfl) (r_2_7 S2) ?_
      refine r_getI (x := nI p.2) (q81 (i := 31) rfl) rfl (by decide) (k_35 S2) (fun _ _ _ => rfl) P2.2.1 ?_
      refine r_putI (q81 (i := 32) rfl) rfl (by decide) (k_2 S2) rfl rfl ?_
      refine r_aload_n (q81 (i := 33) rfl) rfl ?_
      refine r_getR (b := 35) (q81 (i := 34) rfl) rfl (by decide) (k_2 S2) (fun _ _ _ => rfl) (r_2_7 S2) ?_
      refine r_getI (x := nI p.1) (q81 (i := 35) rfl) rfl (by decide) (k_35 S2) (fun _ _ _ => rfl) P2.1 ?_
      exact r_iret (q81 (i := 36) rfl) rfl hQ
    | ok p =>
      rw [q] at P2
      obtain ⟨A14, FT2⟩ : hI h2 35 14 = 0 ∧ FT h2 p.2.1 p.1 (tor p.2.1) := P2
      obtain ⟨tk, en⟩ := Fall_tok hn q
      have R3 := sp_reset_3 (d := 6) (h := sI (sI h2 33 1 0) 2 10 (-1)) (S2.to rfl) (nI (zn σ))
      have S5 : Sh (sI (sI (sI (sI (sI h2 33 1 0) 2 10 (-1)) 3 6 (nI (zn σ))) 3 7 0) 3 8 0) := S2.to rfl
      obtain ⟨h6, R4, CH6, F6⟩ := sp_fill_3 (d := 4) (tok_fok tk) (c := (za σ).1) (w := (za σ).2.2.1) (h := sI (sI (sI (sI (sI h2 33 1 0) 2 10 (-1)) 3 6 (nI (zn σ))) 3 7 0) 3 8 0) S5 (FT2.to (fun k x y => by
        show u2 (u2 (u2 (u2 (u2 h2.1 33 _ _) 2 _ _) 3 _ _) 3 _ _) 3 _ _ k = _
        rw [u2_n (by omega), u2_n (by omega), u2_n (by omega), u2_n (by omega), u2_n (by omega)])) (by
        have := C3.2.2.1.1
        exact ⟨this.1, rfl, this.2.2.1, rfl⟩)
      have S6 := F6.S S5
      have R5 := sp_anew (d := 5) S6
      have e6 : h6.2 = h2.2 := F6.1
      refine CStep.of (ρ := ρ) (σ' := rdE (upA σ (flC p.1 p.2.1 (za σ))) (-1)) (?_ : Run (7 + 1) 81 _ h 0 0 (some (.int 0)) (anew h6)) (CI.c3 (h' := h6) (c := flC p.1 p.2.1 (za σ)) (p := -1) C3 e6 (fun k a b => ?_) ?_ ?_ CH6 ?_) ?_
      rotate_left
      · rw [F6.2.1 k b]
        show u2 (u2 (u2 (u2 (u2 h2.1 33 _ _) 2 _ _) 3 _ _) 3 _ _) 3 _ _ k = u2 h2.1 33 _ _ k
        rw [u2_n (by omega), u2_n (by omega), u2_n (by omega), u2_n (by omega)]
      · rw [F6.2.1 2 (by decide)]; rfl
      · rw [F6.2.1 2 (by decide)]; rfl
      · rw [F6.2.2]; rfl
      · refine (V3.tr (FC.of (h := sI h2 33 1 0) (h' := h6) (by rw [e6]; rfl) (fun k hk => ?_) (fun k _ => by show h6.2.1 k = _; rw [e6]; rfl))).tr (FC.anew _)
        rw [F6.2.1 k (by omega)]
        show u2 (u2 (u2 (u2 (u2 h2.1 33 _ _) 2 _ _) 3 _ _) 3 _ _) 3 _ _ k = u2 h2.1 33 _ _ k
        rw [u2_n (by omega), u2_n (by omega), u2_n (by omega), u2_n (by omega)]
      refine Run.of (Nat.le_of_ble_eq_true rfl) (fun Q hQ => ?_)
      show Wp (Ex 7) 81 Q 0 [(0, .ref 2), (1, .int 0)] [] h 0 0
      refine r_aload_n (q81 (i := 0) rfl) rfl ?_
      refine r_iload_n (q81 (i := 1) rfl) rfl ?_
      refine r_cV (d := _) (q81 (i := 2) rfl) rfl rfl rfl (k_2 S) (Nat.le_of_ble_eq_true rfl) (Nat.zero_le _) (Nat.zero_le _) R0 ?_
      show Wp _ _ _ 5 [(0, .ref 2), (1, .int 0)] [.ref 3] h _ _
      refine r_astore_n (ls' := [(2, .ref 3), (0, .ref 2), (1, .int 0)]) (q81 (i := 3) rfl) (Nat.le_of_ble_eq_true rfl) rfl ?_
      refine r_aload_n (q81 (i := 4) rfl) rfl ?_
      refine r_ifnonnull 12 (q81 (i := 5) rfl) (by decide) ?_
      refine kk Q _ _ ?_
      refine r_aload_n (q81 (i := 20) rfl) rfl ?_
      refine r_getR (b := 33) (q81 (i := 21) rfl) rfl (by decide) (k_2 S2) (fun _ _ _ => rfl) (r_2_6 S2) ?_
      refine r_iconst (v := 0) (q81 (i := 22) rfl) (by decide) ?_
      refine r_putI (q81 (i := 23) rfl) rfl (by decide) (k_33 S2) rfl rfl ?_
      refine r_aload_n (q81 (i := 24) rfl) rfl ?_
      refine r_getR (b := 35) (q81 (i := 25) rfl) rfl (by decide) (k_2 S2) (fun _ _ _ => rfl) (r_2_7 S2) ?_
      refine r_getI (x := hI h2 35 14) (q81 (i := 26) rfl) rfl (by decide) (k_35 S2) (fun _ _ _ => rfl) rfl ?_
      refine r_if 77 (q81 (i := 27) rfl) (by decide) (fun _ => ?_) (fun zz => absurd (show hI h2 35 14 = 0 from A14) zz)
      refine r_aload_n (q81 (i := 37) rfl) rfl ?_
      refine r_iconst (v := (-1)) (q81 (i := 38) rfl) (by decide) ?_
      refine r_putI (q81 (i := 39) rfl) rfl (by decide) (k_2 S2) rfl rfl ?_
      refine r_aload_n (q81 (i := 40) rfl) rfl ?_
      refine r_aload_n (q81 (i := 41) rfl) rfl ?_
      refine r_getI (x := nI (zn σ)) (q81 (i := 42) rfl) rfl (by decide) (k_2 S2) (fun _ _ _ => rfl) h29 ?_
      refine r_cV (d := _) (q81 (i := 43) rfl) rfl rfl rfl (k_3 S2) (Nat.le_of_ble_eq_true rfl) (Nat.zero_le _) (Nat.zero_le _) R3 ?_
      show Wp _ _ _ 90 [(2, .ref 3), (0, .ref 2), (1, .int 0)] [] (sI (sI (sI (sI (sI h2 33 1 0) 2 10 (-1)) 3 6 (nI (zn σ))) 3 7 0) 3 8 0) _ _
      refine r_aload_n (q81 (i := 44) rfl) rfl ?_
      refine r_getR (b := 42) (q81 (i := 45) rfl) rfl (by decide) (k_2 S5) (fun _ _ _ => rfl) (r_2_8 S5) ?_
      refine r_aload_n (q81 (i := 46) rfl) rfl ?_
      refine r_cV (d := _) (q81 (i := 47) rfl) rfl rfl rfl (k_42 S5) (Nat.le_of_ble_eq_true rfl) (Nat.zero_le _) (Nat.zero_le _) R4 ?_
      show Wp _ _ _ 98 [(2, .ref 3), (0, .ref 2), (1, .int 0)] [] h6 _ _
      refine r_aload_n (q81 (i := 48) rfl) rfl ?_
      refine r_cV (d := _) (q81 (i := 49) rfl) rfl rfl rfl (k_2 S6) (Nat.le_of_ble_eq_true rfl) (Nat.zero_le _) (Nat.zero_le _) R5 ?_
      show Wp _ _ _ 102 [(2, .ref 3), (0, .ref 2), (1, .int 0)] [] (anew h6) _ _
      refine r_iconst (v := 0) (q81 (i := 50) rfl) (by decide) ?_
      exact r_iret (q81 (i := 51) rfl) rfl hQ
  · rw [if_neg x0]
    by_cases x1 : x = 1
    · rw [if_pos (Or.inr x1), if_pos x1]
      subst x1
      have R0 := sp_cat1 (d := 6) S
      obtain ⟨h2, P2, V, kk⟩ := rd_12 S T hn C.2.1.1 10 1
      have S2 : Sh h2 := S.to (by rw [V.1])
      have h29 : hI h2 2 9 = nI (zn σ) := by rw [V.2 2 (by decide)]; exact C.2.1.1
      have C3 : CI (sI h2 33 1 0) ρ e (sT σ ((zt σ).1, 0)) := C.fr (h' := sI h2 33 1 0) V.1 (fun k hk => by show u2 h2.1 33 _ _ k = _; rw [u2_n (by omega)]; exact V.2 k (by omega)) (t := ((zt σ).1, 0)) ⟨(V.2 34 (by decide)).trans T.1, rfl, Nat.zero_le _⟩
      have V3 : FC h (sI h2 33 1 0) := (FC.of (h := h) (h' := h2) (by rw [V.1]) (fun k hk => V.2 k (by omega)) (fun k _ => by show h2.2.1 k = _; rw [V.1])).tr (FC.w (by decide) _ _)
      cases q : Fall (zt σ).1 (zt σ).2 (zn σ) with
      | error p =>
        rw [q] at P2
        have P2 : PS h2 (zt σ).2 (.error p) := P2
        refine CStep.of (ρ := ρ) (?_ : Run (7 + 1) 81 _ h 0 0 (some (.int (nI p.1))) (sI (sI h2 33 1 0) 2 10 (nI p.2))) (C3.pl (nI p.2)) (V3.tr (FC.w (by decide) _ _))
        refine Run.of (Nat.le_of_ble_eq_true rfl) (fun Q hQ => ?_)
        show Wp (Ex 7) 81 Q 0 [(0, .ref 2), (1, .int 1)] [] h 0 0
        refine r_aload_n (q81 (i := 0) rfl) rfl ?_
        refine r_iload_n (q81 (i := 1) rfl) rfl ?_
        refine r_cV (d := _) (q81 (i := 2) rfl) rfl rfl rfl (k_2 S) (Nat.le_of_ble_eq_true rfl) (Nat.zero_le _) (Nat.zero_le _) R0 ?_
        show Wp _ _ _ 5 [(0, .ref 2), (1, .int 1)] [.ref 10] h _ _
        refine r_astore_n (ls' := [(2, .ref 10), (0, .ref 2), (1, .int 1)]) (q81 (i := 3) rfl) (Nat.le_of_ble_eq_true rfl) rfl ?_
        refine r_aload_n (q81 (i := 4) rfl) rfl ?_
        refine r_ifnonnull 12 (q81 (i := 5) rfl) (by decide) ?_
        refine kk Q _ _ ?_
        refine r_aload_n (q81 (i := 20) rfl) rfl ?_
        refine r_getR (b := 33) (q81 (i := 21) rfl) rfl (by decide) (k_2 S2) (fun _ _ _ => rfl) (r_2_6 S2) ?_
        refine r_iconst (v := 0) (q81 (i := 22) rfl) (by decide) ?_
        refine r_putI (q81 (i := 23) rfl) rfl (by decide) (k_33 S2) rfl rfl ?_
        refine r_aload_n (q81 (i := 24) rfl) rfl ?_
        refine r_getR (b := 35) (q81 (i := 25) rfl) rfl (by decide) (k_2 S2) (fun _ _ _ => rfl) (r_2_7 S2) ?_
        refine r_getI (x := nI p.1) (q81 (i := 26) rfl) rfl (by decide) (k_35 S2) (fun _ _ _ => rfl) P2.1 ?_
        refine r_if 77 (q81 (i := 27) rfl) (by decide) (fun zz => absurd zz (show ¬ (nI p.1 = 0) from (P2.1 ▸ err_ne P2))) (fun _ => ?_)
        refine r_aload_n (q81 (i := 28) rfl) rfl ?_
        refine r_aload_n (q81 (i := 29) rfl) rfl ?_
        refine r_getR (b := 35) (q81 (i := 30) rfl) rfl (by decide) (k_2 S2) (fun _ _ _ => rfl) (r_2_7 S2) ?_
        refine r_getI (x := nI p.2) (q81 (i := 31) rfl) rfl (by decide) (k_35 S2) (fun _ _ _ => rfl) P2.2.1 ?_
        refine r_putI (q81 (i := 32) rfl) rfl (by decide) (k_2 S2) rfl rfl ?_
        refine r_aload_n (q81 (i := 33) rfl) rfl ?_
        refine r_getR (b := 35) (q81 (i := 34) rfl) rfl (by decide) (k_2 S2) (fun _ _ _ => rfl) (r_2_7 S2) ?_
        refine r_getI (x := nI p.1) (q81 (i := 35) rfl) rfl (by decide) (k_35 S2) (fun _ _ _ => rfl) P2.1 ?_
        exact r_iret (q81 (i := 36) rfl) rfl hQ
      | ok p =>
        rw [q] at P2
        obtain ⟨A14, FT2⟩ : hI h2 35 14 = 0 ∧ FT h2 p.2.1 p.1 (tor p.2.1) := P2
        obtain ⟨tk, en⟩ := Fall_tok hn q
        have R3 := sp_reset_10 (d := 6) (h := sI (sI h2 33 1 0) 2 10 (-1)) (S2.to rfl) (nI (zn σ))
        have S5 : Sh (sI (sI (sI (sI (sI h2 33 1 0) 2 10 (-1)) 10 6 (nI (zn σ))) 10 7 0) 10 8 0) := S2.to rfl
        obtain ⟨h6, R4, CH6, F6⟩ := sp_fill_10 (d := 4) (tok_fok tk) (c := (zb σ).1) (w := (zb σ).2.2.1) (h := sI (sI (sI (sI (sI h2 33 1 0) 2 10 (-1)) 10 6 (nI (zn σ))) 10 7 0) 10 8 0) S5 (FT2.to (fun k x y => by
          show u2 (u2 (u2 (u2 (u2 h2.1 33 _ _) 2 _ _) 10 _ _) 10 _ _) 10 _ _ k = _
          rw [u2_n (by omega), u2_n (by omega), u2_n (by omega), u2_n (by omega), u2_n (by omega)])) (by
          have := C3.2.2.2.1.1
          exact ⟨this.1, rfl, this.2.2.1, rfl⟩)
        have S6 := F6.S S5
        have R5 := sp_anew (d := 5) S6
        have e6 : h6.2 = h2.2 := F6.1
        refine CStep.of (ρ := ρ) (σ' := rdE (upB σ (flC p.1 p.2.1 (zb σ))) (-1)) (?_ : Run (7 + 1) 81 _ h 0 0 (some (.int 0)) (anew h6)) (CI.c10 (h' := h6) (c := flC p.1 p.2.1 (zb σ)) (p := -1) C3 e6 (fun k a b => ?_) ?_ ?_ CH6 ?_) ?_
        rotate_left
        · rw [F6.2.1 k b]
          show u2 (u2 (u2 (u2 (u2 h2.1 33 _ _) 2 _ _) 10 _ _) 10 _ _) 10 _ _ k = u2 h2.1 33 _ _ k
          rw [u2_n (by omega), u2_n (by omega), u2_n (by omega), u2_n (by omega)]
        · rw [F6.2.1 2 (by decide)]; rfl
        · rw [F6.2.1 2 (by decide)]; rfl
        · rw [F6.2.2]; rfl
        · refine (V3.tr (FC.of (h := sI h2 33 1 0) (h' := h6) (by rw [e6]; rfl) (fun k hk => ?_) (fun k _ => by show h6.2.1 k = _; rw [e6]; rfl))).tr (FC.anew _)
          rw [F6.2.1 k (by omega)]
          show u2 (u2 (u2 (u2 (u2 h2.1 33 _ _) 2 _ _) 10 _ _) 10 _ _) 10 _ _ k = u2 h2.1 33 _ _ k
          rw [u2_n (by omega), u2_n (by omega), u2_n (by omega), u2_n (by omega)]
        refine Run.of (Nat.le_of_ble_eq_true rfl) (fun Q hQ => ?_)
        show Wp (Ex 7) 81 Q 0 [(0, .ref 2), (1, .int 1)] [] h 0 0
        refine r_aload_n (q81 (i := 0) rfl) rfl ?_
        refine r_iload_n (q81 (i := 1) rfl) rfl ?_
        refine r_cV (d := _) (q81 (i := 2) rfl) rfl rfl rfl (k_2 S) (Nat.le_of_ble_eq_true rfl) (Nat.zero_le _) (Nat.zero_le _) R0 ?_
        show Wp _ _ _ 5 [(0, .ref 2), (1, .int 1)] [.ref 10] h _ _
        refine r_astore_n (ls' := [(2, .ref 10), (0, .ref 2), (1, .int 1)]) (q81 (i := 3) rfl) (Nat.le_of_ble_eq_true rfl) rfl ?_
        refine r_aload_n (q81 (i := 4) rfl) rfl ?_
        refine r_ifnonnull 12 (q81 (i := 5) rfl) (by decide) ?_
        refine kk Q _ _ ?_
        refine r_aload_n (q81 (i := 20) rfl) rfl ?_
        refine r_getR (b := 33) (q81 (i := 21) rfl) rfl (by decide) (k_2 S2) (fun _ _ _ => rfl) (r_2_6 S2) ?_
        refine r_iconst (v := 0) (q81 (i := 22) rfl) (by decide) ?_
        refine r_putI (q81 (i := 23) rfl) rfl (by decide) (k_33 S2) rfl rfl ?_
        refine r_aload_n (q81 (i := 24) rfl) rfl ?_
        refine r_getR (b := 35) (q81 (i := 25) rfl) rfl (by decide) (k_2 S2) (fun _ _ _ => rfl) (r_2_7 S2) ?_
        refine r_getI (x := hI h2 35 14) (q81 (i := 26) rfl) rfl (by decide) (k_35 S2) (fun _ _ _ => rfl) rfl ?_
        refine r_if 77 (q81 (i := 27) rfl) (by decide) (fun _ => ?_) (fun zz => absurd (show hI h2 35 14 = 0 from A14) zz)
        refine r_aload_n (q81 (i := 37) rfl) rfl ?_
        refine r_iconst (v := (-1)) (q81 (i := 38) rfl) (by decide) ?_
        refine r_putI (q81 (i := 39) rfl) rfl (by decide) (k_2 S2) rfl rfl ?_
        refine r_aload_n (q81 (i := 40) rfl) rfl ?_
        refine r_aload_n (q81 (i := 41) rfl) rfl ?_
        refine r_getI (x := nI (zn σ)) (q81 (i := 42) rfl) rfl (by decide) (k_2 S2) (fun _ _ _ => rfl) h29 ?_
        refine r_cV (d := _) (q81 (i := 43) rfl) rfl rfl rfl (k_10 S2) (Nat.le_of_ble_eq_true rfl) (Nat.zero_le _) (Nat.zero_le _) R3 ?_
        show Wp _ _ _ 90 [(2, .ref 10), (0, .ref 2), (1, .int 1)] [] (sI (sI (sI (sI (sI h2 33 1 0) 2 10 (-1)) 10 6 (nI (zn σ))) 10 7 0) 10 8 0) _ _
        refine r_aload_n (q81 (i := 44) rfl) rfl ?_
        refine r_getR (b := 42) (q81 (i := 45) rfl) rfl (by decide) (k_2 S5) (fun _ _ _ => rfl) (r_2_8 S5) ?_
        refine r_aload_n (q81 (i := 46) rfl) rfl ?_
        refine r_cV (d := _) (q81 (i := 47) rfl) rfl rfl rfl (k_42 S5) (Nat.le_of_ble_eq_true rfl) (Nat.zero_le _) (Nat.zero_le _) R4 ?_
        show Wp _ _ _ 98 [(2, .ref 10), (0, .ref 2), (1, .int 1)] [] h6 _ _
        refine r_aload_n (q81 (i := 48) rfl) rfl ?_
        refine r_cV (d := _) (q81 (i := 49) rfl) rfl rfl rfl (k_2 S6) (Nat.le_of_ble_eq_true rfl) (Nat.zero_le _) (Nat.zero_le _) R5 ?_
        show Wp _ _ _ 102 [(2, .ref 10), (0, .ref 2), (1, .int 1)] [] (anew h6) _ _
        refine r_iconst (v := 0) (q81 (i := 50) rfl) (by decide) ?_
        exact r_iret (q81 (i := 51) rfl) rfl hQ
    · rw [if_neg (fun y => y.elim x0 x1), if_neg x1]
      refine CStep.of (?_ : Run (7 + 1) 81 _ h 0 0 _ h) C (FC.rf h)
      have R0 := sp_catN (d := 6) (h := h) x0 x1
      refine Run.of (Nat.le_of_ble_eq_true rfl) (fun Q hQ => ?_)
      show Wp (Ex 7) 81 Q 0 [(0, .ref 2), (1, .int x)] [] h 0 0
      refine r_aload_n (q81 (i := 0) rfl) rfl ?_
      refine r_iload_n (q81 (i := 1) rfl) rfl ?_
      refine r_cV (d := _) (q81 (i := 2) rfl) rfl rfl rfl (k_2 S) (Nat.le_of_ble_eq_true rfl) (Nat.zero_le _) (Nat.zero_le _) R0 ?_
      show Wp _ _ _ 5 [(0, .ref 2), (1, .int x)] [.null] h _ _
      refine r_astore_nN (ls' := [(2, .null), (0, .ref 2), (1, .int x)]) (q81 (i := 3) rfl) (Nat.le_of_ble_eq_true rfl) rfl ?_
      refine r_aload_nN (q81 (i := 4) rfl) rfl ?_
      refine r_ifnonnullN (q81 (i := 5) rfl) (show (0 : Int) ≤ ((7 : Nat) : Int) + (5) by decide) ?_
      refine r_iconst (v := (-1)) (q81 (i := 6) rfl) (by decide) ?_
      exact r_iret (q81 (i := 7) rfl) rfl hQ
