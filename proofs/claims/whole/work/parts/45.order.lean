/-! ===== the ANDs of a text ===== -/
def AO (D : Nat → Nat) (n lit : Nat) : Option Nat := if n < D (lit / 2) then some (D (lit / 2) - n - 1) else none
abbrev txt : Type := (Nat → Nat) × (Nat → Nat) × Nat × Nat × Nat
abbrev tD (t : txt) : Nat → Nat := t.1
abbrev tU (t : txt) : Nat → Nat := t.2.1
abbrev tn (t : txt) : Nat := t.2.2.1
abbrev tO (t : txt) : Nat := t.2.2.2.1
abbrev tN (t : txt) : Nat := t.2.2.2.2
/-- the literal on side j of the AND k -/
def sid (t : txt) (k j : Nat) : Nat := tU t (tO t + 2 * k + j)
def sAO (t : txt) (k j : Nat) : Option Nat := AO (tD t) (tn t) (sid t k j)
def dep (t : txt) (a b : Nat) : Prop := sAO t a 0 = some b ∨ sAO t a 1 = some b
/-- b is needed, on however many steps, by a -/
def rch (t : txt) (a b : Nat) : Prop := ∀ X : Nat → Prop, (∀ c, dep t a c → X c) → (∀ c e, X c → dep t c e → X e) → X b
def XT (h : hp) (t : txt) : Prop := (∀ v, v < 1001 → hI h 38 v = nI (tD t v) ∧ tD t v ≤ tn t + tN t) ∧ (∀ i, i < tO t + 2 * tN t → hI h 39 i = nI (tU t i) ∧ tU t i ≤ 2001) ∧ (hI h 35 8 = nI (tn t) ∧ hI h 35 9 = nI (tO t) ∧ hI h 35 10 = nI (tN t)) ∧ tn t ≤ 12 ∧ tO t ≤ 10 ∧ tN t ≤ 119
theorem XT.to {h h' : hp} {t : txt} (X : XT h t) (h8 : ∀ j, j < 14 → hI h' 35 j = hI h 35 j) (h38 : hI h' 38 = hI h 38) (h39 : hI h' 39 = hI h 39) : XT h' t := by
  unfold XT at *
  rw [h38, h39, h8 8 (by decide), h8 9 (by decide), h8 10 (by decide)]
  exact X
theorem AO_lt {h : hp} {t : txt} (X : XT h t) {lit b : Nat} (hl : lit ≤ 2001) (e : AO (tD t) (tn t) lit = some b) : b < tN t := by
  unfold AO at e
  have := (X.1 (lit / 2) (by omega)).2
  split at e
  · cases e; omega
  · cases e
theorem sid_le {h : hp} {t : txt} (X : XT h t) {k j : Nat} (hk : k < tN t) (hj : j ≤ 1) : hI h 39 (tO t + 2 * k + j) = nI (sid t k j) ∧ sid t k j ≤ 2001 := X.2.1 _ (by omega)
theorem dep_lt {h : hp} {t : txt} (X : XT h t) {a b : Nat} (ha : a < tN t) (d : dep t a b) : b < tN t := by
  rcases d with d | d
  · exact AO_lt X (sid_le X ha (by decide)).2 d
  · exact AO_lt X (sid_le X ha (by decide)).2 d
theorem rch_lt {h : hp} {t : txt} (X : XT h t) {a b : Nat} (ha : a < tN t) (r : rch t a b) : b < tN t := r (fun c => c < tN t) (fun _ d => dep_lt X ha d) (fun _ _ hc d => dep_lt X hc d)
theorem rch_1 {t : txt} {a b : Nat} (d : dep t a b) : rch t a b := fun _ h1 _ => h1 b d
theorem rch_s {t : txt} {a b c : Nat} (r : rch t a b) (d : dep t b c) : rch t a c := fun X h1 h2 => h2 b c (r X h1 h2) d
theorem rch_tr {t : txt} {a b c : Nat} (r : rch t a b) (q : rch t b c) : rch t a c := q (rch t a) (fun _ d => rch_s r d) (fun _ _ x d => rch_s x d)
set_option maxHeartbeats 2000000 in
set_option maxRecDepth 10000 in
theorem sp_andOf {d : Nat} {h : hp} (S : Sh h) {t : txt} (X : XT h t) {lit : Nat} (hl : lit ≤ 2001) : Run (d + 1) 4 [.ref 35, .int (nI lit)] h 0 0 (some (.int (oO (AO (tD t) (tn t) lit)))) h := by
  obtain ⟨x1, x2⟩ := X.1 (lit / 2) (by omega)
  have h8 := X.2.2.1.1
  obtain ⟨b1, b2, b3⟩ := X.2.2.2
  refine Run.of (Nat.le_of_ble_eq_true rfl) (fun Q hQ => ?_)
  show Wp (Ex d) 4 Q 0 [(0, .ref 35), (1, .int (nI lit))] [] h 0 0
  unfold AO at hQ
  by_cases g : tn t < tD t (lit / 2)
  · rw [if_pos g] at hQ
    have hQ : Q (some (.int (nI (tD t (lit / 2) - tn t - 1)))) h := hQ
    refine r_aload_n (q4 (i := 0) rfl) rfl ?_
    refine r_getR (b := 38) (q4 (i := 1) rfl) rfl (by decide) (k_35 S) (fun _ _ _ => rfl) (r_35_3 S) ?_
    refine r_iload_n (q4 (i := 2) rfl) rfl ?_
    refine r_iconst (v := 1) (q4 (i := 3) rfl) (by decide) ?_
    refine r_ishr (q4 (i := 4) rfl) ?_
    rw [show ((nI lit) >>> (1 &&& 31) : Int32) = nI (lit / 2) from shr1 (by omega)]
    refine r_iaN (x := nI (tD t (lit / 2))) (q4 (i := 5) rfl) (k_38 S) (by omega) (by decide) x1 ?_
    refine r_istore_n (ls' := [(2, .int (nI (tD t (lit / 2)))), (0, .ref 35), (1, .int (nI lit))]) (q4 (i := 6) rfl) (Nat.le_of_ble_eq_true rfl) rfl ?_
    refine r_iload_n (q4 (i := 7) rfl) rfl ?_
    refine r_aload_n (q4 (i := 8) rfl) rfl ?_
    refine r_getI (x := nI (tn t)) (q4 (i := 9) rfl) rfl (by decide) (k_35 S) (fun _ _ _ => rfl) h8 ?_
    refine r_icmp 28 (q4 (i := 10) rfl) (by decide) (fun zz => absurd zz (show ¬ (nI (tD t (lit / 2)) ≤ nI (tn t)) from nI_ge g (by omega))) (fun _ => ?_)
    refine r_iload_n (q4 (i := 11) rfl) rfl ?_
    refine r_aload_n (q4 (i := 12) rfl) rfl ?_
    refine r_getI (x := nI (tn t)) (q4 (i := 13) rfl) rfl (by decide) (k_35 S) (fun _ _ _ => rfl) h8 ?_
    refine r_isub (q4 (i := 14) rfl) ?_
    rw [show ((nI (tD t (lit / 2))) - (nI (tn t)) : Int32) = nI (tD t (lit / 2) - tn t) from nI_subN (by omega)]
    refine r_iconst (v := 1) (q4 (i := 15) rfl) (by decide) ?_
    refine r_isub (q4 (i := 16) rfl) ?_
    rw [show ((nI (tD t (lit / 2) - tn t)) - 1 : Int32) = nI (tD t (lit / 2) - tn t - 1) from nI_subN (b := 1) (by omega)]
    refine r_goto 29 (q4 (i := 17) rfl) (by decide) ?_
    exact r_iret (q4 (i := 19) rfl) rfl hQ
  · rw [if_neg g] at hQ
    have hQ : Q (some (.int (-1))) h := hQ
    refine r_aload_n (q4 (i := 0) rfl) rfl ?_
    refine r_getR (b := 38) (q4 (i := 1) rfl) rfl (by decide) (k_35 S) (fun _ _ _ => rfl) (r_35_3 S) ?_
    refine r_iload_n (q4 (i := 2) rfl) rfl ?_
    refine r_iconst (v := 1) (q4 (i := 3) rfl) (by decide) ?_
    refine r_ishr (q4 (i := 4) rfl) ?_
    rw [show ((nI lit) >>> (1 &&& 31) : Int32) = nI (lit / 2) from shr1 (by omega)]
    refine r_iaN (x := nI (tD t (lit / 2))) (q4 (i := 5) rfl) (k_38 S) (by omega) (by decide) x1 ?_
    refine r_istore_n (ls' := [(2, .int (nI (tD t (lit / 2)))), (0, .ref 35), (1, .int (nI lit))]) (q4 (i := 6) rfl) (Nat.le_of_ble_eq_true rfl) rfl ?_
    refine r_iload_n (q4 (i := 7) rfl) rfl ?_
    refine r_aload_n (q4 (i := 8) rfl) rfl ?_
    refine r_getI (x := nI (tn t)) (q4 (i := 9) rfl) rfl (by decide) (k_35 S) (fun _ _ _ => rfl) h8 ?_
    refine r_icmp 28 (q4 (i := 10) rfl) (by decide) (fun _ => ?_) (fun zz => absurd (show nI (tD t (lit / 2)) ≤ nI (tn t) from nI_le (by omega) (by omega)) zz)
    refine r_iconst (v := (-1)) (q4 (i := 18) rfl) (by decide) ?_
    exact r_iret (q4 (i := 19) rfl) rfl hQ
set_option maxHeartbeats 2000000 in
set_option maxRecDepth 10000 in
theorem sp_sideOf {d : Nat} {h : hp} (S : Sh h) {t : txt} (X : XT h t) {k j : Nat} (hk : k < tN t) (hj : j ≤ 1) : Run (d + 1) 5 [.ref 35, .int (nI k), .int (nI j)] h 0 0 (some (.int (nI (sid t k j)))) h := by
  refine Run.of (Nat.le_of_ble_eq_true rfl) (fun Q hQ => ?_)
  show Wp (Ex (d)) 5 Q 0 [(0, .ref 35), (1, .int (nI k)), (2, .int (nI j))] [] h 0 0
  refine r_aload_n (q5 (i := 0) rfl) rfl ?_
  refine r_getR (b := 39) (q5 (i := 1) rfl) rfl (by decide) (k_35 S) (fun _ _ _ => rfl) (r_35_4 S) ?_
  refine r_aload_n (q5 (i := 2) rfl) rfl ?_
  refine r_getI (x := nI (tO t)) (q5 (i := 3) rfl) rfl (by decide) (k_35 S) (fun _ _ _ => rfl) X.2.2.1.2.1 ?_
  refine r_iconst (v := 2) (q5 (i := 4) rfl) (by decide) ?_
  refine r_iload_n (q5 (i := 5) rfl) rfl ?_
  refine r_imul (q5 (i := 6) rfl) ?_
  rw [show (2 * (nI k) : Int32) = nI (2 * k) from nI_mul 2 k]
  refine r_iadd (q5 (i := 7) rfl) ?_
  rw [show ((nI (tO t)) + (nI (2 * k)) : Int32) = nI (tO t + 2 * k) from nI_add _ _]
  refine r_iload_n (q5 (i := 8) rfl) rfl ?_
  refine r_iadd (q5 (i := 9) rfl) ?_
  rw [show ((nI (tO t + 2 * k)) + (nI j) : Int32) = nI (tO t + 2 * k + j) from nI_add _ _]
  refine r_iaN (x := nI (sid t k j)) (q5 (i := 10) rfl) (k_39 S) (by have := X.2.2.2; omega) (by decide) ((sid_le X hk hj).1) ?_
  exact r_iret (q5 (i := 11) rfl) rfl hQ
def thr (t : txt) (rk : Nat → Option Nat) (lit : Nat) : Bool := match AO (tD t) (tn t) lit with
  | none => true
  | some k => (rk k).isSome
def rdy (t : txt) (rk : Nat → Option Nat) (k : Nat) : Bool := !(rk k).isSome && thr t rk (sid t k 0) && thr t rk (sid t k 1)
def RK (h : hp) (rk : Nat → Option Nat) : Prop := ∀ k, k < 119 → hI h 44 k = oO (rk k) ∧ ∀ i, rk k = some i → i < 119
theorem oO_none {o : Option Nat} (ho : ∀ i, o = some i → i < 119) : oO o = -1 ↔ o.isSome = false := by
  cases o with
  | none => exact ⟨fun _ => rfl, fun _ => rfl⟩
  | some i =>
    have := ho i rfl
    exact ⟨fun e => absurd e (nI_ne1 (by omega)), fun e => by cases e⟩
set_option maxHeartbeats 2000000 in
set_option maxRecDepth 10000 in
theorem sp_isThere {d : Nat} {h : hp} (S : Sh h) {t : txt} (X : XT h t) {rk : Nat → Option Nat} (K : RK h rk) {lit : Nat} (hl : lit ≤ 2001) : Run (d + 1 + 1) 26 [.ref 42, .int (nI lit)] h 0 0 (some (.int (if thr t rk lit then 1 else 0))) h := by
  have R1 := sp_andOf (d := d) S X hl
  have hN := X.2.2.2.2.2
  refine Run.of (Nat.le_of_ble_eq_true rfl) (fun Q hQ => ?_)
  show Wp (Ex (d + 1)) 26 Q 0 [(0, .ref 42), (1, .int (nI lit))] [] h 0 0
  cases e : AO (tD t) (tn t) lit with
  | none =>
    have e2 : thr t rk lit = true := by unfold thr; rw [e]
    rw [e] at R1
    rw [e2] at hQ
    refine r_aload_n (q26 (i := 0) rfl) rfl ?_
    refine r_getR (b := 35) (q26 (i := 1) rfl) rfl (by decide) (k_42 S) (fun _ _ _ => rfl) (r_42_0 S) ?_
    refine r_iload_n (q26 (i := 2) rfl) rfl ?_
    refine r_cV (d := _) (q26 (i := 3) rfl) rfl rfl rfl (k_35 S) (Nat.le_of_ble_eq_true rfl) (Nat.zero_le _) (Nat.zero_le _) R1 ?_
    show Wp _ _ _ 8 [(0, .ref 42), (1, .int (nI lit))] [.int (-1)] h _ _
    refine r_istore_n (ls' := [(2, .int (-1)), (0, .ref 42), (1, .int (nI lit))]) (q26 (i := 4) rfl) (Nat.le_of_ble_eq_true rfl) rfl ?_
    refine r_iload_n (q26 (i := 5) rfl) rfl ?_
    refine r_iconst (v := (-1)) (q26 (i := 6) rfl) (by decide) ?_
    refine r_icmp 24 (q26 (i := 7) rfl) (by decide) (fun _ => ?_) (fun zz => absurd (show (-1 : Int32) = (-1) from by decide) zz)
    refine r_iconst (v := 1) (q26 (i := 14) rfl) (by decide) ?_
    refine r_goto 29 (q26 (i := 15) rfl) (by decide) ?_
    exact r_zret (q26 (i := 17) rfl) rfl (by decide) hQ
  | some k =>
    have hk := AO_lt X hl e
    obtain ⟨k1, k2⟩ := K k (by omega)
    have e2 : thr t rk lit = (rk k).isSome := by unfold thr; rw [e]
    have e3 := oO_none k2
    rw [e] at R1
    rw [e2] at hQ
    cases g : (rk k).isSome with
    | true =>
      rw [g] at hQ e3
      refine r_aload_n (q26 (i := 0) rfl) rfl ?_
      refine r_getR (b := 35) (q26 (i := 1) rfl) rfl (by decide) (k_42 S) (fun _ _ _ => rfl) (r_42_0 S) ?_
      refine r_iload_n (q26 (i := 2) rfl) rfl ?_
      refine r_cV (d := _) (q26 (i := 3) rfl) rfl rfl rfl (k_35 S) (Nat.le_of_ble_eq_true rfl) (Nat.zero_le _) (Nat.zero_le _) R1 ?_
      show Wp _ _ _ 8 [(0, .ref 42), (1, .int (nI lit))] [.int (nI k)] h _ _
      refine r_istore_n (ls' := [(2, .int (nI k)), (0, .ref 42), (1, .int (nI lit))]) (q26 (i := 4) rfl) (Nat.le_of_ble_eq_true rfl) rfl ?_
      refine r_iload_n (q26 (i := 5) rfl) rfl ?_
      refine r_iconst (v := (-1)) (q26 (i := 6) rfl) (by decide) ?_
      refine r_icmp 24 (q26 (i := 7) rfl) (by decide) (fun zz => absurd zz (show ¬ (nI k = (-1)) from nI_ne1 (by omega))) (fun _ => ?_)
      refine r_aload_n (q26 (i := 8) rfl) rfl ?_
      refine r_getR (b := 44) (q26 (i := 9) rfl) rfl (by decide) (k_42 S) (fun _ _ _ => rfl) (r_42_2 S) ?_
      refine r_iload_n (q26 (i := 10) rfl) rfl ?_
      refine r_iaN (x := oO (rk k)) (q26 (i := 11) rfl) (k_44 S) (by omega) (by decide) k1 ?_
      refine r_iconst (v := (-1)) (q26 (i := 12) rfl) (by decide) ?_
      refine r_icmp 28 (q26 (i := 13) rfl) (by decide) (fun zz => absurd zz (show ¬ (oO (rk k) = (-1)) from fun y => absurd (e3.mp y) (by decide))) (fun _ => ?_)
      refine r_iconst (v := 1) (q26 (i := 14) rfl) (by decide) ?_
      refine r_goto 29 (q26 (i := 15) rfl) (by decide) ?_
      exact r_zret (q26 (i := 17) rfl) rfl (by decide) hQ
    | false =>
      rw [g] at hQ e3
      refine r_aload_n (q26 (i := 0) rfl) rfl ?_
      refine r_getR (b := 35) (q26 (i := 1) rfl) rfl (by decide) (k_42 S) (fun _ _ _ => rfl) (r_42_0 S) ?_
      refine r_iload_n (q26 (i := 2) rfl) rfl ?_
      refine r_cV (d := _) (q26 (i := 3) rfl) rfl rfl rfl (k_35 S) (Nat.le_of_ble_eq_true rfl) (Nat.zero_le _) (Nat.zero_le _) R1 ?_
      show Wp _ _ _ 8 [(0, .ref 42), (1, .int (nI lit))] [.int (nI k)] h _ _
      refine r_istore_n (ls' := [(2, .int (nI k)), (0, .ref 42), (1, .int (nI lit))]) (q26 (i := 4) rfl) (Nat.le_of_ble_eq_true rfl) rfl ?_
      refine r_iload_n (q26 (i := 5) rfl) rfl ?_
      refine r_iconst (v := (-1)) (q26 (i := 6) rfl) (by decide) ?_
      refine r_icmp 24 (q26 (i := 7) rfl) (by decide) (fun zz => absurd zz (show ¬ (nI k = (-1)) from nI_ne1 (by omega))) (fun _ => ?_)
      refine r_aload_n (q26 (i := 8) rfl) rfl ?_
      refine r_getR (b := 44) (q26 (i := 9) rfl) rfl (by decide) (k_42 S) (fun _ _ _ => rfl) (r_42_2 S) ?_
      refine r_iload_n (q26 (i := 10) rfl) rfl ?_
      refine r_iaN (x := oO (rk k)) (q26 (i := 11) rfl) (k_44 S) (by omega) (by decide) k1 ?_
      refine r_iconst (v := (-1)) (q26 (i := 12) rfl) (by decide) ?_
      refine r_icmp 28 (q26 (i := 13) rfl) (by decide) (fun _ => ?_) (fun zz => absurd (show oO (rk k) = (-1) from e3.mpr rfl) zz)
      refine r_iconst (v := 0) (q26 (i := 16) rfl) (by decide) ?_
      exact r_zret (q26 (i := 17) rfl) rfl (by decide) hQ
noncomputable def frdy (t : txt) (rk : Nat → Option Nat) : Option Nat := if lst (rdy t rk) (tN t) < tN t then some (lst (rdy t rk) (tN t)) else none
set_option maxHeartbeats 2000000 in
set_option maxRecDepth 10000 in
theorem lp_frdy {d : Nat} {h : hp} (S : Sh h) {t : txt} (X : XT h t) {rk : Nat → Option Nat} (K : RK h rk) {Q : resP} {bc bs : Nat} (hQ : Q (some (.int (oO (frdy t rk)))) h) : ∀ (m k : Nat), k + m = tN t → (∀ i, i < k → rdy t rk i = false) → ∀ ls : List (Nat × Value), ls.lookup 1 = some (.int (nI k)) → ls.lookup 0 = some (.ref 42) → Wp (Ex (d + 2)) 25 Q 2 ls [] h bc bs := by
  have h10 := X.2.2.1.2.2
  have hN := X.2.2.2.2.2
  intro m
  induction m with
  | zero =>
    intro k hk hz ls l1 l0
    have e : k = tN t := by omega
    subst e
    unfold frdy at hQ
    rw [lst_no hz, if_neg (Nat.lt_irrefl _)] at hQ
    have hQ : Q (some (.int (-1))) h := hQ
    refine r_iload_n (q25 (i := 2) rfl) l1 ?_
    refine r_aload_n (q25 (i := 3) rfl) l0 ?_
    refine r_getR (b := 35) (q25 (i := 4) rfl) rfl (by decide) (k_42 S) (fun _ _ _ => rfl) (r_42_0 S) ?_
    refine r_getI (x := nI (tN t)) (q25 (i := 5) rfl) rfl (by decide) (k_35 S) (fun _ _ _ => rfl) h10 ?_
    refine r_icmp 63 (q25 (i := 6) rfl) (by decide) (fun _ => ?_) (fun zz => absurd (show nI (tN t) ≤ nI (tN t) from Int32.le_refl _) zz)
    refine r_iconst (v := (-1)) (q25 (i := 33) rfl) (by decide) ?_
    exact r_iret (q25 (i := 34) rfl) rfl hQ
  | succ m ih =>
    intro k hk hz ls l1 l0
    obtain ⟨k1, k2⟩ := K k (by omega)
    have e3 := oO_none k2
    have R1 := sp_sideOf (d := d + 1) S X (k := k) (j := 0) (by omega) (by decide)
    have R2 := sp_isThere (d := d) S X K (sid_le X (k := k) (j := 0) (by omega) (by decide)).2
    have R3 := sp_sideOf (d := d + 1) S X (k := k) (j := 1) (by omega) (by decide)
    have R4 := sp_isThere (d := d) S X K (sid_le X (k := k) (j := 1) (by omega) (by decide)).2
    have nx : rdy t rk k = false → ∀ i, i < k + 1 → rdy t rk i = false := fun g i hi => by
      by_cases y : i = k
      · rw [y]; exact g
      · exact hz i (by omega)
    cases g : (rk k).isSome with
    | true =>
      rw [g] at e3
      have er : rdy t rk k = false := by unfold rdy; rw [g]; rfl
      refine r_iload_n (q25 (i := 2) rfl) l1 ?_
      refine r_aload_n (q25 (i := 3) rfl) l0 ?_
      refine r_getR (b := 35) (q25 (i := 4) rfl) rfl (by decide) (k_42 S) (fun _ _ _ => rfl) (r_42_0 S) ?_
      refine r_getI (x := nI (tN t)) (q25 (i := 5) rfl) rfl (by decide) (k_35 S) (fun _ _ _ => rfl) h10 ?_
      refine r_icmp 63 (q25 (i := 6) rfl) (by decide) (fun zz => absurd zz (show ¬ (nI (tN t) ≤ nI k) from nI_ge (by omega) (by omega))) (fun _ => ?_)
      refine r_aload_n (q25 (i := 7) rfl) l0 ?_
      refine r_getR (b := 44) (q25 (i := 8) rfl) rfl (by decide) (k_42 S) (fun _ _ _ => rfl) (r_42_2 S) ?_
      refine r_iload_n (q25 (i := 9) rfl) l1 ?_
      refine r_iaN (x := oO (rk k)) (q25 (i := 10) rfl) (k_44 S) (by omega) (by decide) k1 ?_
      refine r_iconst (v := (-1)) (q25 (i := 11) rfl) (by decide) ?_
      refine r_icmp 57 (q25 (i := 12) rfl) (by decide) (fun _ => ?_) (fun zz => absurd (show ¬ oO (rk k) = (-1) from fun y => absurd (e3.mp y) (by decide)) zz)
      refine r_iinc (y := nI (k + 1)) (q25 (i := 31) rfl) (Nat.le_of_ble_eq_true rfl) l1 (nI_1 k) rfl ?_
      have l0 := lk1 (k := 1) (v := .int (nI (k + 1))) l0 (by decide) (Or.inl rfl)
      have l1 := lk0 ls 1 (.int (nI (k + 1)))
      generalize lset1 ls 1 (.int (nI (k + 1))) = ls at l1 l0 ⊢
      refine r_goto 2 (q25 (i := 32) rfl) (by decide) ?_
      exact ih (k + 1) (by omega) (nx er) ls l1 l0
    | false =>
      rw [g] at e3
      cases g2 : thr t rk (sid t k 0) with
      | false =>
        have er : rdy t rk k = false := by unfold rdy; rw [g, g2]; rfl
        rw [g2] at R2
        refine r_iload_n (q25 (i := 2) rfl) l1 ?_
        refine r_aload_n (q25 (i := 3) rfl) l0 ?_
        refine r_getR (b := 35) (q25 (i := 4) rfl) rfl (by decide) (k_42 S) (fun _ _ _ => rfl) (r_42_0 S) ?_
        refine r_getI (x := nI (tN t)) (q25 (i := 5) rfl) rfl (by decide) (k_35 S) (fun _ _ _ => rfl) h10 ?_
        refine r_icmp 63 (q25 (i := 6) rfl) (by decide) (fun zz => absurd zz (show ¬ (nI (tN t) ≤ nI k) from nI_ge (by omega) (by omega))) (fun _ => ?_)
        refine r_aload_n (q25 (i := 7) rfl) l0 ?_
        refine r_getR (b := 44) (q25 (i := 8) rfl) rfl (by decide) (k_42 S) (fun _ _ _ => rfl) (r_42_2 S) ?_
        refine r_iload_n (q25 (i := 9) rfl) l1 ?_
        refine r_iaN (x := oO (rk k)) (q25 (i := 10) rfl) (k_44 S) (by omega) (by decide) k1 ?_
        refine r_iconst (v := (-1)) (q25 (i := 11) rfl) (by decide) ?_
        refine r_icmp 57 (q25 (i := 12) rfl) (by decide) (fun zz => absurd zz (show ¬ (¬ oO (rk k) = (-1)) from fun y => y (e3.mpr rfl))) (fun _ => ?_)
        refine r_aload_n (q25 (i := 13) rfl) l0 ?_
        refine r_aload_n (q25 (i := 14) rfl) l0 ?_
        refine r_getR (b := 35) (q25 (i := 15) rfl) rfl (by decide) (k_42 S) (fun _ _ _ => rfl) (r_42_0 S) ?_
        refine r_iload_n (q25 (i := 16) rfl) l1 ?_
        refine r_iconst (v := nI 0) (q25 (i := 17) rfl) (by decide) ?_
        refine r_cV (d := _) (q25 (i := 18) rfl) rfl rfl rfl (k_35 S) (Nat.le_of_ble_eq_true rfl) (Nat.zero_le _) (Nat.zero_le _) R1 ?_
        show Wp _ _ _ 33 ls [.int (nI (sid t k 0)), .ref 42] h _ _
        refine r_cV (d := _) (q25 (i := 19) rfl) rfl rfl rfl (k_42 S) (Nat.le_of_ble_eq_true rfl) (Nat.zero_le _) (Nat.zero_le _) R2 ?_
        show Wp _ _ _ 36 ls [.int 0] h _ _
        refine r_if 57 (q25 (i := 20) rfl) (by decide) (fun _ => ?_) (fun zz => absurd (show (0 : Int32) = 0 from by decide) zz)
        refine r_iinc (y := nI (k + 1)) (q25 (i := 31) rfl) (Nat.le_of_ble_eq_true rfl) l1 (nI_1 k) rfl ?_
        have l0 := lk1 (k := 1) (v := .int (nI (k + 1))) l0 (by decide) (Or.inl rfl)
        have l1 := lk0 ls 1 (.int (nI (k + 1)))
        generalize lset1 ls 1 (.int (nI (k + 1))) = ls at l1 l0 ⊢
        refine r_goto 2 (q25 (i := 32) rfl) (by decide) ?_
        exact ih (k + 1) (by omega) (nx er) ls l1 l0
      | true =>
        rw [g2] at R2
        cases g3 : thr t rk (sid t k 1) with
        | false =>
          have er : rdy t rk k = false := by unfold rdy; rw [g, g2, g3]; rfl
          rw [g3] at R4
          refine r_iload_n (q25 (i := 2) rfl) l1 ?_
          refine r_aload_n (q25 (i := 3) rfl) l0 ?_
          refine r_getR (b := 35) (q25 (i := 4) rfl) rfl (by decide) (k_42 S) (fun _ _ _ => rfl) (r_42_0 S) ?_
          refine r_getI (x := nI (tN t)) (q25 (i := 5) rfl) rfl (by decide) (k_35 S) (fun _ _ _ => rfl) h10 ?_
          refine r_icmp 63 (q25 (i := 6) rfl) (by decide) (fun zz => absurd zz (show ¬ (nI (tN t) ≤ nI k) from nI_ge (by omega) (by omega))) (fun _ => ?_)
          refine r_aload_n (q25 (i := 7) rfl) l0 ?_
          refine r_getR (b := 44) (q25 (i := 8) rfl) rfl (by decide) (k_42 S) (fun _ _ _ => rfl) (r_42_2 S) ?_
          refine r_iload_n (q25 (i := 9) rfl) l1 ?_
          refine r_iaN (x := oO (rk k)) (q25 (i := 10) rfl) (k_44 S) (by omega) (by decide) k1 ?_
          refine r_iconst (v := (-1)) (q25 (i := 11) rfl) (by decide) ?_
          refine r_icmp 57 (q25 (i := 12) rfl) (by decide) (fun zz => absurd zz (show ¬ (¬ oO (rk k) = (-1)) from fun y => y (e3.mpr rfl))) (fun _ => ?_)
          refine r_aload_n (q25 (i := 13) rfl) l0 ?_
          refine r_aload_n (q25 (i := 14) rfl) l0 ?_
          refine r_getR (b := 35) (q25 (i := 15) rfl) rfl (by decide) (k_42 S) (fun _ _ _ => rfl) (r_42_0 S) ?_
          refine r_iload_n (q25 (i := 16) rfl) l1 ?_
          refine r_iconst (v := nI 0) (q25 (i := 17) rfl) (by decide) ?_
          refine r_cV (d := _) (q25 (i := 18) rfl) rfl rfl rfl (k_35 S) (Nat.le_of_ble_eq_true rfl) (Nat.zero_le _) (Nat.zero_le _) R1 ?_
          show Wp _ _ _ 33 ls [.int (nI (sid t k 0)), .ref 42] h _ _
          refine r_cV (d := _) (q25 (i := 19) rfl) rfl rfl rfl (k_42 S) (Nat.le_of_ble_eq_true rfl) (Nat.zero_le _) (Nat.zero_le _) R2 ?_
          show Wp _ _ _ 36 ls [.int 1] h _ _
          refine r_if 57 (q25 (i := 20) rfl) (by decide) (fun zz => absurd zz (show ¬ ((1 : Int32) = 0) from by decide)) (fun _ => ?_)
          refine r_aload_n (q25 (i := 21) rfl) l0 ?_
          refine r_aload_n (q25 (i := 22) rfl) l0 ?_
          refine r_getR (b := 35) (q25 (i := 23) rfl) rfl (by decide) (k_42 S) (fun _ _ _ => rfl) (r_42_0 S) ?_
          refine r_iload_n (q25 (i := 24) rfl) l1 ?_
          refine r_iconst (v := nI 1) (q25 (i := 25) rfl) (by decide) ?_
          refine r_cV (d := _) (q25 (i := 26) rfl) rfl rfl rfl (k_35 S) (Nat.le_of_ble_eq_true rfl) (Nat.zero_le _) (Nat.zero_le _) R3 ?_
          show Wp _ _ _ 49 ls [.int (nI (sid t k 1)), .ref 42] h _ _
          refine r_cV (d := _) (q25 (i := 27) rfl) rfl rfl rfl (k_42 S) (Nat.le_of_ble_eq_true rfl) (Nat.zero_le _) (Nat.zero_le _) R4 ?_
          show Wp _ _ _ 52 ls [.int 0] h _ _
          refine r_if 57 (q25 (i := 28) rfl) (by decide) (fun _ => ?_) (fun zz => absurd (show (0 : Int32) = 0 from by decide) zz)
          refine r_iinc (y := nI (k + 1)) (q25 (i := 31) rfl) (Nat.le_of_ble_eq_true rfl) l1 (nI_1 k) rfl ?_
          have l0 := lk1 (k := 1) (v := .int (nI (k + 1))) l0 (by decide) (Or.inl rfl)
          have l1 := lk0 ls 1 (.int (nI (k + 1)))
          generalize lset1 ls 1 (.int (nI (k + 1))) = ls at l1 l0 ⊢
          refine r_goto 2 (q25 (i := 32) rfl) (by decide) ?_
          exact ih (k + 1) (by omega) (nx er) ls l1 l0
        | true =>
          have er : rdy t rk k = true := by unfold rdy; rw [g, g2, g3]; rfl
          rw [g3] at R4
          unfold frdy at hQ
          rw [lst_is (show k < tN t by omega) hz er, if_pos (by omega)] at hQ
          have hQ : Q (some (.int (nI k))) h := hQ
          refine r_iload_n (q25 (i := 2) rfl) l1 ?_
          refine r_aload_n (q25 (i := 3) rfl) l0 ?_
          refine r_getR (b := 35) (q25 (i := 4) rfl) rfl (by decide) (k_42 S) (fun _ _ _ => rfl) (r_42_0 S) ?_
          refine r_getI (x := nI (tN t)) (q25 (i := 5) rfl) rfl (by decide) (k_35 S) (fun _ _ _ => rfl) h10 ?_
          refine r_icmp 63 (q25 (i := 6) rfl) (by decide) (fun zz => absurd zz (show ¬ (nI (tN t) ≤ nI k) from nI_ge (by omega) (by omega))) (fun _ => ?_)
          refine r_aload_n (q25 (i := 7) rfl) l0 ?_
          refine r_getR (b := 44) (q25 (i := 8) rfl) rfl (by decide) (k_42 S) (fun _ _ _ => rfl) (r_42_2 S) ?_
          refine r_iload_n (q25 (i := 9) rfl) l1 ?_
          refine r_iaN (x := oO (rk k)) (q25 (i := 10) rfl) (k_44 S) (by omega) (by decide) k1 ?_
          refine r_iconst (v := (-1)) (q25 (i := 11) rfl) (by decide) ?_
          refine r_icmp 57 (q25 (i := 12) rfl) (by decide) (fun zz => absurd zz (show ¬ (¬ oO (rk k) = (-1)) from fun y => y (e3.mpr rfl))) (fun _ => ?_)
          refine r_aload_n (q25 (i := 13) rfl) l0 ?_
          refine r_aload_n (q25 (i := 14) rfl) l0 ?_
          refine r_getR (b := 35) (q25 (i := 15) rfl) rfl (by decide) (k_42 S) (fun _ _ _ => rfl) (r_42_0 S) ?_
          refine r_iload_n (q25 (i := 16) rfl) l1 ?_
          refine r_iconst (v := nI 0) (q25 (i := 17) rfl) (by decide) ?_
          refine r_cV (d := _) (q25 (i := 18) rfl) rfl rfl rfl (k_35 S) (Nat.le_of_ble_eq_true rfl) (Nat.zero_le _) (Nat.zero_le _) R1 ?_
          show Wp _ _ _ 33 ls [.int (nI (sid t k 0)), .ref 42] h _ _
          refine r_cV (d := _) (q25 (i := 19) rfl) rfl rfl rfl (k_42 S) (Nat.le_of_ble_eq_true rfl) (Nat.zero_le _) (Nat.zero_le _) R2 ?_
          show Wp _ _ _ 36 ls [.int 1] h _ _
          refine r_if 57 (q25 (i := 20) rfl) (by decide) (fun zz => absurd zz (show ¬ ((1 : Int32) = 0) from by decide)) (fun _ => ?_)
          refine r_aload_n (q25 (i := 21) rfl) l0 ?_
          refine r_aload_n (q25 (i := 22) rfl) l0 ?_
          refine r_getR (b := 35) (q25 (i := 23) rfl) rfl (by decide) (k_42 S) (fun _ _ _ => rfl) (r_42_0 S) ?_
          refine r_iload_n (q25 (i := 24) rfl) l1 ?_
          refine r_iconst (v := nI 1) (q25 (i := 25) rfl) (by decide) ?_
          refine r_cV (d := _) (q25 (i := 26) rfl) rfl rfl rfl (k_35 S) (Nat.le_of_ble_eq_true rfl) (Nat.zero_le _) (Nat.zero_le _) R3 ?_
          show Wp _ _ _ 49 ls [.int (nI (sid t k 1)), .ref 42] h _ _
          refine r_cV (d := _) (q25 (i := 27) rfl) rfl rfl rfl (k_42 S) (Nat.le_of_ble_eq_true rfl) (Nat.zero_le _) (Nat.zero_le _) R4 ?_
          show Wp _ _ _ 52 ls [.int 1] h _ _
          refine r_if 57 (q25 (i := 28) rfl) (by decide) (fun zz => absurd zz (show ¬ ((1 : Int32) = 0) from by decide)) (fun _ => ?_)
          refine r_iload_n (q25 (i := 29) rfl) l1 ?_
          exact r_iret (q25 (i := 30) rfl) rfl hQ
set_option maxHeartbeats 2000000 in
set_option maxRecDepth 10000 in
theorem sp_frdy {d : Nat} {h : hp} (S : Sh h) {t : txt} (X : XT h t) {rk : Nat → Option Nat} (K : RK h rk) : Run (d + 2 + 1) 25 [.ref 42] h 0 0 (some (.int (oO (frdy t rk)))) h := by
  refine Run.of (Nat.le_of_ble_eq_true rfl) (fun Q hQ => ?_)
  show Wp (Ex (d + 2)) 25 Q 0 [(0, .ref 42)] [] h 0 0
  refine r_iconst (v := 0) (q25 (i := 0) rfl) (by decide) ?_
  refine r_istore_n (ls' := [(1, .int 0), (0, .ref 42)]) (q25 (i := 1) rfl) (Nat.le_of_ble_eq_true rfl) rfl ?_
  exact lp_frdy S X K hQ (tN t) 0 (Nat.zero_add _) (fun i hi => absurd hi (Nat.not_lt_zero i)) _ rfl rfl
abbrev bst : Type := (Nat → Nat) × (Nat → Bool) × Nat
def badd (b : bst) (o : Option Nat) : bst := match o with
  | none => b
  | some k => if b.2.1 k then b else (u1 b.1 b.2.2 k, u1 b.2.1 k true, b.2.2 + 1)
def bside (t : txt) (b : bst) (a : Nat) : bst := badd (badd b (sAO t a 0)) (sAO t a 1)
def RQ (h : hp) (N : Nat) (b : bst) : Prop := hI h 42 5 = nI b.2.2 ∧ (∀ i, i < b.2.2 → hI h 45 i = nI (b.1 i) ∧ b.1 i < N) ∧ (∀ k, k < 119 → hI h 46 k = if b.2.1 k then 1 else 0) ∧ cntB b.2.1 119 = b.2.2 ∧ ∀ i, i < b.2.2 → b.2.1 (b.1 i) = true
def FrO (h h' : hp) : Prop := h'.2 = h.2 ∧ ∀ k, k ≠ 42 → k ≠ 45 → k ≠ 46 → hI h' k = hI h k
theorem FrO.rf (h : hp) : FrO h h := ⟨rfl, fun _ _ _ _ => rfl⟩
theorem FrO.tr {h h' h'' : hp} (a : FrO h h') (b : FrO h' h'') : FrO h h'' := ⟨b.1.trans a.1, fun k x y z => (b.2 k x y z).trans (a.2 k x y z)⟩
theorem FrO.S {h h' : hp} (F : FrO h h') (S : Sh h) : Sh h' := S.to (by rw [F.1])
theorem FrO.X {h h' : hp} (F : FrO h h') {t : txt} (X : XT h t) : XT h' t := X.to (fun j _ => by rw [F.2 35 (by decide) (by decide) (by decide)]) (F.2 38 (by decide) (by decide) (by decide)) (F.2 39 (by decide) (by decide) (by decide))
theorem FrO.w {h : hp} {a : Nat} (ha : a = 42 ∨ a = 45 ∨ a = 46) (i : Nat) (v : Int32) : FrO h (sI h a i v) := ⟨rfl, fun k x y z => by
  show u2 h.1 a _ _ k = _
  rw [u2_n (by omega)]⟩
theorem RQ_add {h : hp} {N : Nat} (hN : N ≤ 119) {b : bst} (R : RQ h N b) {k : Nat} (hk : k < N) (g : b.2.1 k = false) : RQ (sI (sI (sI h 46 k 1) 45 b.2.2 (nI k)) 42 5 (nI (b.2.2 + 1))) N (badd b (some k)) ∧ b.2.2 < 119 := by
  obtain ⟨r1, r2, r3, r4, r5⟩ := R
  have hlt : b.2.2 < 119 := by rw [← r4]; exact cntB_free g 119 (by omega)
  have e : badd b (some k) = (u1 b.1 b.2.2 k, u1 b.2.1 k true, b.2.2 + 1) := by
    show (if b.2.1 k then b else _) = _
    rw [g]; rfl
  rw [e]
  refine ⟨⟨rfl, fun i hi => ?_, fun j hj => ?_, ?_, fun i hi => ?_⟩, hlt⟩
  · show u1 (hI h 45) b.2.2 (nI k) i = nI (u1 b.1 b.2.2 k i) ∧ u1 b.1 b.2.2 k i < N
    have hi : i < b.2.2 + 1 := hi
    by_cases q : i = b.2.2
    · rw [q, u1_s, u1_s]; exact ⟨rfl, hk⟩
    · rw [u1_n q, u1_n q]; exact r2 i (by omega)
  · show u1 (hI h 46) k 1 j = if u1 b.2.1 k true j then 1 else 0
    by_cases q : j = k
    · rw [q, u1_s, u1_s]; rfl
    · rw [u1_n q, u1_n q]; exact r3 j hj
  · show cntB (u1 b.2.1 k true) 119 = b.2.2 + 1
    rw [cntB_upd (f := b.2.1) g u1_s (fun i hi => u1_n hi) 119 (by omega), r4]
  · show u1 b.2.1 k true (u1 b.1 b.2.2 k i) = true
    have hi : i < b.2.2 + 1 := hi
    by_cases q : i = b.2.2
    · rw [q, u1_s, u1_s]
    · rw [u1_n q]
      by_cases y : b.1 i = k
      · rw [y, u1_s]
      · rw [u1_n y]; exact r5 i (by omega)
set_option maxHeartbeats 2000000 in
set_option maxRecDepth 10000 in
theorem sp_reach {d : Nat} {h : hp} (S : Sh h) {N : Nat} (hN : N ≤ 119) {b : bst} (R : RQ h N b) {o : Option Nat} (ho : ∀ k, o = some k → k < N) : ∃ h', Run (d + 1) 30 [.ref 42, .int (oO o)] h 0 0 none h' ∧ RQ h' N (badd b o) ∧ FrO h h' := by
  cases o with
  | none =>
    refine ⟨h, ?_, R, FrO.rf h⟩
    refine Run.of (Nat.le_of_ble_eq_true rfl) (fun Q hQ => ?_)
    show Wp (Ex d) 30 Q 0 [(0, .ref 42), (1, .int (-1))] [] h 0 0
    refine r_iload_n (q30 (i := 0) rfl) rfl ?_
    refine r_iconst (v := (-1)) (q30 (i := 1) rfl) (by decide) ?_
    refine r_icmp 50 (q30 (i := 2) rfl) (by decide) (fun _ => ?_) (fun zz => absurd (show (-1 : Int32) = (-1) from by decide) zz)
    exact r_vret (q30 (i := 29) rfl) rfl hQ
  | some k =>
    have hk := ho k rfl
    have r3 := R.2.2.1 k (by omega)
    have r1 := R.1
    cases g : b.2.1 k with
    | true =>
      have e : badd b (some k) = b := by
        show (if b.2.1 k then b else _) = _
        rw [g]; rfl
      rw [e]
      rw [g] at r3
      refine ⟨h, ?_, R, FrO.rf h⟩
      refine Run.of (Nat.le_of_ble_eq_true rfl) (fun Q hQ => ?_)
      show Wp (Ex d) 30 Q 0 [(0, .ref 42), (1, .int (nI k))] [] h 0 0
      refine r_iload_n (q30 (i := 0) rfl) rfl ?_
      refine r_iconst (v := (-1)) (q30 (i := 1) rfl) (by decide) ?_
      refine r_icmp 50 (q30 (i := 2) rfl) (by decide) (fun zz => absurd zz (show ¬ (nI k = (-1)) from nI_ne1 (by omega))) (fun _ => ?_)
      refine r_aload_n (q30 (i := 3) rfl) rfl ?_
      refine r_getR (b := 46) (q30 (i := 4) rfl) rfl (by decide) (k_42 S) (fun _ _ _ => rfl) (r_42_4 S) ?_
      refine r_iload_n (q30 (i := 5) rfl) rfl ?_
      refine r_zaN (x := 1) (q30 (i := 6) rfl) (k_46 S) (by omega) (by decide) r3 ?_
      refine r_if 50 (q30 (i := 7) rfl) (by decide) (fun _ => ?_) (fun zz => absurd (show ¬ (1 : Int32) = 0 from by decide) zz)
      exact r_vret (q30 (i := 29) rfl) rfl hQ
    | false =>
      rw [g] at r3
      obtain ⟨R', hlt⟩ := RQ_add hN R hk g
      refine ⟨_, ?_, R', ((FrO.w (by decide) _ _).tr (FrO.w (by decide) _ _)).tr (FrO.w (by decide) _ _)⟩
      refine Run.of (Nat.le_of_ble_eq_true rfl) (fun Q hQ => ?_)
      show Wp (Ex d) 30 Q 0 [(0, .ref 42), (1, .int (nI k))] [] h 0 0
      refine r_iload_n (q30 (i := 0) rfl) rfl ?_
      refine r_iconst (v := (-1)) (q30 (i := 1) rfl) (by decide) ?_
      refine r_icmp 50 (q30 (i := 2) rfl) (by decide) (fun zz => absurd zz (show ¬ (nI k = (-1)) from nI_ne1 (by omega))) (fun _ => ?_)
      refine r_aload_n (q30 (i := 3) rfl) rfl ?_
      refine r_getR (b := 46) (q30 (i := 4) rfl) rfl (by decide) (k_42 S) (fun _ _ _ => rfl) (r_42_4 S) ?_
      refine r_iload_n (q30 (i := 5) rfl) rfl ?_
      refine r_zaN (x := 0) (q30 (i := 6) rfl) (k_46 S) (by omega) (by decide) r3 ?_
      refine r_if 50 (q30 (i := 7) rfl) (by decide) (fun zz => absurd zz (show ¬ (¬ (0 : Int32) = 0) from by decide)) (fun _ => ?_)
      refine r_aload_n (q30 (i := 8) rfl) rfl ?_
      refine r_getI (x := nI b.2.2) (q30 (i := 9) rfl) rfl (by decide) (k_42 S) (fun _ _ _ => rfl) r1 ?_
      refine r_bipush (v := 119) (q30 (i := 10) rfl) (by decide) ?_
      refine r_icmp 50 (q30 (i := 11) rfl) (by decide) (fun zz => absurd zz (show ¬ (119 ≤ nI b.2.2) from nI_ge (b := 119) hlt (by decide))) (fun _ => ?_)
      refine r_aload_n (q30 (i := 12) rfl) rfl ?_
      refine r_getR (b := 46) (q30 (i := 13) rfl) rfl (by decide) (k_42 S) (fun _ _ _ => rfl) (r_42_4 S) ?_
      refine r_iload_n (q30 (i := 14) rfl) rfl ?_
      refine r_iconst (v := 1) (q30 (i := 15) rfl) (by decide) ?_
      refine r_zasN (y := 1) (q30 (i := 16) rfl) (k_46 S) (by omega) (by decide) (by decide) ?_
      refine r_aload_n (q30 (i := 17) rfl) rfl ?_
      refine r_getR (b := 45) (q30 (i := 18) rfl) rfl (by decide) (k_42 S) (fun _ _ _ => rfl) (r_42_3 S) ?_
      refine r_aload_n (q30 (i := 19) rfl) rfl ?_
      refine r_getI (x := nI b.2.2) (q30 (i := 20) rfl) rfl (by decide) (k_42 S) (fun _ _ _ => rfl) r1 ?_
      refine r_iload_n (q30 (i := 21) rfl) rfl ?_
      refine r_iasN (q30 (i := 22) rfl) (k_45 S) (by omega) (by decide) ?_
      refine r_aload_n (q30 (i := 23) rfl) rfl ?_
      refine r_dup (q30 (i := 24) rfl) rfl ?_
      refine r_getI (x := nI b.2.2) (q30 (i := 25) rfl) rfl (by decide) (k_42 S) (fun _ _ _ => rfl) r1 ?_
      refine r_iconst (v := 1) (q30 (i := 26) rfl) (by decide) ?_
      refine r_iadd (q30 (i := 27) rfl) ?_
      rw [show ((nI b.2.2) + 1 : Int32) = nI (b.2.2 + 1) from nI_1 _]
      refine r_putI (q30 (i := 28) rfl) rfl (by decide) (k_42 S) rfl rfl ?_
      exact r_vret (q30 (i := 29) rfl) rfl hQ
set_option maxHeartbeats 2000000 in
set_option maxRecDepth 10000 in
theorem sp_reachSides {d : Nat} {h : hp} (S : Sh h) {t : txt} (X : XT h t) {b : bst} (R : RQ h (tN t) b) {a : Nat} (ha : a < tN t) : ∃ h', Run (d + 1 + 1) 29 [.ref 42, .int (nI a)] h 0 0 none h' ∧ RQ h' (tN t) (bside t b a) ∧ FrO h h' := by
  have hN := X.2.2.2.2.2
  have s0 := (sid_le X ha (show 0 ≤ 1 by decide)).2
  have s1 := (sid_le X ha (show 1 ≤ 1 by decide)).2
  have R1 := sp_sideOf (d := d) S X ha (show 0 ≤ 1 by decide)
  have R2 := sp_andOf (d := d) S X s0
  obtain ⟨h1, R3, Q1, F1⟩ := sp_reach (d := d) S hN R (o := sAO t a 0) (fun k hk => AO_lt X s0 hk)
  have S1 := F1.S S
  have X1 := F1.X X
  have R4 := sp_sideOf (d := d) S1 X1 ha (show 1 ≤ 1 by decide)
  have R5 := sp_andOf (d := d) S1 X1 s1
  obtain ⟨h2, R6, Q2, F2⟩ := sp_reach (d := d) S1 hN Q1 (o := sAO t a 1) (fun k hk => AO_lt X s1 hk)
  have S2 := F2.S S1
  refine ⟨h2, ?_, Q2, F1.tr F2⟩
  refine Run.of (Nat.le_of_ble_eq_true rfl) (fun Q hQ => ?_)
  show Wp (Ex (d + 1)) 29 Q 0 [(0, .ref 42), (1, .int (nI a))] [] h 0 0
  refine r_aload_n (q29 (i := 0) rfl) rfl ?_
  refine r_aload_n (q29 (i := 1) rfl) rfl ?_
  refine r_getR (b := 35) (q29 (i := 2) rfl) rfl (by decide) (k_42 S) (fun _ _ _ => rfl) (r_42_0 S) ?_
  refine r_aload_n (q29 (i := 3) rfl) rfl ?_
  refine r_getR (b := 35) (q29 (i := 4) rfl) rfl (by decide) (k_42 S) (fun _ _ _ => rfl) (r_42_0 S) ?_
  refine r_iload_n (q29 (i := 5) rfl) rfl ?_
  refine r_iconst (v := nI 0) (q29 (i := 6) rfl) (by decide) ?_
  refine r_cV (d := _) (q29 (i := 7) rfl) rfl rfl rfl (k_35 S) (Nat.le_of_ble_eq_true rfl) (Nat.zero_le _) (Nat.zero_le _) R1 ?_
  show Wp _ _ _ 14 [(0, .ref 42), (1, .int (nI a))] [.int (nI (sid t a 0)), .ref 35, .ref 42] h _ _
  refine r_cV (d := _) (q29 (i := 8) rfl) rfl rfl rfl (k_35 S) (Nat.le_of_ble_eq_true rfl) (Nat.zero_le _) (Nat.zero_le _) R2 ?_
  show Wp _ _ _ 17 [(0, .ref 42), (1, .int (nI a))] [.int (oO (sAO t a 0)), .ref 42] h _ _
  refine r_cV (d := _) (q29 (i := 9) rfl) rfl rfl rfl (k_42 S) (Nat.le_of_ble_eq_true rfl) (Nat.zero_le _) (Nat.zero_le _) R3 ?_
  show Wp _ _ _ 20 [(0, .ref 42), (1, .int (nI a))] [] h1 _ _
  refine r_aload_n (q29 (i := 10) rfl) rfl ?_
  refine r_aload_n (q29 (i := 11) rfl) rfl ?_
  refine r_getR (b := 35) (q29 (i := 12) rfl) rfl (by decide) (k_42 S1) (fun _ _ _ => rfl) (r_42_0 S1) ?_
  refine r_aload_n (q29 (i := 13) rfl) rfl ?_
  refine r_getR (b := 35) (q29 (i := 14) rfl) rfl (by decide) (k_42 S1) (fun _ _ _ => rfl) (r_42_0 S1) ?_
  refine r_iload_n (q29 (i := 15) rfl) rfl ?_
  refine r_iconst (v := nI 1) (q29 (i := 16) rfl) (by decide) ?_
  refine r_cV (d := _) (q29 (i := 17) rfl) rfl rfl rfl (k_35 S1) (Nat.le_of_ble_eq_true rfl) (Nat.zero_le _) (Nat.zero_le _) R4 ?_
  show Wp _ _ _ 34 [(0, .ref 42), (1, .int (nI a))] [.int (nI (sid t a 1)), .ref 35, .ref 42] h1 _ _
  refine r_cV (d := _) (q29 (i := 18) rfl) rfl rfl rfl (k_35 S1) (Nat.le_of_ble_eq_true rfl) (Nat.zero_le _) (Nat.zero_le _) R5 ?_
  show Wp _ _ _ 37 [(0, .ref 42), (1, .int (nI a))] [.int (oO (sAO t a 1)), .ref 42] h1 _ _
  refine r_cV (d := _) (q29 (i := 19) rfl) rfl rfl rfl (k_42 S1) (Nat.le_of_ble_eq_true rfl) (Nat.zero_le _) (Nat.zero_le _) R6 ?_
  show Wp _ _ _ 40 [(0, .ref 42), (1, .int (nI a))] [] h2 _ _
  exact r_vret (q29 (i := 20) rfl) rfl hQ
def bloop (t : txt) : Nat → Nat → bst → bst
  | 0, _, b => b
  | m + 1, i, b => if i < b.2.2 then bloop t m (i + 1) (bside t b (b.1 i)) else b
def b00 : bst := (fun _ => 0, fun _ => false, 0)
def bres (t : txt) (a : Nat) : bst := bloop t 119 0 (bside t b00 a)
theorem cntB_0 : ∀ m, cntB (fun _ => false) m = 0
  | 0 => rfl
  | m + 1 => by
    show cntB (fun _ => false) m + 0 = 0
    rw [cntB_0 m]
set_option maxHeartbeats 2000000 in
set_option maxRecDepth 10000 in
theorem lp_nclr {d : Nat} {h : hp} (S : Sh h) {a : Nat} {Q : resP} {bc bs : Nat} (hk : ∀ ls : List (Nat × Value), ls.lookup 0 = some (.ref 42) → ls.lookup 1 = some (.int (nI a)) → Wp (Ex d) 28 Q 21 ls [] (rI h 46 (filI (hI h 46) 0 119)) bc bs) : ∀ (m i : Nat), i + m = 119 → ∀ ls : List (Nat × Value), ls.lookup 2 = some (.int (nI i)) → ls.lookup 0 = some (.ref 42) → ls.lookup 1 = some (.int (nI a)) → Wp (Ex d) 28 Q 2 ls [] (rI h 46 (filI (hI h 46) 0 i)) bc bs := by
  intro m
  induction m with
  | zero =>
    intro i hm ls l2 l0 l1
    have e : i = 119 := by omega
    subst e
    refine r_iload_n (q28 (i := 2) rfl) l2 ?_
    refine r_bipush (v := 119) (q28 (i := 3) rfl) (by decide) ?_
    refine r_icmp 21 (q28 (i := 4) rfl) (by decide) (fun _ => ?_) (fun zz => absurd (show 119 ≤ nI 119 from Int32.le_refl _) zz)
    exact hk ls l0 l1
  | succ m ih =>
    intro i hm ls l2 l0 l1
    refine r_iload_n (q28 (i := 2) rfl) l2 ?_
    refine r_bipush (v := 119) (q28 (i := 3) rfl) (by decide) ?_
    refine r_icmp 21 (q28 (i := 4) rfl) (by decide) (fun zz => absurd zz (show ¬ (119 ≤ nI i) from nI_ge (b := 119) (by omega) (by decide))) (fun _ => ?_)
    refine r_aload_n (q28 (i := 5) rfl) l0 ?_
    refine r_getR (b := 46) (q28 (i := 6) rfl) rfl (by decide) (k_42 S) (fun _ _ _ => rfl) (r_42_4 S) ?_
    refine r_iload_n (q28 (i := 7) rfl) l2 ?_
    refine r_iconst (v := 0) (q28 (i := 8) rfl) (by decide) ?_
    refine r_zasN (y := 0) (q28 (i := 9) rfl) (k_46 S) (by omega) (by decide) (by decide) ?_
    refine r_iinc (y := nI (i + 1)) (q28 (i := 10) rfl) (Nat.le_of_ble_eq_true rfl) l2 (nI_1 i) rfl ?_
    have l0 := lk1 (k := 2) (v := .int (nI (i + 1))) l0 (by decide) (Or.inr (by decide))
    have l1 := lk1 (k := 2) (v := .int (nI (i + 1))) l1 (by decide) (Or.inl rfl)
    have l2 := lk0 ls 2 (.int (nI (i + 1)))
    generalize lset1 ls 2 (.int (nI (i + 1))) = ls at l2 l0 l1 ⊢
    refine r_goto 2 (q28 (i := 11) rfl) (by decide) ?_
    rw [sI_rI, filI_s]
    exact ih (i + 1) (by omega) ls l2 l0 l1
set_option maxHeartbeats 2000000 in
set_option maxRecDepth 10000 in
theorem lp_nloop {d : Nat} {t : txt} {a : Nat} (ha : a < tN t) : ∀ (m i : Nat) (b : bst) (h : hp), i + m = 119 → Sh h → XT h t → RQ h (tN t) b → ∃ h', RQ h' (tN t) (bloop t m i b) ∧ FrO h h' ∧ ∀ (Q : resP), Q (some (.int (if (bloop t m i b).2.1 a then 1 else 0))) h' → ∀ (bc bs : Nat) (ls : List (Nat × Value)), ls.lookup 2 = some (.int (nI i)) → ls.lookup 0 = some (.ref 42) → ls.lookup 1 = some (.int (nI a)) → Wp (Ex (d + 2)) 28 Q 33 ls [] h bc bs := by
  intro m
  induction m with
  | zero =>
    intro i b h hm S X R
    have e : i = 119 := by omega
    subst e
    have r1 := R.1
    have hN := X.2.2.2.2.2
    have hc : b.2.2 ≤ 119 := by rw [← R.2.2.2.1]; exact cntB_le _ _
    have r3 := R.2.2.1 a (by omega)
    refine ⟨h, R, FrO.rf h, ?_⟩
    intro Q hQ bc bs ls l2 l0 l1
    have hQ : Q (some (.int (if b.2.1 a then 1 else 0))) h := hQ
    refine r_iload_n (q28 (i := 20) rfl) l2 ?_
    refine r_aload_n (q28 (i := 21) rfl) l0 ?_
    refine r_getI (x := nI b.2.2) (q28 (i := 22) rfl) rfl (by decide) (k_42 S) (fun _ _ _ => rfl) r1 ?_
    refine r_icmp 63 (q28 (i := 23) rfl) (by decide) (fun _ => ?_) (fun zz => absurd (show nI b.2.2 ≤ nI 119 from nI_le (b := 119) hc (by decide)) zz)
    refine r_aload_n (q28 (i := 35) rfl) l0 ?_
    refine r_getR (b := 46) (q28 (i := 36) rfl) rfl (by decide) (k_42 S) (fun _ _ _ => rfl) (r_42_4 S) ?_
    refine r_iload_n (q28 (i := 37) rfl) l1 ?_
    refine r_zaN (x := if b.2.1 a then 1 else 0) (q28 (i := 38) rfl) (k_46 S) (by omega) (by decide) r3 ?_
    exact r_zret (q28 (i := 39) rfl) rfl (by cases b.2.1 a <;> decide) hQ
  | succ m ih =>
    intro i b h hm S X R
    have r1 := R.1
    have hN := X.2.2.2.2.2
    have hc : b.2.2 ≤ 119 := by rw [← R.2.2.2.1]; exact cntB_le _ _
    by_cases g : i < b.2.2
    · obtain ⟨q1, q2⟩ := R.2.1 i g
      obtain ⟨h1, R1, Q1, F1⟩ := sp_reachSides (d := d) S X R q2
      have S1 := F1.S S
      obtain ⟨h', R', F', hk⟩ := ih (i + 1) _ h1 (by omega) S1 (F1.X X) Q1
      have e : bloop t (m + 1) i b = bloop t m (i + 1) (bside t b (b.1 i)) := if_pos g
      rw [e]
      refine ⟨h', R', F1.tr F', ?_⟩
      intro Q hQ bc bs ls l2 l0 l1
      refine r_iload_n (q28 (i := 20) rfl) l2 ?_
      refine r_aload_n (q28 (i := 21) rfl) l0 ?_
      refine r_getI (x := nI b.2.2) (q28 (i := 22) rfl) rfl (by decide) (k_42 S) (fun _ _ _ => rfl) r1 ?_
      refine r_icmp 63 (q28 (i := 23) rfl) (by decide) (fun zz => absurd zz (show ¬ (nI b.2.2 ≤ nI i) from nI_ge g (by omega))) (fun _ => ?_)
      refine r_iload_n (q28 (i := 24) rfl) l2 ?_
      refine r_bipush (v := 119) (q28 (i := 25) rfl) (by decide) ?_
      refine r_icmp 63 (q28 (i := 26) rfl) (by decide) (fun zz => absurd zz (show ¬ (119 ≤ nI i) from nI_ge (b := 119) (by omega) (by decide))) (fun _ => ?_)
      refine r_aload_n (q28 (i := 27) rfl) l0 ?_
      refine r_aload_n (q28 (i := 28) rfl) l0 ?_
      refine r_getR (b := 45) (q28 (i := 29) rfl) rfl (by decide) (k_42 S) (fun _ _ _ => rfl) (r_42_3 S) ?_
      refine r_iload_n (q28 (i := 30) rfl) l2 ?_
      refine r_iaN (x := nI (b.1 i)) (q28 (i := 31) rfl) (k_45 S) (by omega) (by decide) q1 ?_
      refine r_cV (d := _) (q28 (i := 32) rfl) rfl rfl rfl (k_42 S) (Nat.le_of_ble_eq_true rfl) (Nat.zero_le _) (Nat.zero_le _) R1 ?_
      show Wp _ _ _ 57 ls [] h1 _ _
      refine r_iinc (y := nI (i + 1)) (q28 (i := 33) rfl) (Nat.le_of_ble_eq_true rfl) l2 (nI_1 i) rfl ?_
      have l0 := lk1 (k := 2) (v := .int (nI (i + 1))) l0 (by decide) (Or.inr (by decide))
      have l1 := lk1 (k := 2) (v := .int (nI (i + 1))) l1 (by decide) (Or.inl rfl)
      have l2 := lk0 ls 2 (.int (nI (i + 1)))
      generalize lset1 ls 2 (.int (nI (i + 1))) = ls at l2 l0 l1 ⊢
      refine r_goto 33 (q28 (i := 34) rfl) (by decide) ?_
      exact hk Q hQ bc bs ls l2 l0 l1
    · have e : bloop t (m + 1) i b = b := if_neg g
      rw [e]
      have r3 := R.2.2.1 a (by omega)
      refine ⟨h, R, FrO.rf h, ?_⟩
      intro Q hQ bc bs ls l2 l0 l1
      refine r_iload_n (q28 (i := 20) rfl) l2 ?_
      refine r_aload_n (q28 (i := 21) rfl) l0 ?_
      refine r_getI (x := nI b.2.2) (q28 (i := 22) rfl) rfl (by decide) (k_42 S) (fun _ _ _ => rfl) r1 ?_
      refine r_icmp 63 (q28 (i := 23) rfl) (by decide) (fun _ => ?_) (fun zz => absurd (show nI b.2.2 ≤ nI i from nI_le (by omega) (by omega)) zz)
      refine r_aload_n (q28 (i := 35) rfl) l0 ?_
      refine r_getR (b := 46) (q28 (i := 36) rfl) rfl (by decide) (k_42 S) (fun _ _ _ => rfl) (r_42_4 S) ?_
      refine r_iload_n (q28 (i := 37) rfl) l1 ?_
      refine r_zaN (x := if b.2.1 a then 1 else 0) (q28 (i := 38) rfl) (k_46 S) (by omega) (by decide) r3 ?_
      exact r_zret (q28 (i := 39) rfl) rfl (by cases b.2.1 a <;> decide) hQ
set_option maxHeartbeats 2000000 in
set_option maxRecDepth 10000 in
theorem sp_needsItself {d : Nat} {h : hp} (S : Sh h) {t : txt} (X : XT h t) {a : Nat} (ha : a < tN t) : ∃ h', Run (d + 2 + 1) 28 [.ref 42, .int (nI a)] h 0 0 (some (.int (if (bres t a).2.1 a then 1 else 0))) h' ∧ FrO h h' ∧ (bres t a).2.2 ≤ 119 := by
  have F0 : FrO h (sI (rI h 46 (filI (hI h 46) 0 119)) 42 5 0) := ⟨rfl, fun k x y z => by
    show u2 (u1 h.1 46 _) 42 _ _ k = _
    rw [u2_n x, u1_n z]⟩
  have S0' : Sh (rI h 46 (filI (hI h 46) 0 119)) := S.to rfl
  have S0 := F0.S S
  have X0 := F0.X X
  have Q0 : RQ (sI (rI h 46 (filI (hI h 46) 0 119)) 42 5 0) (tN t) b00 := ⟨rfl, fun i hi => absurd hi (Nat.not_lt_zero i), fun k hk => by
    show (if k < 119 then (0 : Int32) else _) = _
    rw [if_pos hk]; rfl, cntB_0 119, fun i hi => absurd hi (Nat.not_lt_zero i)⟩
  obtain ⟨h1, R1, Q1, F1⟩ := sp_reachSides (d := d) S0 X0 Q0 ha
  have S1 := F1.S S0
  obtain ⟨h2, R2, F2, K2⟩ := lp_nloop (d := d) ha 119 0 _ h1 rfl S1 (F1.X X0) Q1
  refine ⟨h2, ?_, (F0.tr F1).tr F2, by show (bloop t 119 0 (bside t b00 a)).2.2 ≤ 119; rw [← R2.2.2.2.1]; exact cntB_le _ _⟩
  refine Run.of (Nat.le_of_ble_eq_true rfl) (fun Q hQ => ?_)
  show Wp (Ex (d + 2)) 28 Q 0 [(0, .ref 42), (1, .int (nI a))] [] h 0 0
  have K21 : ∀ ls : List (Nat × Value), ls.lookup 0 = some (.ref 42) → ls.lookup 1 = some (.int (nI a)) → Wp (Ex (d + 2)) 28 Q 21 ls [] (rI h 46 (filI (hI h 46) 0 119)) 0 0 := by
    intro ls l0 l1
    refine r_aload_n (q28 (i := 12) rfl) l0 ?_
    refine r_iconst (v := 0) (q28 (i := 13) rfl) (by decide) ?_
    refine r_putI (q28 (i := 14) rfl) rfl (by decide) (k_42 S0') rfl rfl ?_
    refine r_aload_n (q28 (i := 15) rfl) l0 ?_
    refine r_iload_n (q28 (i := 16) rfl) l1 ?_
    refine r_cV (d := _) (q28 (i := 17) rfl) rfl rfl rfl (k_42 S0) (Nat.le_of_ble_eq_true rfl) (Nat.zero_le _) (Nat.zero_le _) R1 ?_
    show Wp _ _ _ 31 ls [] h1 _ _
    refine r_iconst (v := 0) (q28 (i := 18) rfl) (by decide) ?_
    refine r_istore_n (ls' := lset1 ls 2 (.int 0)) (q28 (i := 19) rfl) (Nat.le_of_ble_eq_true rfl) rfl ?_
    have l0 := lk1 (k := 2) (v := .int 0) l0 (by decide) (Or.inr (by decide))
    have l1 := lk1 (k := 2) (v := .int 0) l1 (by decide) (Or.inl rfl)
    have l2 := lk0 ls 2 (.int 0)
    generalize lset1 ls 2 (.int 0) = ls at l2 l0 l1 ⊢
    exact K2 Q hQ _ _ ls l2 l0 l1
  have K3 := lp_nclr S K21 119 0 rfl
  rw [filI_0, rI_self] at K3
  refine r_iconst (v := 0) (q28 (i := 0) rfl) (by decide) ?_
  refine r_istore_n (ls' := [(2, .int 0), (0, .ref 42), (1, .int (nI a))]) (q28 (i := 1) rfl) (Nat.le_of_ble_eq_true rfl) rfl ?_
  exact K3 _ rfl rfl rfl
