def FrK0 (h h' : hp) : Prop := h'.2 = h.2 ∧ (∀ k, k ≠ 47 → k ≠ 48 → k ≠ 49 → k ≠ 51 → k ≠ 54 → k ≠ 57 → k ≠ 60 → k ≠ 63 → k ≠ 1324 → k ≠ 1325 → hI h' k = hI h k) ∧ (∀ j, j ≠ 10 → j ≠ 18 → hI h' 47 j = hI h 47 j) ∧ (∀ j, j ≠ 0 → hI h' 48 j = hI h 48 j) ∧ ∀ j, j ≠ 0 → hI h' 49 j = hI h 49 j
theorem FrK0.rf (h : hp) : FrK0 h h := ⟨rfl, fun _ _ _ _ _ _ _ _ _ _ _ => rfl, fun _ _ _ => rfl, fun _ _ => rfl, fun _ _ => rfl⟩
theorem FrK0.tr {h h' h'' : hp} (a : FrK0 h h') (b : FrK0 h' h'') : FrK0 h h'' := ⟨b.1.trans a.1, fun k x1 x2 x3 x4 x5 x6 x7 x8 x9 x10 => (b.2.1 k x1 x2 x3 x4 x5 x6 x7 x8 x9 x10).trans (a.2.1 k x1 x2 x3 x4 x5 x6 x7 x8 x9 x10), fun j x y => (b.2.2.1 j x y).trans (a.2.2.1 j x y), fun j x => (b.2.2.2.1 j x).trans (a.2.2.2.1 j x), fun j x => (b.2.2.2.2 j x).trans (a.2.2.2.2 j x)⟩
def BS0 (h : hp) (t : txt) (K : Bool) (rk : Nat → Option Nat) (k : ck) : Prop := XTm h t ∧ (AL h t ∧ OL h t) ∧ hI h 47 1 = nI (tn t) ∧ THS h t K rk ∧ MA h k ∧ hI h 47 10 = 0 ∧ hI h 47 18 = 0
theorem FrK0.B {h h' : hp} (F : FrK0 h h') {t : txt} {K K' : Bool} {rk rk' : Nat → Option Nat} {k k' : ck} (b : BS0 h t K rk k) (T : THS h' t K' rk') (m : MA h' k') (e10 : hI h' 47 10 = 0) (e18 : hI h' 47 18 = 0) : BS0 h' t K' rk' k' := by
  obtain ⟨⟨⟨a1, a2, a3⟩, a4, a5, a6⟩, ⟨al, ol⟩, e1, _⟩ := b
  have hN := a6.2.2.2
  have i : ∀ k, 1075 ≤ k → k < 1324 → hI h' k = hI h k := fun k x y => F.2.1 k (by omega) (by omega) (by omega) (by omega) (by omega) (by omega) (by omega) (by omega) (by omega) (by omega)
  refine ⟨⟨⟨a1.to (by rw [F.1]), by rw [i 1075 (by decide) (by decide)]; exact a2, by rw [i 1075 (by decide) (by decide)]; exact a3⟩, fun v hv => by rw [i 1077 (by decide) (by decide), i 1078 (by decide) (by decide)]; exact a4 v hv, fun q hq j hj => by rw [i (1080 + q) (by omega) (by omega)]; exact a5 q hq j hj, a6⟩, ⟨fun q hq => ?_, fun q hq => by rw [i 1321 (by decide) (by decide)]; exact ol q hq⟩, (F.2.2.1 1 (by decide) (by decide)).trans e1, T, m, e10, e18⟩
  obtain ⟨v, b1, b2, b3, b4⟩ := al q hq
  exact ⟨v, b1, b2, by rw [i (1080 + q) (by omega) (by omega)]; exact b3, b4⟩
set_option maxHeartbeats 2000000 in
set_option maxRecDepth 10000 in
theorem bp_0 {d : Nat} {t : txt} {K : Bool} {rk : Nat → Option Nat} {cc : cir} {w : Nat → Int32} {ko i r : Nat} {h : hp} (b : BS0 h t K rk (cc, k0 K + i, w, ko)) (hi : i < tN t) (tk1 : ∀ q, q < tO t + 2 * tN t → tU t q / 2 = 0 ∨ tD t (tU t q / 2) ≠ 0) (tk2 : K = false → ∀ q, q < tO t + 2 * tN t → 2 ≤ tU t q) (inj : ∀ v w, tD t v ≠ 0 → tD t v = tD t w → v = w) (hf : frdy t rk = some r) (hrk : ∀ q j, rk q = some j → j < i) : ∃ h', BS0 h' t K (u1 rk r (some i)) (addg cc (k0 K + i) 0 (sg t K rk (sid t r 0)) (sg t K rk (sid t r 1)) 0, k0 K + i + 1, w, ko) ∧ FrK0 h h' ∧ ∀ (Q : resP) (bc bs : Nat), (∀ ls : List (Nat × Value), ls.lookup 3 = some (.int (nI (i + 1))) → ls.lookup 1 = some (.int 0) → ls.lookup 0 = some (.ref 47) → Wp (Ex (d + 2)) 129 Q 174 ls [] h' bc bs) → ∀ ls : List (Nat × Value), ls.lookup 3 = some (.int (nI i)) → ls.lookup 1 = some (.int 0) → ls.lookup 0 = some (.ref 47) → Wp (Ex (d + 2)) 129 Q 174 ls [] h bc bs := by
  have b0 := b
  obtain ⟨X, ⟨al, ol⟩, e1, T, m, e10, e18⟩ := b
  have S := X.1.1
  have hn := X.2.2.2.2.1
  have hN := X.2.2.2.2.2.2
  have k1 : k0 K ≤ 1 := by cases K <;> decide
  obtain ⟨hr, hrn, hrd⟩ := frdy_some hf
  obtain ⟨v, v0, v1, v2, v3⟩ := al r hr
  have x2 := X.2.2.1 r hr
  have side : ∀ j, j < 2 → pl (sg t K rk (sid t r j)) < nI (tn t + (k0 K + i)) ∧ hI h 1324 (sid t r j / 2) = nI (sgn t K rk (sid t r j)) := fun j hj => by
    have hb : ∀ b, AO (tD t) (tn t) (sid t r j) = some b → ∃ q, rk b = some q ∧ q < i := fun b hb => by
      have dp : dep t r b := by
        rcases (show j = 0 ∨ j = 1 by omega) with e | e
        · rw [e] at hb; exact Or.inl hb
        · rw [e] at hb; exact Or.inr hb
      have := hrd b dp
      cases q : rk b with
      | none => rw [q] at this; exact absurd this (by decide)
      | some z => exact ⟨z, rfl, hrk b z q⟩
    have hlt : tO t + 2 * r + j < tO t + 2 * tN t := by omega
    refine ⟨pl_sg (m := tn t + (k0 K + i)) ?_ (by omega), ?_⟩
    · have := sgn_lt (t := t) (K := K) (rk := rk) (lit := sid t r j) (i := i) (fun q => tk2 q _ hlt) (tk1 _ hlt) hb
      omega
    · have et : thv t K rk (sid t r j / 2) = true := by
        rw [thv_thr (lit := sid t r j) (fun q => tk2 q _ hlt) X.2.2.2.1.1 (tk1 _ hlt)]
        unfold thr
        cases q : AO (tD t) (tn t) (sid t r j) with
        | none => rfl
        | some b =>
          obtain ⟨z, y1, _⟩ := hb b q
          show (rk b).isSome = true
          rw [y1]; rfl
      have := (T (sid t r j / 2) (by have := (x2 j hj).2; omega)).2 et
      rw [sgn_half] at this
      exact this
  have y0 := (x2 0 (by decide)).2
  have y1 := (x2 1 (by decide)).2
  have Rs0 := sp_msig (d := d + 1) S y0 (side 0 (by decide)).2
  have Rs1 := sp_msig (d := d + 1) S y1 (side 1 (by decide)).2
  have Rg := sp_mg0_0 (d := d) S e1 m.2.1 (by show k0 K + i < 120; omega) (side 0 (by decide)).1 (side 1 (by decide)).1
  have S1 : Sh (chg (sI (sI (sI (sI (sI h 51 (k0 K + i) 0) 54 (k0 K + i) (sg t K rk (sid t r 0))) 57 (k0 K + i) (sg t K rk (sid t r 1))) 60 (k0 K + i) 0) 48 0 (nI ((k0 K + i) + 1)))) := S.to rfl
  have T1 : THS (chg (sI (sI (sI (sI (sI h 51 (k0 K + i) 0) 54 (k0 K + i) (sg t K rk (sid t r 0))) 57 (k0 K + i) (sg t K rk (sid t r 1))) 60 (k0 K + i) 0) 48 0 (nI ((k0 K + i) + 1)))) t K rk := T
  have F : FrK0 h (sI (sI (chg (sI (sI (sI (sI (sI h 51 (k0 K + i) 0) 54 (k0 K + i) (sg t K rk (sid t r 0))) 57 (k0 K + i) (sg t K rk (sid t r 1))) 60 (k0 K + i) 0) 48 0 (nI ((k0 K + i) + 1)))) 1324 v (nI (tn t + (k0 K + i)))) 1325 v 1) := by
    refine ⟨rfl, fun q x1 x2 x3 x4 x5 x6 x7 x8 x9 x10 => ?_, fun j a b => ?_, fun j a => ?_, fun j a => rfl⟩
    · show u2 (u2 (u2 (u2 (u2 (u2 (u2 (u2 (u2 h.1 51 _ _) 54 _ _) 57 _ _) 60 _ _) 48 _ _) 47 _ _) 47 _ _) 1324 _ _) 1325 _ _ q = _
      rw [u2_n x10, u2_n x9, u2_n x1, u2_n x1, u2_n x2, u2_n x7, u2_n x6, u2_n x5, u2_n x4]
    · show u1 (u1 (h.1 47) 10 _) 18 _ j = _
      rw [u1_n b, u1_n a]
    · show u1 (h.1 48) 0 _ j = _
      rw [u1_n a]
  refine ⟨sI (sI (chg (sI (sI (sI (sI (sI h 51 (k0 K + i) 0) 54 (k0 K + i) (sg t K rk (sid t r 0))) 57 (k0 K + i) (sg t K rk (sid t r 1))) 60 (k0 K + i) 0) 48 0 (nI ((k0 K + i) + 1)))) 1324 v (nI (tn t + (k0 K + i)))) 1325 v 1, F.B b0 (THS_s T1 inj v0 v3 hrn rfl) ⟨by have ec : cirA h = cc := m.1; rw [← ec]; rfl, rfl, m.2.2.1, m.2.2.2⟩ rfl rfl, F, fun Q bc bs kk ls l3 l1 l0 => ?_⟩
  have K2 := lp_bs (d := d + 2) (Q := Q) (bc := bc) (bs := bs) (p := nI i) (x := 0) X al T tk2 tk1 hf (fun ls l4 l3 l1 l0 => by
    refine r_aload_n (q129 (i := 153) rfl) l0 ?_
    refine r_getR (b := 1079) (q129 (i := 154) rfl) rfl (by decide) (k_47 S) (fun _ _ _ => rfl) (r_47_34 S) ?_
    refine r_iload (q129 (i := 155) rfl) l4 ?_
    refine r_aa5N (q129 (i := 156) rfl) (k_1079 S) (by omega) (by decide) (rAnd S (by omega)) ?_
    refine r_iconst (v := 0) (q129 (i := 157) rfl) (by decide) ?_
    refine r_iaload (x := nI (2 * v)) (q129 (i := 158) rfl) (kAnd S (x := r) (by omega)) (vp_in_nI (n := 0) (by decide) (by decide)) v2 ?_
    refine r_iconst (v := 2) (q129 (i := 159) rfl) (by decide) ?_
    refine r_idiv (q129 (i := 160) rfl) (by decide) ?_
    rw [show ((nI (2 * v)) / 2 : Int32) = nI v from half2 v1]
    refine r_istore (ls' := lset1 ls 5 (.int (nI v))) (q129 (i := 161) rfl) (Nat.le_of_ble_eq_true rfl) rfl ?_
    have l4 := lk1 (k := 5) (v := .int (nI v)) l4 (by decide) (Or.inl rfl)
    have l3 := lk1 (k := 5) (v := .int (nI v)) l3 (by decide) (Or.inr (by decide))
    have l1 := lk1 (k := 5) (v := .int (nI v)) l1 (by decide) (Or.inr (by decide))
    have l0 := lk1 (k := 5) (v := .int (nI v)) l0 (by decide) (Or.inr (by decide))
    have l5 := lk0 ls 5 (.int (nI v))
    generalize lset1 ls 5 (.int (nI v)) = ls at l5 l4 l3 l1 l0 ⊢
    refine r_aload_n (q129 (i := 162) rfl) l0 ?_
    refine r_getR (b := 1324) (q129 (i := 163) rfl) rfl (by decide) (k_47 S) (fun _ _ _ => rfl) (r_47_39 S) ?_
    refine r_iload (q129 (i := 164) rfl) l5 ?_
    refine r_aload_n (q129 (i := 165) rfl) l0 ?_
    refine r_iload_n (q129 (i := 166) rfl) l1 ?_
    refine r_iconst (v := 0) (q129 (i := 167) rfl) (by decide) ?_
    refine r_aload_n (q129 (i := 168) rfl) l0 ?_
    refine r_aload_n (q129 (i := 169) rfl) l0 ?_
    refine r_getR (b := 1079) (q129 (i := 170) rfl) rfl (by decide) (k_47 S) (fun _ _ _ => rfl) (r_47_34 S) ?_
    refine r_iload (q129 (i := 171) rfl) l4 ?_
    refine r_aa5N (q129 (i := 172) rfl) (k_1079 S) (by omega) (by decide) (rAnd S (by omega)) ?_
    refine r_iconst (v := 1) (q129 (i := 173) rfl) (by decide) ?_
    refine r_iaload (x := nI (sid t r 0)) (q129 (i := 174) rfl) (kAnd S (x := r) (by omega)) (vp_in_nI (n := 1) (by decide) (by decide)) ((x2 0 (by decide)).1) ?_
    refine r_cV (d := _) (q129 (i := 175) rfl) rfl rfl rfl (k_47 S) (Nat.le_of_ble_eq_true rfl) (Nat.zero_le _) (Nat.zero_le _) Rs0 ?_
    show Wp _ _ _ 285 ls [.int (sg t K rk (sid t r 0)), .int 0, .int 0, .ref 47, .int (nI v), .ref 1324] h _ _
    refine r_aload_n (q129 (i := 176) rfl) l0 ?_
    refine r_aload_n (q129 (i := 177) rfl) l0 ?_
    refine r_getR (b := 1079) (q129 (i := 178) rfl) rfl (by decide) (k_47 S) (fun _ _ _ => rfl) (r_47_34 S) ?_
    refine r_iload (q129 (i := 179) rfl) l4 ?_
    refine r_aa5N (q129 (i := 180) rfl) (k_1079 S) (by omega) (by decide) (rAnd S (by omega)) ?_
    refine r_iconst (v := 2) (q129 (i := 181) rfl) (by decide) ?_
    refine r_iaload (x := nI (sid t r 1)) (q129 (i := 182) rfl) (kAnd S (x := r) (by omega)) (vp_in_nI (n := 2) (by decide) (by decide)) ((x2 1 (by decide)).1) ?_
    refine r_cV (d := _) (q129 (i := 183) rfl) rfl rfl rfl (k_47 S) (Nat.le_of_ble_eq_true rfl) (Nat.zero_le _) (Nat.zero_le _) Rs1 ?_
    show Wp _ _ _ 298 ls [.int (sg t K rk (sid t r 1)), .int (sg t K rk (sid t r 0)), .int 0, .int 0, .ref 47, .int (nI v), .ref 1324] h _ _
    refine r_iconst (v := 0) (q129 (i := 184) rfl) (by decide) ?_
    refine r_cV (d := _) (q129 (i := 185) rfl) rfl rfl rfl (k_47 S) (Nat.le_of_ble_eq_true rfl) (Nat.zero_le _) (Nat.zero_le _) Rg ?_
    show Wp _ _ _ 302 ls [.int (nI (tn t + (k0 K + i))), .int (nI v), .ref 1324] (chg (sI (sI (sI (sI (sI h 51 (k0 K + i) 0) 54 (k0 K + i) (sg t K rk (sid t r 0))) 57 (k0 K + i) (sg t K rk (sid t r 1))) 60 (k0 K + i) 0) 48 0 (nI ((k0 K + i) + 1)))) _ _
    refine r_iasN (q129 (i := 186) rfl) (k_1324 S1) (by omega) (by decide) ?_
    refine r_aload_n (q129 (i := 187) rfl) l0 ?_
    refine r_getR (b := 1325) (q129 (i := 188) rfl) rfl (by decide) (k_47 S1) (fun _ _ _ => rfl) (r_47_40 S1) ?_
    refine r_iload (q129 (i := 189) rfl) l5 ?_
    refine r_iconst (v := 1) (q129 (i := 190) rfl) (by decide) ?_
    refine r_zasN (y := 1) (q129 (i := 191) rfl) (k_1325 S1) (by omega) (by decide) nb1 ?_
    refine r_iinc (y := nI (i + 1)) (q129 (i := 192) rfl) (Nat.le_of_ble_eq_true rfl) l3 (nI_1 i) rfl ?_
    have l5 := lk1 (k := 3) (v := .int (nI (i + 1))) l5 (by decide) (Or.inr (by decide))
    have l4 := lk1 (k := 3) (v := .int (nI (i + 1))) l4 (by decide) (Or.inr (by decide))
    have l1 := lk1 (k := 3) (v := .int (nI (i + 1))) l1 (by decide) (Or.inr (by decide))
    have l0 := lk1 (k := 3) (v := .int (nI (i + 1))) l0 (by decide) (Or.inr (by decide))
    have l3 := lk0 ls 3 (.int (nI (i + 1)))
    generalize lset1 ls 3 (.int (nI (i + 1))) = ls at l3 l5 l4 l1 l0 ⊢
    refine r_goto 174 (q129 (i := 193) rfl) (by decide) ?_
    exact kk ls l3 l1 l0) r 0 (Nat.zero_add _)
  refine r_iload_n (q129 (i := 107) rfl) l3 ?_
  refine r_aload_n (q129 (i := 108) rfl) l0 ?_
  refine r_getR (b := 1075) (q129 (i := 109) rfl) rfl (by decide) (k_47 S) (fun _ _ _ => rfl) (r_47_30 S) ?_
  refine r_iconst (v := 4) (q129 (i := 110) rfl) (by decide) ?_
  refine r_iaload (x := nI (tN t)) (q129 (i := 111) rfl) (k_1075 S) (vp_in_nI (n := 4) (by decide) (by decide)) X.1.2.2 ?_
  refine r_icmp 317 (q129 (i := 112) rfl) (by decide) (fun zz => absurd zz (show ¬ (nI (tN t) ≤ nI i) from nI_ge hi (by omega))) (fun _ => ?_)
  refine r_iconst (v := nI 0) (q129 (i := 113) rfl) (by decide) ?_
  refine r_istore (ls' := lset1 ls 4 (.int (nI 0))) (q129 (i := 114) rfl) (Nat.le_of_ble_eq_true rfl) rfl ?_
  have l3 := lk1 (k := 4) (v := .int (nI 0)) l3 (by decide) (Or.inl rfl)
  have l1 := lk1 (k := 4) (v := .int (nI 0)) l1 (by decide) (Or.inr (by decide))
  have l0 := lk1 (k := 4) (v := .int (nI 0)) l0 (by decide) (Or.inr (by decide))
  have l4 := lk0 ls 4 (.int (nI 0))
  generalize lset1 ls 4 (.int (nI 0)) = ls at l4 l3 l1 l0 ⊢
  exact K2 ls l4 l3 l1 l0
def FrK1 (h h' : hp) : Prop := h'.2 = h.2 ∧ (∀ k, k ≠ 47 → k ≠ 48 → k ≠ 49 → k ≠ 52 → k ≠ 55 → k ≠ 58 → k ≠ 61 → k ≠ 64 → k ≠ 1324 → k ≠ 1325 → hI h' k = hI h k) ∧ (∀ j, j ≠ 10 → j ≠ 18 → hI h' 47 j = hI h 47 j) ∧ (∀ j, j ≠ 1 → hI h' 48 j = hI h 48 j) ∧ ∀ j, j ≠ 1 → hI h' 49 j = hI h 49 j
theorem FrK1.rf (h : hp) : FrK1 h h := ⟨rfl, fun _ _ _ _ _ _ _ _ _ _ _ => rfl, fun _ _ _ => rfl, fun _ _ => rfl, fun _ _ => rfl⟩
theorem FrK1.tr {h h' h'' : hp} (a : FrK1 h h') (b : FrK1 h' h'') : FrK1 h h'' := ⟨b.1.trans a.1, fun k x1 x2 x3 x4 x5 x6 x7 x8 x9 x10 => (b.2.1 k x1 x2 x3 x4 x5 x6 x7 x8 x9 x10).trans (a.2.1 k x1 x2 x3 x4 x5 x6 x7 x8 x9 x10), fun j x y => (b.2.2.1 j x y).trans (a.2.2.1 j x y), fun j x => (b.2.2.2.1 j x).trans (a.2.2.2.1 j x), fun j x => (b.2.2.2.2 j x).trans (a.2.2.2.2 j x)⟩
def BS1 (h : hp) (t : txt) (K : Bool) (rk : Nat → Option Nat) (k : ck) : Prop := XTm h t ∧ (AL h t ∧ OL h t) ∧ hI h 47 1 = nI (tn t) ∧ THS h t K rk ∧ MB h k ∧ hI h 47 10 = 0 ∧ hI h 47 18 = 0
theorem FrK1.B {h h' : hp} (F : FrK1 h h') {t : txt} {K K' : Bool} {rk rk' : Nat → Option Nat} {k k' : ck} (b : BS1 h t K rk k) (T : THS h' t K' rk') (m : MB h' k') (e10 : hI h' 47 10 = 0) (e18 : hI h' 47 18 = 0) : BS1 h' t K' rk' k' := by
  obtain ⟨⟨⟨a1, a2, a3⟩, a4, a5, a6⟩, ⟨al, ol⟩, e1, _⟩ := b
  have hN := a6.2.2.2
  have i : ∀ k, 1075 ≤ k → k < 1324 → hI h' k = hI h k := fun k x y => F.2.1 k (by omega) (by omega) (by omega) (by omega) (by omega) (by omega) (by omega) (by omega) (by omega) (by omega)
  refine ⟨⟨⟨a1.to (by rw [F.1]), by rw [i 1075 (by decide) (by decide)]; exact a2, by rw [i 1075 (by decide) (by decide)]; exact a3⟩, fun v hv => by rw [i 1077 (by decide) (by decide), i 1078 (by decide) (by decide)]; exact a4 v hv, fun q hq j hj => by rw [i (1080 + q) (by omega) (by omega)]; exact a5 q hq j hj, a6⟩, ⟨fun q hq => ?_, fun q hq => by rw [i 1321 (by decide) (by decide)]; exact ol q hq⟩, (F.2.2.1 1 (by decide) (by decide)).trans e1, T, m, e10, e18⟩
  obtain ⟨v, b1, b2, b3, b4⟩ := al q hq
  exact ⟨v, b1, b2, by rw [i (1080 + q) (by omega) (by omega)]; exact b3, b4⟩
set_option maxHeartbeats 2000000 in
set_option maxRecDepth 10000 in
theorem bp_1 {d : Nat} {t : txt} {K : Bool} {rk : Nat → Option Nat} {cc : cir} {w : Nat → Int32} {ko i r : Nat} {h : hp} (b : BS1 h t K rk (cc, k0 K + i, w, ko)) (hi : i < tN t) (tk1 : ∀ q, q < tO t + 2 * tN t → tU t q / 2 = 0 ∨ tD t (tU t q / 2) ≠ 0) (tk2 : K = false → ∀ q, q < tO t + 2 * tN t → 2 ≤ tU t q) (inj : ∀ v w, tD t v ≠ 0 → tD t v = tD t w → v = w) (hf : frdy t rk = some r) (hrk : ∀ q j, rk q = some j → j < i) : ∃ h', BS1 h' t K (u1 rk r (some i)) (addg cc (k0 K + i) 0 (sg t K rk (sid t r 0)) (sg t K rk (sid t r 1)) 0, k0 K + i + 1, w, ko) ∧ FrK1 h h' ∧ ∀ (Q : resP) (bc bs : Nat), (∀ ls : List (Nat × Value), ls.lookup 3 = some (.int (nI (i + 1))) → ls.lookup 1 = some (.int 1) → ls.lookup 0 = some (.ref 47) → Wp (Ex (d + 2)) 129 Q 174 ls [] h' bc bs) → ∀ ls : List (Nat × Value), ls.lookup 3 = some (.int (nI i)) → ls.lookup 1 = some (.int 1) → ls.lookup 0 = some (.ref 47) → Wp (Ex (d + 2)) 129 Q 174 ls [] h bc bs := by
  have b0 := b
  obtain ⟨X, ⟨al, ol⟩, e1, T, m, e10, e18⟩ := b
  have S := X.1.1
  have hn := X.2.2.2.2.1
  have hN := X.2.2.2.2.2.2
  have k1 : k0 K ≤ 1 := by cases K <;> decide
  obtain ⟨hr, hrn, hrd⟩ := frdy_some hf
  obtain ⟨v, v0, v1, v2, v3⟩ := al r hr
  have x2 := X.2.2.1 r hr
  have side : ∀ j, j < 2 → pl (sg t K rk (sid t r j)) < nI (tn t + (k0 K + i)) ∧ hI h 1324 (sid t r j / 2) = nI (sgn t K rk (sid t r j)) := fun j hj => by
    have hb : ∀ b, AO (tD t) (tn t) (sid t r j) = some b → ∃ q, rk b = some q ∧ q < i := fun b hb => by
      have dp : dep t r b := by
        rcases (show j = 0 ∨ j = 1 by omega) with e | e
        · rw [e] at hb; exact Or.inl hb
        · rw [e] at hb; exact Or.inr hb
      have := hrd b dp
      cases q : rk b with
      | none => rw [q] at this; exact absurd this (by decide)
      | some z => exact ⟨z, rfl, hrk b z q⟩
    have hlt : tO t + 2 * r + j < tO t + 2 * tN t := by omega
    refine ⟨pl_sg (m := tn t + (k0 K + i)) ?_ (by omega), ?_⟩
    · have := sgn_lt (t := t) (K := K) (rk := rk) (lit := sid t r j) (i := i) (fun q => tk2 q _ hlt) (tk1 _ hlt) hb
      omega
    · have et : thv t K rk (sid t r j / 2) = true := by
        rw [thv_thr (lit := sid t r j) (fun q => tk2 q _ hlt) X.2.2.2.1.1 (tk1 _ hlt)]
        unfold thr
        cases q : AO (tD t) (tn t) (sid t r j) with
        | none => rfl
        | some b =>
          obtain ⟨z, y1, _⟩ := hb b q
          show (rk b).isSome = true
          rw [y1]; rfl
      have := (T (sid t r j / 2) (by have := (x2 j hj).2; omega)).2 et
      rw [sgn_half] at this
      exact this
  have y0 := (x2 0 (by decide)).2
  have y1 := (x2 1 (by decide)).2
  have Rs0 := sp_msig (d := d + 1) S y0 (side 0 (by decide)).2
  have Rs1 := sp_msig (d := d + 1) S y1 (side 1 (by decide)).2
  have Rg := sp_mg1_0 (d := d) S e1 m.2.1 (by show k0 K + i < 120; omega) (side 0 (by decide)).1 (side 1 (by decide)).1
  have S1 : Sh (chg (sI (sI (sI (sI (sI h 52 (k0 K + i) 0) 55 (k0 K + i) (sg t K rk (sid t r 0))) 58 (k0 K + i) (sg t K rk (sid t r 1))) 61 (k0 K + i) 0) 48 1 (nI ((k0 K + i) + 1)))) := S.to rfl
  have T1 : THS (chg (sI (sI (sI (sI (sI h 52 (k0 K + i) 0) 55 (k0 K + i) (sg t K rk (sid t r 0))) 58 (k0 K + i) (sg t K rk (sid t r 1))) 61 (k0 K + i) 0) 48 1 (nI ((k0 K + i) + 1)))) t K rk := T
  have F : FrK1 h (sI (sI (chg (sI (sI (sI (sI (sI h 52 (k0 K + i) 0) 55 (k0 K + i) (sg t K rk (sid t r 0))) 58 (k0 K + i) (sg t K rk (sid t r 1))) 61 (k0 K + i) 0) 48 1 (nI ((k0 K + i) + 1)))) 1324 v (nI (tn t + (k0 K + i)))) 1325 v 1) := by
    refine ⟨rfl, fun q x1 x2 x3 x4 x5 x6 x7 x8 x9 x10 => ?_, fun j a b => ?_, fun j a => ?_, fun j a => rfl⟩
    · show u2 (u2 (u2 (u2 (u2 (u2 (u2 (u2 (u2 h.1 52 _ _) 55 _ _) 58 _ _) 61 _ _) 48 _ _) 47 _ _) 47 _ _) 1324 _ _) 1325 _ _ q = _
      rw [u2_n x10, u2_n x9, u2_n x1, u2_n x1, u2_n x2, u2_n x7, u2_n x6, u2_n x5, u2_n x4]
    · show u1 (u1 (h.1 47) 10 _) 18 _ j = _
      rw [u1_n b, u1_n a]
    · show u1 (h.1 48) 1 _ j = _
      rw [u1_n a]
  refine ⟨sI (sI (chg (sI (sI (sI (sI (sI h 52 (k0 K + i) 0) 55 (k0 K + i) (sg t K rk (sid t r 0))) 58 (k0 K + i) (sg t K rk (sid t r 1))) 61 (k0 K + i) 0) 48 1 (nI ((k0 K + i) + 1)))) 1324 v (nI (tn t + (k0 K + i)))) 1325 v 1, F.B b0 (THS_s T1 inj v0 v3 hrn rfl) ⟨by have ec : cirB h = cc := m.1; rw [← ec]; rfl, rfl, m.2.2.1, m.2.2.2⟩ rfl rfl, F, fun Q bc bs kk ls l3 l1 l0 => ?_⟩
  have K2 := lp_bs (d := d + 2) (Q := Q) (bc := bc) (bs := bs) (p := nI i) (x := 1) X al T tk2 tk1 hf (fun ls l4 l3 l1 l0 => by
    refine r_aload_n (q129 (i := 153) rfl) l0 ?_
    refine r_getR (b := 1079) (q129 (i := 154) rfl) rfl (by decide) (k_47 S) (fun _ _ _ => rfl) (r_47_34 S) ?_
    refine r_iload (q129 (i := 155) rfl) l4 ?_
    refine r_aa5N (q129 (i := 156) rfl) (k_1079 S) (by omega) (by decide) (rAnd S (by omega)) ?_
    refine r_iconst (v := 0) (q129 (i := 157) rfl) (by decide) ?_
    refine r_iaload (x := nI (2 * v)) (q129 (i := 158) rfl) (kAnd S (x := r) (by omega)) (vp_in_nI (n := 0) (by decide) (by decide)) v2 ?_
    refine r_iconst (v := 2) (q129 (i := 159) rfl) (by decide) ?_
    refine r_idiv (q129 (i := 160) rfl) (by decide) ?_
    rw [show ((nI (2 * v)) / 2 : Int32) = nI v from half2 v1]
    refine r_istore (ls' := lset1 ls 5 (.int (nI v))) (q129 (i := 161) rfl) (Nat.le_of_ble_eq_true rfl) rfl ?_
    have l4 := lk1 (k := 5) (v := .int (nI v)) l4 (by decide) (Or.inl rfl)
    have l3 := lk1 (k := 5) (v := .int (nI v)) l3 (by decide) (Or.inr (by decide))
    have l1 := lk1 (k := 5) (v := .int (nI v)) l1 (by decide) (Or.inr (by decide))
    have l0 := lk1 (k := 5) (v := .int (nI v)) l0 (by decide) (Or.inr (by decide))
    have l5 := lk0 ls 5 (.int (nI v))
    generalize lset1 ls 5 (.int (nI v)) = ls at l5 l4 l3 l1 l0 ⊢
    refine r_aload_n (q129 (i := 162) rfl) l0 ?_
    refine r_getR (b := 1324) (q129 (i := 163) rfl) rfl (by decide) (k_47 S) (fun _ _ _ => rfl) (r_47_39 S) ?_
    refine r_iload (q129 (i := 164) rfl) l5 ?_
    refine r_aload_n (q129 (i := 165) rfl) l0 ?_
    refine r_iload_n (q129 (i := 166) rfl) l1 ?_
    refine r_iconst (v := 0) (q129 (i := 167) rfl) (by decide) ?_
    refine r_aload_n (q129 (i := 168) rfl) l0 ?_
    refine r_aload_n (q129 (i := 169) rfl) l0 ?_
    refine r_getR (b := 1079) (q129 (i := 170) rfl) rfl (by decide) (k_47 S) (fun _ _ _ => rfl) (r_47_34 S) ?_
    refine r_iload (q129 (i := 171) rfl) l4 ?_
    refine r_aa5N (q129 (i := 172) rfl) (k_1079 S) (by omega) (by decide) (rAnd S (by omega)) ?_
    refine r_iconst (v := 1) (q129 (i := 173) rfl) (by decide) ?_
    refine r_iaload (x := nI (sid t r 0)) (q129 (i := 174) rfl) (kAnd S (x := r) (by omega)) (vp_in_nI (n := 1) (by decide) (by decide)) ((x2 0 (by decide)).1) ?_
    refine r_cV (d := _) (q129 (i := 175) rfl) rfl rfl rfl (k_47 S) (Nat.le_of_ble_eq_true rfl) (Nat.zero_le _) (Nat.zero_le _) Rs0 ?_
    show Wp _ _ _ 285 ls [.int (sg t K rk (sid t r 0)), .int 0, .int 1, .ref 47, .int (nI v), .ref 1324] h _ _
    refine r_aload_n (q129 (i := 176) rfl) l0 ?_
    refine r_aload_n (q129 (i := 177) rfl) l0 ?_
    refine r_getR (b := 1079) (q129 (i := 178) rfl) rfl (by decide) (k_47 S) (fun _ _ _ => rfl) (r_47_34 S) ?_
    refine r_iload (q129 (i := 179) rfl) l4 ?_
    refine r_aa5N (q129 (i := 180) rfl) (k_1079 S) (by omega) (by decide) (rAnd S (by omega)) ?_
    refine r_iconst (v := 2) (q129 (i := 181) rfl) (by decide) ?_
    refine r_iaload (x := nI (sid t r 1)) (q129 (i := 182) rfl) (kAnd S (x := r) (by omega)) (vp_in_nI (n := 2) (by decide) (by decide)) ((x2 1 (by decide)).1) ?_
    refine r_cV (d := _) (q129 (i := 183) rfl) rfl rfl rfl (k_47 S) (Nat.le_of_ble_eq_true rfl) (Nat.zero_le _) (Nat.zero_le _) Rs1 ?_
    show Wp _ _ _ 298 ls [.int (sg t K rk (sid t r 1)), .int (sg t K rk (sid t r 0)), .int 0, .int 1, .ref 47, .int (nI v), .ref 1324] h _ _
    refine r_iconst (v := 0) (q129 (i := 184) rfl) (by decide) ?_
    refine r_cV (d := _) (q129 (i := 185) rfl) rfl rfl rfl (k_47 S) (Nat.le_of_ble_eq_true rfl) (Nat.zero_le _) (Nat.zero_le _) Rg ?_
    show Wp _ _ _ 302 ls [.int (nI (tn t + (k0 K + i))), .int (nI v), .ref 1324] (chg (sI (sI (sI (sI (sI h 52 (k0 K + i) 0) 55 (k0 K + i) (sg t K rk (sid t r 0))) 58 (k0 K + i) (sg t K rk (sid t r 1))) 61 (k0 K + i) 0) 48 1 (nI ((k0 K + i) + 1)))) _ _
    refine r_iasN (q129 (i := 186) rfl) (k_1324 S1) (by omega) (by decide) ?_
    refine r_aload_n (q129 (i := 187) rfl) l0 ?_
    refine r_getR (b := 1325) (q129 (i := 188) rfl) rfl (by decide) (k_47 S1) (fun _ _ _ => rfl) (r_47_40 S1) ?_
    refine r_iload (q129 (i := 189) rfl) l5 ?_
    refine r_iconst (v := 1) (q129 (i := 190) rfl) (by decide) ?_
    refine r_zasN (y := 1) (q129 (i := 191) rfl) (k_1325 S1) (by omega) (by decide) nb1 ?_
    refine r_iinc (y := nI (i + 1)) (q129 (i := 192) rfl) (Nat.le_of_ble_eq_true rfl) l3 (nI_1 i) rfl ?_
    have l5 := lk1 (k := 3) (v := .int (nI (i + 1))) l5 (by decide) (Or.inr (by decide))
    have l4 := lk1 (k := 3) (v := .int (nI (i + 1))) l4 (by decide) (Or.inr (by decide))
    have l1 := lk1 (k := 3) (v := .int (nI (i + 1))) l1 (by decide) (Or.inr (by decide))
    have l0 := lk1 (k := 3) (v := .int (nI (i + 1))) l0 (by decide) (Or.inr (by decide))
    have l3 := lk0 ls 3 (.int (nI (i + 1)))
    generalize lset1 ls 3 (.int (nI (i + 1))) = ls at l3 l5 l4 l1 l0 ⊢
    refine r_goto 174 (q129 (i := 193) rfl) (by decide) ?_
    exact kk ls l3 l1 l0) r 0 (Nat.zero_add _)
  refine r_iload_n (q129 (i := 107) rfl) l3 ?_
  refine r_aload_n (q129 (i := 108) rfl) l0 ?_
  refine r_getR (b := 1075) (q129 (i := 109) rfl) rfl (by decide) (k_47 S) (fun _ _ _ => rfl) (r_47_30 S) ?_
  refine r_iconst (v := 4) (q129 (i := 110) rfl) (by decide) ?_
  refine r_iaload (x := nI (tN t)) (q129 (i := 111) rfl) (k_1075 S) (vp_in_nI (n := 4) (by decide) (by decide)) X.1.2.2 ?_
  refine r_icmp 317 (q129 (i := 112) rfl) (by decide) (fun zz => absurd zz (show ¬ (nI (tN t) ≤ nI i) from nI_ge hi (by omega))) (fun _ => ?_)
  refine r_iconst (v := nI 0) (q129 (i := 113) rfl) (by decide) ?_
  refine r_istore (ls' := lset1 ls 4 (.int (nI 0))) (q129 (i := 114) rfl) (Nat.le_of_ble_eq_true rfl) rfl ?_
  have l3 := lk1 (k := 4) (v := .int (nI 0)) l3 (by decide) (Or.inl rfl)
  have l1 := lk1 (k := 4) (v := .int (nI 0)) l1 (by decide) (Or.inr (by decide))
  have l0 := lk1 (k := 4) (v := .int (nI 0)) l0 (by decide) (Or.inr (by decide))
  have l4 := lk0 ls 4 (.int (nI 0))
  generalize lset1 ls 4 (.int (nI 0)) = ls at l4 l3 l1 l0 ⊢
  exact K2 ls l4 l3 l1 l0
