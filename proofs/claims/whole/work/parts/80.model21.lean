set_option maxHeartbeats 2000000 in
set_option maxRecDepth 10000 in
theorem lp_bp_0 {d : Nat} {t : txt} {K : Bool} {w : Nat → Int32} {ko : Nat} (tk1 : ∀ q, q < tO t + 2 * tN t → tU t q / 2 = 0 ∨ tD t (tU t q / 2) ≠ 0) (tk2 : K = false → ∀ q, q < tO t + 2 * tN t → 2 ≤ tU t q) (inj : ∀ v w, tD t v ≠ 0 → tD t v = tD t w → v = w) : ∀ (m i : Nat) (o : ost) (cc : cir) (h : hp), i + m = tN t → ainv t i o → BS0 h t K o.2 (cc, k0 K + i, w, ko) → (arr t m i o).1 = true → ∃ h', BS0 h' t K (arr t m i o).2.2 (flA t K (arr t m i o).2 m i cc, k0 K + tN t, w, ko) ∧ FrK0 h h' ∧ ∀ (Q : resP) (bc bs : Nat), (∀ ls : List (Nat × Value), ls.lookup 1 = some (.int 0) → ls.lookup 0 = some (.ref 47) → Wp (Ex (d + 2)) 129 Q 317 ls [] h' bc bs) → ∀ ls : List (Nat × Value), ls.lookup 3 = some (.int (nI i)) → ls.lookup 1 = some (.int 0) → ls.lookup 0 = some (.ref 47) → Wp (Ex (d + 2)) 129 Q 174 ls [] h bc bs := by
  intro m
  induction m with
  | zero =>
    intro i o cc h hm I b _
    have e : i = tN t := by omega
    have X := b.1
    have S := X.1.1
    have hN := X.2.2.2.2.2.2
    refine ⟨h, by rw [← e]; exact b, FrK0.rf h, fun Q bc bs kk ls l3 l1 l0 => ?_⟩
    refine r_iload_n (q129 (i := 107) rfl) l3 ?_
    refine r_aload_n (q129 (i := 108) rfl) l0 ?_
    refine r_getR (b := 1075) (q129 (i := 109) rfl) rfl (by decide) (k_47 S) (fun _ _ _ => rfl) (r_47_30 S) ?_
    refine r_iconst (v := 4) (q129 (i := 110) rfl) (by decide) ?_
    refine r_iaload (x := nI (tN t)) (q129 (i := 111) rfl) (k_1075 S) (vp_in_nI (n := 4) (by decide) (by decide)) X.1.2.2 ?_
    refine r_icmp 317 (q129 (i := 112) rfl) (by decide) (fun _ => ?_) (fun zz => absurd (show nI (tN t) ≤ nI i from nI_le (by omega) (by omega)) zz)
    exact kk ls l1 l0
  | succ m ih =>
    intro i o cc h hm I b ht
    cases q : frdy t o.2 with
    | none =>
      have e : arr t (m + 1) i o = (false, o) := by
        show (match frdy t o.2 with | some k => arr t m (i + 1) (u1 o.1 i k, u1 o.2 k (some i)) | none => (false, o)) = _
        rw [q]
      rw [e] at ht
      exact absurd (show (false : Bool) = true from ht) (by decide)
    | some r =>
      have e : arr t (m + 1) i o = arr t m (i + 1) (u1 o.1 i r, u1 o.2 r (some i)) := by
        show (match frdy t o.2 with | some k => arr t m (i + 1) (u1 o.1 i k, u1 o.2 k (some i)) | none => (false, o)) = _
        rw [q]
      rw [e] at ht ⊢
      have I' := ainv_s I q
      obtain ⟨x1, x2⟩ := arr_ext m (i + 1) _ I'
      obtain ⟨hr, hrn, hrd⟩ := frdy_some q
      obtain ⟨h1, b1, F1, K1⟩ := bp_0 (d := d) b (by omega) tk1 tk2 inj q (fun a j y => (I.1 a j y).1)
      have eo : (arr t m (i + 1) (u1 o.1 i r, u1 o.2 r (some i))).2.1 i = r := by
        rw [x2 i (by omega)]
        exact u1_s
      have es : ∀ j, j < 2 → sg t K o.2 (sid t r j) = sg t K (arr t m (i + 1) (u1 o.1 i r, u1 o.2 r (some i))).2.2 (sid t r j) := fun j hj => sg_cg (fun b hb => by
        have dp : dep t r b := by
          rcases (show j = 0 ∨ j = 1 by omega) with y | y
          · rw [y] at hb; exact Or.inl hb
          · rw [y] at hb; exact Or.inr hb
        have := hrd b dp
        cases w : o.2 b with
        | none => rw [w] at this; exact absurd this (by decide)
        | some z =>
          refine (x1 b z ?_).symm
          show u1 o.2 r (some i) b = some z
          rw [u1_n (fun y => by rw [y, hrn] at w; cases w)]
          exact w)
      rw [es 0 (by decide), es 1 (by decide)] at b1
      obtain ⟨h2, b2, F2, K2⟩ := ih (i + 1) _ _ h1 (by omega) I' b1 ht
      refine ⟨h2, ?_, F1.tr F2, fun Q bc bs kk ls l3 l1 l0 => K1 Q bc bs (K2 Q bc bs kk) ls l3 l1 l0⟩
      have ef : flA t K (arr t m (i + 1) (u1 o.1 i r, u1 o.2 r (some i))).2 (m + 1) i cc = flA t K (arr t m (i + 1) (u1 o.1 i r, u1 o.2 r (some i))).2 m (i + 1) (addg cc (k0 K + i) 0 (sg t K (arr t m (i + 1) (u1 o.1 i r, u1 o.2 r (some i))).2.2 (sid t r 0)) (sg t K (arr t m (i + 1) (u1 o.1 i r, u1 o.2 r (some i))).2.2 (sid t r 1)) 0) := by
        show flA t K _ m (i + 1) (addg cc (k0 K + i) 0 (sg t K _ (sid t ((arr t m (i + 1) (u1 o.1 i r, u1 o.2 r (some i))).2.1 i) 0)) (sg t K _ (sid t ((arr t m (i + 1) (u1 o.1 i r, u1 o.2 r (some i))).2.1 i) 1)) 0) = _
        rw [eo]
      rw [ef]
      exact b2
set_option maxHeartbeats 2000000 in
set_option maxRecDepth 10000 in
theorem lp_bo_0 {d : Nat} {t : txt} {K : Bool} {o : ost} {cc : cir} (tk1 : ∀ q, q < tO t + 2 * tN t → tU t q / 2 = 0 ∨ tD t (tU t q / 2) ≠ 0) (tk2 : K = false → ∀ q, q < tO t + 2 * tN t → 2 ≤ tU t q) (all : ∀ b, b < tN t → ∃ j, o.2 b = some j ∧ j < tN t) : ∀ (m j : Nat) (w : Nat → Int32) (h : hp), j + m = tO t → BS0 h t K o.2 (cc, k0 K + tN t, w, j) → ∃ h', BS0 h' t K o.2 (cc, k0 K + tN t, flO t K o m j w, tO t) ∧ FrK0 h h' ∧ ∀ (Q : resP) (bc bs : Nat), Q none h' → ∀ ls : List (Nat × Value), ls.lookup 4 = some (.int (nI j)) → ls.lookup 1 = some (.int 0) → ls.lookup 0 = some (.ref 47) → Wp (Ex (d + 2)) 129 Q 320 ls [] h bc bs := by
  intro m
  induction m with
  | zero =>
    intro j w h hm b
    have e : j = tO t := by omega
    have X := b.1
    have S := X.1.1
    have hO := X.2.2.2.2.2.1
    refine ⟨h, by rw [← e]; exact b, FrK0.rf h, fun Q bc bs hQ ls l4 l1 l0 => ?_⟩
    refine r_iload (q129 (i := 196) rfl) l4 ?_
    refine r_aload_n (q129 (i := 197) rfl) l0 ?_
    refine r_getR (b := 1075) (q129 (i := 198) rfl) rfl (by decide) (k_47 S) (fun _ _ _ => rfl) (r_47_30 S) ?_
    refine r_iconst (v := 3) (q129 (i := 199) rfl) (by decide) ?_
    refine r_iaload (x := nI (tO t)) (q129 (i := 200) rfl) (k_1075 S) (vp_in_nI (n := 3) (by decide) (by decide)) X.1.2.1 ?_
    refine r_icmp 354 (q129 (i := 201) rfl) (by decide) (fun _ => ?_) (fun zz => absurd (show nI (tO t) ≤ nI j from nI_le (by omega) (by omega)) zz)
    exact r_vret (q129 (i := 214) rfl) rfl hQ
  | succ m ih =>
    intro j w h hm b
    have b0 := b
    obtain ⟨X, ⟨al, ol⟩, e1, T, mm, e10, e18⟩ := b
    have S := X.1.1
    have hn := X.2.2.2.2.1
    have hO := X.2.2.2.2.2.1
    have hN := X.2.2.2.2.2.2
    have hD := X.2.2.2.1.2
    have k1 : k0 K ≤ 1 := by cases K <;> decide
    obtain ⟨o1, o2⟩ := ol j (by omega)
    have hlt : j < tO t + 2 * tN t := by omega
    have hb : ∀ b, AO (tD t) (tn t) (tU t j) = some b → ∃ q, o.2 b = some q ∧ q < tN t := fun b hb => all b (AO_lt2 hD hb)
    have hp : pl (sg t K o.2 (tU t j)) < nI (tn t + (k0 K + tN t)) := by
      refine pl_sg (m := tn t + (k0 K + tN t)) ?_ (by omega)
      have := sgn_lt (t := t) (K := K) (rk := o.2) (lit := tU t j) (i := tN t) (fun q => tk2 q _ hlt) (tk1 _ hlt) hb
      omega
    have es : hI h 1324 (tU t j / 2) = nI (sgn t K o.2 (tU t j)) := by
      have et : thv t K o.2 (tU t j / 2) = true := by
        rw [thv_thr (lit := tU t j) (fun q => tk2 q _ hlt) X.2.2.2.1.1 (tk1 _ hlt)]
        unfold thr
        cases q : AO (tD t) (tn t) (tU t j) with
        | none => rfl
        | some b =>
          obtain ⟨z, y1, _⟩ := hb b q
          show (o.2 b).isSome = true
          rw [y1]; rfl
      have := (T (tU t j / 2) (by omega)).2 et
      rw [sgn_half] at this
      exact this
    have Rs := sp_msig (d := d + 1) S o2 es
    have Ro := sp_mo0 (d := d) S e1 mm.2.1 mm.2.2.2 (by show j < 10; omega) hp
    have F : FrK0 h (chg (sI (sI h 63 j (sg t K o.2 (tU t j))) 49 0 (nI (j + 1)))) := by
      refine ⟨rfl, fun q x1 x2 x3 x4 x5 x6 x7 x8 x9 x10 => ?_, fun j a b => ?_, fun j a => rfl, fun j a => ?_⟩
      · show u2 (u2 (u2 (u2 h.1 63 _ _) 49 _ _) 47 _ _) 47 _ _ q = _
        rw [u2_n x1, u2_n x1, u2_n x3, u2_n x8]
      · show u1 (u1 (h.1 47) 10 _) 18 _ j = _
        rw [u1_n b, u1_n a]
      · show u1 (h.1 49) 0 _ j = _
        rw [u1_n a]
    have b1 : BS0 (chg (sI (sI h 63 j (sg t K o.2 (tU t j))) 49 0 (nI (j + 1)))) t K o.2 (cc, k0 K + tN t, u1 w j (sg t K o.2 (tU t j)), j + 1) := F.B b0 T ⟨mm.1, mm.2.1, by have ew : hI h 63 = w := mm.2.2.1; rw [← ew]; rfl, rfl⟩ rfl rfl
    obtain ⟨h2, b2, F2, K2⟩ := ih (j + 1) _ _ (by omega) b1
    refine ⟨h2, b2, F.tr F2, fun Q bc bs hQ ls l4 l1 l0 => ?_⟩
    refine r_iload (q129 (i := 196) rfl) l4 ?_
    refine r_aload_n (q129 (i := 197) rfl) l0 ?_
    refine r_getR (b := 1075) (q129 (i := 198) rfl) rfl (by decide) (k_47 S) (fun _ _ _ => rfl) (r_47_30 S) ?_
    refine r_iconst (v := 3) (q129 (i := 199) rfl) (by decide) ?_
    refine r_iaload (x := nI (tO t)) (q129 (i := 200) rfl) (k_1075 S) (vp_in_nI (n := 3) (by decide) (by decide)) X.1.2.1 ?_
    refine r_icmp 354 (q129 (i := 201) rfl) (by decide) (fun zz => absurd zz (show ¬ (nI (tO t) ≤ nI j) from nI_ge (by omega) (by omega))) (fun _ => ?_)
    refine r_aload_n (q129 (i := 202) rfl) l0 ?_
    refine r_iload_n (q129 (i := 203) rfl) l1 ?_
    refine r_aload_n (q129 (i := 204) rfl) l0 ?_
    refine r_aload_n (q129 (i := 205) rfl) l0 ?_
    refine r_getR (b := 1321) (q129 (i := 206) rfl) rfl (by decide) (k_47 S) (fun _ _ _ => rfl) (r_47_36 S) ?_
    refine r_iload (q129 (i := 207) rfl) l4 ?_
    refine r_iaN (x := nI (tU t j)) (q129 (i := 208) rfl) (k_1321 S) (by omega) (by decide) o1 ?_
    refine r_cV (d := _) (q129 (i := 209) rfl) rfl rfl rfl (k_47 S) (Nat.le_of_ble_eq_true rfl) (Nat.zero_le _) (Nat.zero_le _) Rs ?_
    show Wp _ _ _ 344 ls [.int (sg t K o.2 (tU t j)), .int 0, .ref 47] h _ _
    refine r_cV (d := _) (q129 (i := 210) rfl) rfl rfl rfl (k_47 S) (Nat.le_of_ble_eq_true rfl) (Nat.zero_le _) (Nat.zero_le _) Ro ?_
    show Wp _ _ _ 347 ls [.int (nI j)] (chg (sI (sI h 63 j (sg t K o.2 (tU t j))) 49 0 (nI (j + 1)))) _ _
    refine r_pop (q129 (i := 211) rfl) rfl ?_
    refine r_iinc (y := nI (j + 1)) (q129 (i := 212) rfl) (Nat.le_of_ble_eq_true rfl) l4 (nI_1 j) rfl ?_
    have l1 := lk1 (k := 4) (v := .int (nI (j + 1))) l1 (by decide) (Or.inr (by decide))
    have l0 := lk1 (k := 4) (v := .int (nI (j + 1))) l0 (by decide) (Or.inr (by decide))
    have l4 := lk0 ls 4 (.int (nI (j + 1)))
    generalize lset1 ls 4 (.int (nI (j + 1))) = ls at l4 l1 l0 ⊢
    refine r_goto 320 (q129 (i := 213) rfl) (by decide) ?_
    exact K2 Q bc bs hQ ls l4 l1 l0
set_option maxHeartbeats 2000000 in
set_option maxRecDepth 10000 in
theorem lp_bp_1 {d : Nat} {t : txt} {K : Bool} {w : Nat → Int32} {ko : Nat} (tk1 : ∀ q, q < tO t + 2 * tN t → tU t q / 2 = 0 ∨ tD t (tU t q / 2) ≠ 0) (tk2 : K = false → ∀ q, q < tO t + 2 * tN t → 2 ≤ tU t q) (inj : ∀ v w, tD t v ≠ 0 → tD t v = tD t w → v = w) : ∀ (m i : Nat) (o : ost) (cc : cir) (h : hp), i + m = tN t → ainv t i o → BS1 h t K o.2 (cc, k0 K + i, w, ko) → (arr t m i o).1 = true → ∃ h', BS1 h' t K (arr t m i o).2.2 (flA t K (arr t m i o).2 m i cc, k0 K + tN t, w, ko) ∧ FrK1 h h' ∧ ∀ (Q : resP) (bc bs : Nat), (∀ ls : List (Nat × Value), ls.lookup 1 = some (.int 1) → ls.lookup 0 = some (.ref 47) → Wp (Ex (d + 2)) 129 Q 317 ls [] h' bc bs) → ∀ ls : List (Nat × Value), ls.lookup 3 = some (.int (nI i)) → ls.lookup 1 = some (.int 1) → ls.lookup 0 = some (.ref 47) → Wp (Ex (d + 2)) 129 Q 174 ls [] h bc bs := by
  intro m
  induction m with
  | zero =>
    intro i o cc h hm I b _
    have e : i = tN t := by omega
    have X := b.1
    have S := X.1.1
    have hN := X.2.2.2.2.2.2
    refine ⟨h, by rw [← e]; exact b, FrK1.rf h, fun Q bc bs kk ls l3 l1 l0 => ?_⟩
    refine r_iload_n (q129 (i := 107) rfl) l3 ?_
    refine r_aload_n (q129 (i := 108) rfl) l0 ?_
    refine r_getR (b := 1075) (q129 (i := 109) rfl) rfl (by decide) (k_47 S) (fun _ _ _ => rfl) (r_47_30 S) ?_
    refine r_iconst (v := 4) (q129 (i := 110) rfl) (by decide) ?_
    refine r_iaload (x := nI (tN t)) (q129 (i := 111) rfl) (k_1075 S) (vp_in_nI (n := 4) (by decide) (by decide)) X.1.2.2 ?_
    refine r_icmp 317 (q129 (i := 112) rfl) (by decide) (fun _ => ?_) (fun zz => absurd (show nI (tN t) ≤ nI i from nI_le (by omega) (by omega)) zz)
    exact kk ls l1 l0
  | succ m ih =>
    intro i o cc h hm I b ht
    cases q : frdy t o.2 with
    | none =>
      have e : arr t (m + 1) i o = (false, o) := by
        show (match frdy t o.2 with | some k => arr t m (i + 1) (u1 o.1 i k, u1 o.2 k (some i)) | none => (false, o)) = _
        rw [q]
      rw [e] at ht
      exact absurd (show (false : Bool) = true from ht) (by decide)
    | some r =>
      have e : arr t (m + 1) i o = arr t m (i + 1) (u1 o.1 i r, u1 o.2 r (some i)) := by
        show (match frdy t o.2 with | some k => arr t m (i + 1) (u1 o.1 i k, u1 o.2 k (some i)) | none => (false, o)) = _
        rw [q]
      rw [e] at ht ⊢
      have I' := ainv_s I q
      obtain ⟨x1, x2⟩ := arr_ext m (i + 1) _ I'
      obtain ⟨hr, hrn, hrd⟩ := frdy_some q
      obtain ⟨h1, b1, F1, K1⟩ := bp_1 (d := d) b (by omega) tk1 tk2 inj q (fun a j y => (I.1 a j y).1)
      have eo : (arr t m (i + 1) (u1 o.1 i r, u1 o.2 r (some i))).2.1 i = r := by
        rw [x2 i (by omega)]
        exact u1_s
      have es : ∀ j, j < 2 → sg t K o.2 (sid t r j) = sg t K (arr t m (i + 1) (u1 o.1 i r, u1 o.2 r (some i))).2.2 (sid t r j) := fun j hj => sg_cg (fun b hb => by
        have dp : dep t r b := by
          rcases (show j = 0 ∨ j = 1 by omega) with y | y
          · rw [y] at hb; exact Or.inl hb
          · rw [y] at hb; exact Or.inr hb
        have := hrd b dp
        cases w : o.2 b with
        | none => rw [w] at this; exact absurd this (by decide)
        | some z =>
          refine (x1 b z ?_).symm
          show u1 o.2 r (some i) b = some z
          rw [u1_n (fun y => by rw [y, hrn] at w; cases w)]
          exact w)
      rw [es 0 (by decide), es 1 (by decide)] at b1
      obtain ⟨h2, b2, F2, K2⟩ := ih (i + 1) _ _ h1 (by omega) I' b1 ht
      refine ⟨h2, ?_, F1.tr F2, fun Q bc bs kk ls l3 l1 l0 => K1 Q bc bs (K2 Q bc bs kk) ls l3 l1 l0⟩
      have ef : flA t K (arr t m (i + 1) (u1 o.1 i r, u1 o.2 r (some i))).2 (m + 1) i cc = flA t K (arr t m (i + 1) (u1 o.1 i r, u1 o.2 r (some i))).2 m (i + 1) (addg cc (k0 K + i) 0 (sg t K (arr t m (i + 1) (u1 o.1 i r, u1 o.2 r (some i))).2.2 (sid t r 0)) (sg t K (arr t m (i + 1) (u1 o.1 i r, u1 o.2 r (some i))).2.2 (sid t r 1)) 0) := by
        show flA t K _ m (i + 1) (addg cc (k0 K + i) 0 (sg t K _ (sid t ((arr t m (i + 1) (u1 o.1 i r, u1 o.2 r (some i))).2.1 i) 0)) (sg t K _ (sid t ((arr t m (i + 1) (u1 o.1 i r, u1 o.2 r (some i))).2.1 i) 1)) 0) = _
        rw [eo]
      rw [ef]
      exact b2
set_option maxHeartbeats 2000000 in
set_option maxRecDepth 10000 in
theorem lp_bo_1 {d : Nat} {t : txt} {K : Bool} {o : ost} {cc : cir} (tk1 : ∀ q, q < tO t + 2 * tN t → tU t q / 2 = 0 ∨ tD t (tU t q / 2) ≠ 0) (tk2 : K = false → ∀ q, q < tO t + 2 * tN t → 2 ≤ tU t q) (all : ∀ b, b < tN t → ∃ j, o.2 b = some j ∧ j < tN t) : ∀ (m j : Nat) (w : Nat → Int32) (h : hp), j + m = tO t → BS1 h t K o.2 (cc, k0 K + tN t, w, j) → ∃ h', BS1 h' t K o.2 (cc, k0 K + tN t, flO t K o m j w, tO t) ∧ FrK1 h h' ∧ ∀ (Q : resP) (bc bs : Nat), Q none h' → ∀ ls : List (Nat × Value), ls.lookup 4 = some (.int (nI j)) → ls.lookup 1 = some (.int 1) → ls.lookup 0 = some (.ref 47) → Wp (Ex (d + 2)) 129 Q 320 ls [] h bc bs := by
  intro m
  induction m with
  | zero =>
    intro j w h hm b
    have e : j = tO t := by omega
    have X := b.1
    have S := X.1.1
    have hO := X.2.2.2.2.2.1
    refine ⟨h, by rw [← e]; exact b, FrK1.rf h, fun Q bc bs hQ ls l4 l1 l0 => ?_⟩
    refine r_iload (q129 (i := 196) rfl) l4 ?_
    refine r_aload_n (q129 (i := 197) rfl) l0 ?_
    refine r_getR (b := 1075) (q129 (i := 198) rfl) rfl (by decide) (k_47 S) (fun _ _ _ => rfl) (r_47_30 S) ?_
    refine r_iconst (v := 3) (q129 (i := 199) rfl) (by decide) ?_
    refine r_iaload (x := nI (tO t)) (q129 (i := 200) rfl) (k_1075 S) (vp_in_nI (n := 3) (by decide) (by decide)) X.1.2.1 ?_
    refine r_icmp 354 (q129 (i := 201) rfl) (by decide) (fun _ => ?_) (fun zz => absurd (show nI (tO t) ≤ nI j from nI_le (by omega) (by omega)) zz)
    exact r_vret (q129 (i := 214) rfl) rfl hQ
  | succ m ih =>
    intro j w h hm b
    have b0 := b
    obtain ⟨X, ⟨al, ol⟩, e1, T, mm, e10, e18⟩ := b
    have S := X.1.1
    have hn := X.2.2.2.2.1
    have hO := X.2.2.2.2.2.1
    have hN := X.2.2.2.2.2.2
    have hD := X.2.2.2.1.2
    have k1 : k0 K ≤ 1 := by cases K <;> decide
    obtain ⟨o1, o2⟩ := ol j (by omega)
    have hlt : j < tO t + 2 * tN t := by omega
    have hb : ∀ b, AO (tD t) (tn t) (tU t j) = some b → ∃ q, o.2 b = some q ∧ q < tN t := fun b hb => all b (AO_lt2 hD hb)
    have hp : pl (sg t K o.2 (tU t j)) < nI (tn t + (k0 K + tN t)) := by
      refine pl_sg (m := tn t + (k0 K + tN t)) ?_ (by omega)
      have := sgn_lt (t := t) (K := K) (rk := o.2) (lit := tU t j) (i := tN t) (fun q => tk2 q _ hlt) (tk1 _ hlt) hb
      omega
    have es : hI h 1324 (tU t j / 2) = nI (sgn t K o.2 (tU t j)) := by
      have et : thv t K o.2 (tU t j / 2) = true := by
        rw [thv_thr (lit := tU t j) (fun q => tk2 q _ hlt) X.2.2.2.1.1 (tk1 _ hlt)]
        unfold thr
        cases q : AO (tD t) (tn t) (tU t j) with
        | none => rfl
        | some b =>
          obtain ⟨z, y1, _⟩ := hb b q
          show (o.2 b).isSome = true
          rw [y1]; rfl
      have := (T (tU t j / 2) (by omega)).2 et
      rw [sgn_half] at this
      exact this
    have Rs := sp_msig (d := d + 1) S o2 es
    have Ro := sp_mo1 (d := d) S e1 mm.2.1 mm.2.2.2 (by show j < 10; omega) hp
    have F : FrK1 h (chg (sI (sI h 64 j (sg t K o.2 (tU t j))) 49 1 (nI (j + 1)))) := by
      refine ⟨rfl, fun q x1 x2 x3 x4 x5 x6 x7 x8 x9 x10 => ?_, fun j a b => ?_, fun j a => rfl, fun j a => ?_⟩
      · show u2 (u2 (u2 (u2 h.1 64 _ _) 49 _ _) 47 _ _) 47 _ _ q = _
        rw [u2_n x1, u2_n x1, u2_n x3, u2_n x8]
      · show u1 (u1 (h.1 47) 10 _) 18 _ j = _
        rw [u1_n b, u1_n a]
      · show u1 (h.1 49) 1 _ j = _
        rw [u1_n a]
    have b1 : BS1 (chg (sI (sI h 64 j (sg t K o.2 (tU t j))) 49 1 (nI (j + 1)))) t K o.2 (cc, k0 K + tN t, u1 w j (sg t K o.2 (tU t j)), j + 1) := F.B b0 T ⟨mm.1, mm.2.1, by have ew : hI h 64 = w := mm.2.2.1; rw [← ew]; rfl, rfl⟩ rfl rfl
    obtain ⟨h2, b2, F2, K2⟩ := ih (j + 1) _ _ (by omega) b1
    refine ⟨h2, b2, F.tr F2, fun Q bc bs hQ ls l4 l1 l0 => ?_⟩
    refine r_iload (q129 (i := 196) rfl) l4 ?_
    refine r_aload_n (q129 (i := 197) rfl) l0 ?_
    refine r_getR (b := 1075) (q129 (i := 198) rfl) rfl (by decide) (k_47 S) (fun _ _ _ => rfl) (r_47_30 S) ?_
    refine r_iconst (v := 3) (q129 (i := 199) rfl) (by decide) ?_
    refine r_iaload (x := nI (tO t)) (q129 (i := 200) rfl) (k_1075 S) (vp_in_nI (n := 3) (by decide) (by decide)) X.1.2.1 ?_
    refine r_icmp 354 (q129 (i := 201) rfl) (by decide) (fun zz => absurd zz (show ¬ (nI (tO t) ≤ nI j) from nI_ge (by omega) (by omega))) (fun _ => ?_)
    refine r_aload_n (q129 (i := 202) rfl) l0 ?_
    refine r_iload_n (q129 (i := 203) rfl) l1 ?_
    refine r_aload_n (q129 (i := 204) rfl) l0 ?_
    refine r_aload_n (q129 (i := 205) rfl) l0 ?_
    refine r_getR (b := 1321) (q129 (i := 206) rfl) rfl (by decide) (k_47 S) (fun _ _ _ => rfl) (r_47_36 S) ?_
    refine r_iload (q129 (i := 207) rfl) l4 ?_
    refine r_iaN (x := nI (tU t j)) (q129 (i := 208) rfl) (k_1321 S) (by omega) (by decide) o1 ?_
    refine r_cV (d := _) (q129 (i := 209) rfl) rfl rfl rfl (k_47 S) (Nat.le_of_ble_eq_true rfl) (Nat.zero_le _) (Nat.zero_le _) Rs ?_
    show Wp _ _ _ 344 ls [.int (sg t K o.2 (tU t j)), .int 1, .ref 47] h _ _
    refine r_cV (d := _) (q129 (i := 210) rfl) rfl rfl rfl (k_47 S) (Nat.le_of_ble_eq_true rfl) (Nat.zero_le _) (Nat.zero_le _) Ro ?_
    show Wp _ _ _ 347 ls [.int (nI j)] (chg (sI (sI h 64 j (sg t K o.2 (tU t j))) 49 1 (nI (j + 1)))) _ _
    refine r_pop (q129 (i := 211) rfl) rfl ?_
    refine r_iinc (y := nI (j + 1)) (q129 (i := 212) rfl) (Nat.le_of_ble_eq_true rfl) l4 (nI_1 j) rfl ?_
    have l1 := lk1 (k := 4) (v := .int (nI (j + 1))) l1 (by decide) (Or.inr (by decide))
    have l0 := lk1 (k := 4) (v := .int (nI (j + 1))) l0 (by decide) (Or.inr (by decide))
    have l4 := lk0 ls 4 (.int (nI (j + 1)))
    generalize lset1 ls 4 (.int (nI (j + 1))) = ls at l4 l1 l0 ⊢
    refine r_goto 320 (q129 (i := 213) rfl) (by decide) ?_
    exact K2 Q bc bs hQ ls l4 l1 l0
