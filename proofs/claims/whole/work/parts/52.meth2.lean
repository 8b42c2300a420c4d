/-! ===== tape and VECTORS ===== -/
def sT (σ : st8) (t : (Nat → Int32) × Nat) : st8 := (σ.1, σ.2.1, σ.2.2.1, σ.2.2.2.1, t, σ.2.2.2.2.2)
theorem SSt.to {h h' : hp} {ρ : Nat} {σ : st8} (c : SSt h ρ σ) (e2 : hI h' 2 12 = hI h 2 12) (e30 : hI h' 30 = hI h 30) (b : zBU h ρ σ → zBU h' ρ σ) : SSt h' ρ σ := by
  unfold SSt at *
  cases q : zs σ with
  | none =>
    rw [q] at c
    show hI h' 2 12 = 0
    rw [e2]; exact c
  | some w =>
    rw [q] at c
    obtain ⟨y1, y2, y3⟩ := c
    exact ⟨by rw [e2]; exact y1, b y2, by rw [e30]; exact y3⟩
theorem GSt.to {h h' : hp} {ρ : Nat} {σ : st8} (c : GSt h ρ σ) (e2 : hI h' 2 11 = hI h 2 11) (b : zBU h ρ σ → zBU h' ρ σ) (l : ∀ k, 27 ≤ k → k ≤ 29 → hI h' k = hI h k) : GSt h' ρ σ := by
  rcases c with g | ⟨g1, g2, g3⟩
  · exact Or.inl (by rw [e2]; exact g)
  · exact Or.inr ⟨by rw [e2]; exact g1, b g2, g3.to l⟩
/-- tape and text don't matter to the rest -/
theorem CI.fr {h h' : hp} {ρ e : Nat} {σ : st8} (C : CI h ρ e σ) (e2 : h'.2 = h.2) (i : ∀ k, k < 33 → hI h' k = hI h k) {t : (Nat → Int32) × Nat} (T : TC h' t.1 t.2) : CI h' ρ e (sT σ t) := by
  obtain ⟨c1, c2, c3, c4, c5, c6, c7, c8, c9, c10⟩ := C
  have ej : hJ h' = hJ h := by unfold hJ; rw [e2]
  have e3 : h'.2.2 = h.2.2 := by rw [e2]
  have b : zBU h ρ σ → zBU h' ρ σ := fun B => B.to (fun k hk => i k (by omega)) (by rw [ej]) e3
  refine ⟨⟨c1.1.to e3, ?_, by show 1327 ≤ h'.2.2.2.2; rw [e3]; exact c1.2.2⟩, ?_, ⟨c3.1.to (fun k _ _ => i k (by omega)), ?_⟩, ⟨c4.1.to (fun k _ _ => i k (by omega)), ?_⟩, c5.to (fun k _ _ => i k (by omega)) (by rw [ej]), T, ?_, c8.to (fun k hk => i k (by omega)) (by rw [ej]) e3, c9.to (by rw [i 2 (by decide)]) b (fun k _ _ => i k (by omega)), c10.to (by rw [i 2 (by decide)]) (i 30 (by decide)) b⟩
  · unfold Pt hK hJ at *
    rw [e2]
    exact c1.2.1
  · rw [i 2 (by decide)]; exact c2
  · rw [i 3 (by decide)]; exact c3.2
  · rw [i 10 (by decide)]; exact c4.2
  · rw [i 31 (by decide)]; exact c7
def pu4 (B : Nat → Int32) (z : Nat) (v : Int32) : Nat → Int32 := u1 (u1 (u1 (u1 B z (byt v 24)) (z + 1) (byt v 16)) (z + 2) (byt v 8)) (z + 3) (byt v 0)
def FrP (h h' : hp) : Prop := h'.2 = h.2 ∧ ∀ k, k ≠ 33 → k ≠ 34 → hI h' k = hI h k
theorem FrP.tr {h h' h'' : hp} (a : FrP h h') (b : FrP h' h'') : FrP h h'' := ⟨b.1.trans a.1, fun k x y => (b.2 k x y).trans (a.2 k x y)⟩
theorem FrP.S {h h' : hp} (F : FrP h h') (S : Sh h) : Sh h' := S.to (by rw [F.1])
theorem FrP.C {h h' : hp} (F : FrP h h') : FC h h' := FC.of (by rw [F.1]) (fun k hk => F.2 k (by omega) (by omega)) (fun k _ => by unfold hJ; rw [F.1])
theorem put4_F (h : hp) (z : Nat) (v : Int32) : FrP h (put4 h 34 33 1 z v) := ⟨rfl, fun k x y => by
  show u2 (u2 (u2 (u2 (u2 (u2 (u2 (u2 h.1 34 _ _) 33 _ _) 34 _ _) 33 _ _) 34 _ _) 33 _ _) 34 _ _) 33 _ _ k = _
  rw [u2_n x, u2_n y, u2_n x, u2_n y, u2_n x, u2_n y, u2_n x, u2_n y]⟩
theorem put4_T {h : hp} {B : Nat → Int32} {z : Nat} (T : TC h B z) (v : Int32) (hz : z + 4 ≤ 3000) : TC (put4 h 34 33 1 z v) (pu4 B z v) (z + 4) := by
  obtain ⟨a, b, c⟩ := T
  subst a
  exact ⟨rfl, rfl, hz⟩
theorem byt_b (v k : Int32) : (byt v k).toInt8.toInt32 = byt v k := by
  unfold byt
  rw [Int8.toInt8_toInt32]
theorem byo_4 {B : Nat → Int32} (h : byo B) (z : Nat) (v : Int32) : byo (pu4 B z v) := by
  intro k
  unfold pu4
  have u : ∀ (f : Nat → Int32) (j : Nat) (x : Int32), (x.toInt8.toInt32 = x) → (f k).toInt8.toInt32 = f k → (u1 f j x k).toInt8.toInt32 = u1 f j x k := by
    intro f j x hx hf
    by_cases q : k = j
    · rw [q, u1_s]; exact hx
    · rw [u1_n q]; exact hf
  exact u _ _ _ (byt_b _ _) (u _ _ _ (byt_b _ _) (u _ _ _ (byt_b _ _) (u _ _ _ (byt_b _ _) (h k))))
def pu20 (B : Nat → Int32) (z : Nat) (a b c d e : Int32) : Nat → Int32 := pu4 (pu4 (pu4 (pu4 (pu4 B z a) (z + 4) b) (z + 4 + 4) c) (z + 4 + 4 + 4) d) (z + 4 + 4 + 4 + 4) e
def aFeed (σ : st8) : Int32 := if (zt σ).2 ≤ 2980 then nI ((zt σ).2 + 20) else -1
def nFeed (σ : st8) (a b c d e : Int32) : st8 := if (zt σ).2 ≤ 2980 then sT σ (pu20 (zt σ).1 (zt σ).2 a b c d e, (zt σ).2 + 20) else σ
theorem feed_ok {σ : st8} (Z : zok σ) (a b c d e : Int32) : zok (nFeed σ a b c d e) := by
  obtain ⟨z1, z2, z3, z4, z5, z6⟩ := id Z
  unfold nFeed
  split
  · exact ⟨z1, z2, z3, z4, by show (zt σ).2 + 20 ≤ 3000; omega, byo_4 (byo_4 (byo_4 (byo_4 (byo_4 z6 _ _) _ _) _ _) _ _) _ _⟩
  · exact Z
set_option maxHeartbeats 2000000 in
set_option maxRecDepth 10000 in
theorem xs_feed {h : hp} {ρ e : Nat} {σ : st8} (C : CI h ρ e σ) (a b c d t : Int32) : CStep 79 [.ref 2, .int a, .int b, .int c, .int d, .int t] h e (aFeed σ) (nFeed σ a b c d t) := by
  have S := C.1.1
  have T := C.2.2.2.2.2.1
  have hz := T.2.2
  unfold aFeed nFeed
  by_cases q : (zt σ).2 ≤ 2980
  · rw [if_pos q, if_pos q]
    obtain ⟨h1, e1⟩ : ∃ x, x = put4 h 34 33 1 ((zt σ).2) a := ⟨_, rfl⟩
    have R1 := sp_append (d := 6) S T.2.1 (by omega) a
    have F1 := put4_F h ((zt σ).2) a
    have T1 := put4_T T a (by omega)
    rw [← e1] at R1 F1 T1
    have S1 := F1.S S
    obtain ⟨h2, e2⟩ : ∃ x, x = put4 h1 34 33 1 ((zt σ).2 + 4) b := ⟨_, rfl⟩
    have R2 := sp_append (d := 6) S1 T1.2.1 (by omega) b
    have F2 := put4_F h1 ((zt σ).2 + 4) b
    have T2 := put4_T T1 b (by omega)
    rw [← e2] at R2 F2 T2
    have S2 := F2.S S1
    obtain ⟨h3, e3⟩ : ∃ x, x = put4 h2 34 33 1 ((zt σ).2 + 4 + 4) c := ⟨_, rfl⟩
    have R3 := sp_append (d := 6) S2 T2.2.1 (by omega) c
    have F3 := put4_F h2 ((zt σ).2 + 4 + 4) c
    have T3 := put4_T T2 c (by omega)
    rw [← e3] at R3 F3 T3
    have S3 := F3.S S2
    obtain ⟨h4, e4⟩ : ∃ x, x = put4 h3 34 33 1 ((zt σ).2 + 4 + 4 + 4) d := ⟨_, rfl⟩
    have R4 := sp_append (d := 6) S3 T3.2.1 (by omega) d
    have F4 := put4_F h3 ((zt σ).2 + 4 + 4 + 4) d
    have T4 := put4_T T3 d (by omega)
    rw [← e4] at R4 F4 T4
    have S4 := F4.S S3
    obtain ⟨h5, e5⟩ : ∃ x, x = put4 h4 34 33 1 ((zt σ).2 + 4 + 4 + 4 + 4) t := ⟨_, rfl⟩
    have R5 := sp_append (d := 6) S4 T4.2.1 (by omega) t
    have F5 := put4_F h4 ((zt σ).2 + 4 + 4 + 4 + 4) t
    have T5 := put4_T T4 t (by omega)
    rw [← e5] at R5 F5 T5
    have S5 := F5.S S4
    have F := (((F1.tr F2).tr F3).tr F4).tr F5
    refine CStep.of (ρ := ρ) (?_ : Run (7 + 1) 79 _ h 0 0 _ h5) (C.fr F.1 (fun k hk => F.2 k (by omega) (by omega)) (t := (pu20 (zt σ).1 (zt σ).2 a b c d t, (zt σ).2 + 20)) T5) F.C
    refine Run.of (Nat.le_of_ble_eq_true rfl) (fun Q hQ => ?_)
    show Wp (Ex 7) 79 Q 0 [(0, .ref 2), (1, .int a), (2, .int b), (3, .int c), (4, .int d), (5, .int t)] [] h 0 0
    refine r_aload_n (q79 (i := 0) rfl) rfl ?_
    refine r_getR (b := 33) (q79 (i := 1) rfl) rfl (by decide) (k_2 S) (fun _ _ _ => rfl) (r_2_6 S) ?_
    refine r_getI (x := nI (zt σ).2) (q79 (i := 2) rfl) rfl (by decide) (k_33 S) (fun _ _ _ => rfl) T.2.1 ?_
    refine r_sipush (v := 2980) (q79 (i := 3) rfl) (by decide) ?_
    refine r_icmp 15 (q79 (i := 4) rfl) (by decide) (fun _ => ?_) (fun zz => absurd (show nI (zt σ).2 ≤ 2980 from nI_le (b := 2980) q (by decide)) zz)
    refine r_aload_n (q79 (i := 7) rfl) rfl ?_
    refine r_getR (b := 33) (q79 (i := 8) rfl) rfl (by decide) (k_2 S) (fun _ _ _ => rfl) (r_2_6 S) ?_
    refine r_iload_n (q79 (i := 9) rfl) rfl ?_
    refine r_cV (d := _) (q79 (i := 10) rfl) rfl rfl rfl (k_33 S) (Nat.le_of_ble_eq_true rfl) (Nat.zero_le _) (Nat.zero_le _) R1 ?_
    show Wp _ _ _ 23 [(0, .ref 2), (1, .int a), (2, .int b), (3, .int c), (4, .int d), (5, .int t)] [] h1 _ _
    refine r_aload_n (q79 (i := 11) rfl) rfl ?_
    refine r_getR (b := 33) (q79 (i := 12) rfl) rfl (by decide) (k_2 S1) (fun _ _ _ => rfl) (r_2_6 S1) ?_
    refine r_iload_n (q79 (i := 13) rfl) rfl ?_
    refine r_cV (d := _) (q79 (i := 14) rfl) rfl rfl rfl (k_33 S1) (Nat.le_of_ble_eq_true rfl) (Nat.zero_le _) (Nat.zero_le _) R2 ?_
    show Wp _ _ _ 31 [(0, .ref 2), (1, .int a), (2, .int b), (3, .int c), (4, .int d), (5, .int t)] [] h2 _ _
    refine r_aload_n (q79 (i := 15) rfl) rfl ?_
    refine r_getR (b := 33) (q79 (i := 16) rfl) rfl (by decide) (k_2 S2) (fun _ _ _ => rfl) (r_2_6 S2) ?_
    refine r_iload_n (q79 (i := 17) rfl) rfl ?_
    refine r_cV (d := _) (q79 (i := 18) rfl) rfl rfl rfl (k_33 S2) (Nat.le_of_ble_eq_true rfl) (Nat.zero_le _) (Nat.zero_le _) R3 ?_
    show Wp _ _ _ 39 [(0, .ref 2), (1, .int a), (2, .int b), (3, .int c), (4, .int d), (5, .int t)] [] h3 _ _
    refine r_aload_n (q79 (i := 19) rfl) rfl ?_
    refine r_getR (b := 33) (q79 (i := 20) rfl) rfl (by decide) (k_2 S3) (fun _ _ _ => rfl) (r_2_6 S3) ?_
    refine r_iload (q79 (i := 21) rfl) rfl ?_
    refine r_cV (d := _) (q79 (i := 22) rfl) rfl rfl rfl (k_33 S3) (Nat.le_of_ble_eq_true rfl) (Nat.zero_le _) (Nat.zero_le _) R4 ?_
    show Wp _ _ _ 48 [(0, .ref 2), (1, .int a), (2, .int b), (3, .int c), (4, .int d), (5, .int t)] [] h4 _ _
    refine r_aload_n (q79 (i := 23) rfl) rfl ?_
    refine r_getR (b := 33) (q79 (i := 24) rfl) rfl (by decide) (k_2 S4) (fun _ _ _ => rfl) (r_2_6 S4) ?_
    refine r_iload (q79 (i := 25) rfl) rfl ?_
    refine r_cV (d := _) (q79 (i := 26) rfl) rfl rfl rfl (k_33 S4) (Nat.le_of_ble_eq_true rfl) (Nat.zero_le _) (Nat.zero_le _) R5 ?_
    show Wp _ _ _ 57 [(0, .ref 2), (1, .int a), (2, .int b), (3, .int c), (4, .int d), (5, .int t)] [] h5 _ _
    refine r_aload_n (q79 (i := 27) rfl) rfl ?_
    refine r_getR (b := 33) (q79 (i := 28) rfl) rfl (by decide) (k_2 S5) (fun _ _ _ => rfl) (r_2_6 S5) ?_
    refine r_getI (x := nI ((zt σ).2 + 20)) (q79 (i := 29) rfl) rfl (by decide) (k_33 S5) (fun _ _ _ => rfl) T5.2.1 ?_
    exact r_iret (q79 (i := 30) rfl) rfl hQ
  · rw [if_neg q, if_neg q]
    refine CStep.of (?_ : Run (7 + 1) 79 _ h 0 0 _ h) C (FC.rf h)
    refine Run.of (Nat.le_of_ble_eq_true rfl) (fun Q hQ => ?_)
    show Wp (Ex 7) 79 Q 0 [(0, .ref 2), (1, .int a), (2, .int b), (3, .int c), (4, .int d), (5, .int t)] [] h 0 0
    refine r_aload_n (q79 (i := 0) rfl) rfl ?_
    refine r_getR (b := 33) (q79 (i := 1) rfl) rfl (by decide) (k_2 S) (fun _ _ _ => rfl) (r_2_6 S) ?_
    refine r_getI (x := nI (zt σ).2) (q79 (i := 2) rfl) rfl (by decide) (k_33 S) (fun _ _ _ => rfl) T.2.1 ?_
    refine r_sipush (v := 2980) (q79 (i := 3) rfl) (by decide) ?_
    refine r_icmp 15 (q79 (i := 4) rfl) (by decide) (fun zz => absurd zz (show ¬ (nI (zt σ).2 ≤ 2980) from nI_ge (a := 2980) (by omega) (by omega))) (fun _ => ?_)
    refine r_iconst (v := (-1)) (q79 (i := 5) rfl) (by decide) ?_
    exact r_iret (q79 (i := 6) rfl) rfl hQ
def oke (σ : st8) (x : Int32) : Bool := decide (¬ x < 0 ∧ x ≤ nI (zt σ).2)
theorem oke_t {σ : st8} {x : Int32} (hz : (zt σ).2 ≤ 3000) (h : oke σ x = true) : ∃ k, k ≤ (zt σ).2 ∧ x = nI k := by
  have h := of_decide_eq_true h
  obtain ⟨w, hw, e⟩ := nI_of h.1
  have := h.2
  rw [e, nI_leI hw (by omega)] at this
  exact ⟨w, this, e⟩
def aEnd (σ : st8) (x : Int32) : Int32 := if oke σ x then x else -1
def nEnd (σ : st8) (x : Int32) : st8 := if oke σ x then sT σ ((zt σ).1, x.toNatClampNeg) else σ
theorem end_ok {σ : st8} (Z : zok σ) (x : Int32) : zok (nEnd σ x) := by
  obtain ⟨z1, z2, z3, z4, z5, z6⟩ := id Z
  unfold nEnd
  split
  · rename_i q
    obtain ⟨k, hk, e⟩ := oke_t z5 q
    rw [e, nI_clamp (by omega)]
    exact ⟨z1, z2, z3, z4, by show k ≤ 3000; omega, z6⟩
  · exact Z
set_option maxHeartbeats 2000000 in
set_option maxRecDepth 10000 in
theorem xs_end {h : hp} {ρ e : Nat} {σ : st8} (C : CI h ρ e σ) (x : Int32) : CStep 80 [.ref 2, .int x] h e (aEnd σ x) (nEnd σ x) := by
  have S := C.1.1
  have T := C.2.2.2.2.2.1
  unfold aEnd nEnd
  by_cases q : oke σ x = true
  · rw [if_pos q, if_pos q]
    have hx := of_decide_eq_true q
    obtain ⟨k, hk, ek⟩ := oke_t T.2.2 q
    have ec : x.toNatClampNeg = k := by rw [ek, nI_clamp (by have := T.2.2; omega)]
    rw [ec]
    refine CStep.of (ρ := ρ) (?_ : Run (7 + 1) 80 _ h 0 0 _ (sI h 33 1 x)) (C.fr (h' := sI h 33 1 x) rfl (fun k hk => by show u2 h.1 33 _ _ k = _; rw [u2_n (by omega)]) (t := ((zt σ).1, k)) ⟨T.1, ek, by have := T.2.2; show k ≤ 3000; omega⟩) (FC.w (by decide) _ _)
    refine Run.of (Nat.le_of_ble_eq_true rfl) (fun Q hQ => ?_)
    show Wp (Ex 7) 80 Q 0 [(0, .ref 2), (1, .int x)] [] h 0 0
    refine r_iload_n (q80 (i := 0) rfl) rfl ?_
    refine r_if 15 (q80 (i := 1) rfl) (by decide) (fun zz => absurd zz (show ¬ (x < 0) from hx.1)) (fun _ => ?_)
    refine r_iload_n (q80 (i := 2) rfl) rfl ?_
    refine r_aload_n (q80 (i := 3) rfl) rfl ?_
    refine r_getR (b := 33) (q80 (i := 4) rfl) rfl (by decide) (k_2 S) (fun _ _ _ => rfl) (r_2_6 S) ?_
    refine r_getI (x := nI (zt σ).2) (q80 (i := 5) rfl) rfl (by decide) (k_33 S) (fun _ _ _ => rfl) T.2.1 ?_
    refine r_icmp 17 (q80 (i := 6) rfl) (by decide) (fun _ => ?_) (fun zz => absurd (show x ≤ nI (zt σ).2 from hx.2) zz)
    refine r_aload_n (q80 (i := 9) rfl) rfl ?_
    refine r_getR (b := 33) (q80 (i := 10) rfl) rfl (by decide) (k_2 S) (fun _ _ _ => rfl) (r_2_6 S) ?_
    refine r_iload_n (q80 (i := 11) rfl) rfl ?_
    refine r_putI (q80 (i := 12) rfl) rfl (by decide) (k_33 S) rfl rfl ?_
    refine r_iload_n (q80 (i := 13) rfl) rfl ?_
    exact r_iret (q80 (i := 14) rfl) rfl hQ
  · rw [if_neg q, if_neg q]
    have hx := of_decide_eq_false (Bool.eq_false_iff.mpr q)
    refine CStep.of (?_ : Run (7 + 1) 80 _ h 0 0 _ h) C (FC.rf h)
    refine Run.of (Nat.le_of_ble_eq_true rfl) (fun Q hQ => ?_)
    show Wp (Ex 7) 80 Q 0 [(0, .ref 2), (1, .int x)] [] h 0 0
    by_cases q1 : x < 0
    · skip
      refine r_iload_n (q80 (i := 0) rfl) rfl ?_
      refine r_if 15 (q80 (i := 1) rfl) (by decide) (fun _ => ?_) (fun zz => absurd (show x < 0 from q1) zz)
      refine r_iconst (v := (-1)) (q80 (i := 7) rfl) (by decide) ?_
      exact r_iret (q80 (i := 8) rfl) rfl hQ
    · have q2 : ¬ x ≤ nI (zt σ).2 := fun y => hx ⟨q1, y⟩
      refine r_iload_n (q80 (i := 0) rfl) rfl ?_
      refine r_if 15 (q80 (i := 1) rfl) (by decide) (fun zz => absurd zz (show ¬ (x < 0) from q1)) (fun _ => ?_)
      refine r_iload_n (q80 (i := 2) rfl) rfl ?_
      refine r_aload_n (q80 (i := 3) rfl) rfl ?_
      refine r_getR (b := 33) (q80 (i := 4) rfl) rfl (by decide) (k_2 S) (fun _ _ _ => rfl) (r_2_6 S) ?_
      refine r_getI (x := nI (zt σ).2) (q80 (i := 5) rfl) rfl (by decide) (k_33 S) (fun _ _ _ => rfl) T.2.1 ?_
      refine r_icmp 17 (q80 (i := 6) rfl) (by decide) (fun zz => absurd zz (show ¬ (x ≤ nI (zt σ).2) from q2)) (fun _ => ?_)
      refine r_iconst (v := (-1)) (q80 (i := 7) rfl) (by decide) ?_
      exact r_iret (q80 (i := 8) rfl) rfl hQ
set_option maxHeartbeats 2000000 in
set_option maxRecDepth 10000 in
theorem xs_place {h : hp} {ρ e : Nat} {σ : st8} (C : CI h ρ e σ) : CStep 82 [.ref 2] h e (zp σ) σ := by
  have S := C.1.1
  refine CStep.of (?_ : Run (7 + 1) 82 _ h 0 0 _ h) C (FC.rf h)
  refine Run.of (Nat.le_of_ble_eq_true rfl) (fun Q hQ => ?_)
  show Wp (Ex 7) 82 Q 0 [(0, .ref 2)] [] h 0 0
  refine r_aload_n (q82 (i := 0) rfl) rfl ?_
  refine r_getI (x := zp σ) (q82 (i := 1) rfl) rfl (by decide) (k_2 S) (fun _ _ _ => rfl) C.2.1.2 ?_
  exact r_iret (q82 (i := 2) rfl) rfl hQ
def sV (σ : st8) (v : vs) : st8 := (σ.1, σ.2.1, σ.2.2.1, v, σ.2.2.2.2)
def okv (σ : st8) (x : Int32) : Bool := isw (zn σ) x && !inV (zv σ).1 x.toNatClampNeg
def aVec (σ : st8) (x : Int32) : Int32 := if okv σ x then nI ((zv σ).2.2 + 1) else -1
def nVec (σ : st8) (x : Int32) : st8 := if okv σ x then sV σ (vadd (zv σ) x.toNatClampNeg) else σ
theorem okv_t {σ : st8} {x : Int32} (hn : zn σ ≤ 12) (h : okv σ x = true) : ∃ w, w < 2 ^ zn σ ∧ w < 4096 ∧ w / 64 < 2 ^ (zn σ - 6) ∧ x = nI w ∧ x.toNatClampNeg = w ∧ inV (zv σ).1 w = false ∧ isw (zn σ) x = true := by
  unfold okv at h
  rw [Bool.and_eq_true] at h
  obtain ⟨w, a, b, c, e⟩ := isw_t hn h.1
  have ec : x.toNatClampNeg = w := by rw [e, nI_clamp (by omega)]
  refine ⟨w, a, b, c, e, ec, ?_, h.1⟩
  have := h.2
  rw [ec] at this
  cases y : inV (zv σ).1 w with
  | true => rw [y] at this; cases this
  | false => rfl
theorem vec_ok {σ : st8} (Z : zok σ) (x : Int32) : zok (nVec σ x) := by
  obtain ⟨z1, z2, z3, z4, z5⟩ := id Z
  unfold nVec
  split
  · rename_i q
    obtain ⟨w, a, b, c, e, ec, f, _⟩ := okv_t z1.2 q
    rw [ec]
    exact ⟨z1, z2, z3, vok_add z4 b f, z5⟩
  · exact Z
/-- the VECTORS change: the groups fall, all else stands -/
theorem CI.vec {h h' : hp} {ρ e : Nat} {σ : st8} (C : CI h ρ e σ) (e2 : h'.2.2 = h.2.2) (i : ∀ k, k ≠ 17 → k ≠ 18 → k ≠ 20 → hI h' k = hI h k) (j : ∀ k, k ≠ 19 → hJ h' k = hJ h k) {v : vs} (V : VC h' (2 ^ (zn σ - 6)) v) : CI (sI h' 2 11 0) ρ e (sV σ v) := by
  obtain ⟨c1, c2, c3, c4, c5, c6, c7, c8, c9, c10⟩ := C
  have hρ := Rw_19 c8.1
  have b : zBU h ρ σ → zBU h' ρ σ := fun B => B.to (fun k hk => i k (by omega) (by omega) (by omega)) (j ρ hρ) e2
  refine ⟨⟨(c1.1.to e2).to rfl, ?_, by show 1327 ≤ h'.2.2.2.2; rw [e2]; exact c1.2.2⟩, ?_, ⟨c3.1.to (h' := h') (fun k _ _ => i k (by omega) (by omega) (by omega)), ?_⟩, ⟨c4.1.to (h' := h') (fun k _ _ => i k (by omega) (by omega) (by omega)), ?_⟩, V, ?_, ?_, c8.to (h' := h') (fun k hk => i k (by omega) (by omega) (by omega)) (j ρ hρ) e2, Or.inl rfl, ?_⟩
  · have h1 : hK h' 1 = hK h 1 := by unfold hK; rw [e2]
    have h2 : hJ h' 1 = hJ h 1 := j 1 (by decide)
    exact ⟨h1.trans c1.2.1.1, h2.trans c1.2.1.2⟩
  · show hI h' 2 9 = _ ∧ hI h' 2 10 = _
    rw [i 2 (by decide) (by decide) (by decide)]; exact c2
  · show hI h' 3 6 = _
    rw [i 3 (by decide) (by decide) (by decide)]; exact c3.2
  · show hI h' 10 6 = _
    rw [i 10 (by decide) (by decide) (by decide)]; exact c4.2
  · show TC h' _ _
    unfold TC
    rw [i 33 (by decide) (by decide) (by decide), i 34 (by decide) (by decide) (by decide)]; exact c6
  · show hI h' 31 = _
    rw [i 31 (by decide) (by decide) (by decide)]; exact c7
  · have := c10.to (h' := h') (by rw [i 2 (by decide) (by decide) (by decide)]) (i 30 (by decide) (by decide) (by decide)) b
    unfold SSt at *
    exact this
set_option maxHeartbeats 2000000 in
set_option maxRecDepth 10000 in
theorem xs_vector {h : hp} {ρ e : Nat} {σ : st8} (C : CI h ρ e σ) (Z : zok σ) (x : Int32) : CStep 84 [.ref 2, .int x] h e (aVec σ x) (nVec σ x) := by
  have S := C.1.1
  have V := C.2.2.2.2.1
  have R0 := sp_isw (d := 6) S C.2.1.1 Z.1.2 x
  unfold aVec nVec
  by_cases q : okv σ x = true
  · rw [if_pos q, if_pos q]
    obtain ⟨w, w1, w2, w3, ew, ec, wv, wi⟩ := okv_t Z.1.2 q
    rw [ec]
    rw [wi] at R0
    subst ew
    have R1 := sp_has (d := 6) S w2
    rw [V.1, wv] at R1
    have R2 := sp_addC (d := 5) S V Z.2.2.2.1 w2 wv
    obtain ⟨V2, F2⟩ := VC_add V w2 w3
    have S2 : Sh (addV h w (cntB (nz (zv σ).1) 64) (zv σ).2.2) := S.to F2.1
    have F3 : FC h (sI (addV h w (cntB (nz (zv σ).1) 64) (zv σ).2.2) 2 11 0) := (FC.of F2.1 (fun k hk => F2.2.1 k (by omega) (by omega) (by omega)) (fun k hk => F2.2.2 k (by omega))).tr (FC.w (by decide) _ _)
    have v4 : hI (addV h w (cntB (nz (zv σ).1) 64) (zv σ).2.2) 17 4 = nI ((zv σ).2.2 + 1) := V2.2.2.1
    refine CStep.of (ρ := ρ) (?_ : Run (7 + 1) 84 _ h 0 0 _ (sI (addV h w (cntB (nz (zv σ).1) 64) (zv σ).2.2) 2 11 0)) (C.vec F2.1 F2.2.1 F2.2.2 V2) F3
    refine Run.of (Nat.le_of_ble_eq_true rfl) (fun Q hQ => ?_)
    show Wp (Ex 7) 84 Q 0 [(0, .ref 2), (1, .int (nI w))] [] h 0 0
    refine r_aload_n (q84 (i := 0) rfl) rfl ?_
    refine r_iload_n (q84 (i := 1) rfl) rfl ?_
    refine r_cV (d := _) (q84 (i := 2) rfl) rfl rfl rfl (k_2 S) (Nat.le_of_ble_eq_true rfl) (Nat.zero_le _) (Nat.zero_le _) R0 ?_
    show Wp _ _ _ 5 [(0, .ref 2), (1, .int (nI w))] [.int 1] h _ _
    refine r_if 19 (q84 (i := 3) rfl) (by decide) (fun zz => absurd zz (show ¬ ((1 : Int32) = 0) from by decide)) (fun _ => ?_)
    refine r_aload_n (q84 (i := 4) rfl) rfl ?_
    refine r_getR (b := 17) (q84 (i := 5) rfl) rfl (by decide) (k_2 S) (fun _ _ _ => rfl) (r_2_2 S) ?_
    refine r_iload_n (q84 (i := 6) rfl) rfl ?_
    refine r_cV (d := _) (q84 (i := 7) rfl) rfl rfl rfl (k_17 S) (Nat.le_of_ble_eq_true rfl) (Nat.zero_le _) (Nat.zero_le _) R1 ?_
    show Wp _ _ _ 16 [(0, .ref 2), (1, .int (nI w))] [.int 0] h _ _
    refine r_if 21 (q84 (i := 8) rfl) (by decide) (fun _ => ?_) (fun zz => absurd (show (0 : Int32) = 0 from by decide) zz)
    refine r_aload_n (q84 (i := 11) rfl) rfl ?_
    refine r_getR (b := 17) (q84 (i := 12) rfl) rfl (by decide) (k_2 S) (fun _ _ _ => rfl) (r_2_2 S) ?_
    refine r_iload_n (q84 (i := 13) rfl) rfl ?_
    refine r_cV (d := _) (q84 (i := 14) rfl) rfl rfl rfl (k_17 S) (Nat.le_of_ble_eq_true rfl) (Nat.zero_le _) (Nat.zero_le _) R2 ?_
    show Wp _ _ _ 29 [(0, .ref 2), (1, .int (nI w))] [] (addV h w (cntB (nz (zv σ).1) 64) (zv σ).2.2) _ _
    refine r_aload_n (q84 (i := 15) rfl) rfl ?_
    refine r_iconst (v := 0) (q84 (i := 16) rfl) (by decide) ?_
    refine r_putZ (q84 (i := 17) rfl) rfl (by decide) (k_2 S2) rfl rfl (by decide) ?_
    refine r_aload_n (q84 (i := 18) rfl) rfl ?_
    refine r_getR (b := 17) (q84 (i := 19) rfl) rfl (by decide) (k_2 S2) (fun _ _ _ => rfl) (r_2_2 S2) ?_
    refine r_getI (x := nI ((zv σ).2.2 + 1)) (q84 (i := 20) rfl) rfl (by decide) (k_17 S2) (fun _ _ _ => rfl) v4 ?_
    exact r_iret (q84 (i := 21) rfl) rfl hQ
  · rw [if_neg q, if_neg q]
    refine CStep.of (?_ : Run (7 + 1) 84 _ h 0 0 _ h) C (FC.rf h)
    refine Run.of (Nat.le_of_ble_eq_true rfl) (fun Q hQ => ?_)
    show Wp (Ex 7) 84 Q 0 [(0, .ref 2), (1, .int x)] [] h 0 0
    cases wi : isw (zn σ) x with
    | false =>
      rw [wi] at R0
      refine r_aload_n (q84 (i := 0) rfl) rfl ?_
      refine r_iload_n (q84 (i := 1) rfl) rfl ?_
      refine r_cV (d := _) (q84 (i := 2) rfl) rfl rfl rfl (k_2 S) (Nat.le_of_ble_eq_true rfl) (Nat.zero_le _) (Nat.zero_le _) R0 ?_
      show Wp _ _ _ 5 [(0, .ref 2), (1, .int x)] [.int 0] h _ _
      refine r_if 19 (q84 (i := 3) rfl) (by decide) (fun _ => ?_) (fun zz => absurd (show (0 : Int32) = 0 from by decide) zz)
      refine r_iconst (v := (-1)) (q84 (i := 9) rfl) (by decide) ?_
      exact r_iret (q84 (i := 10) rfl) rfl hQ
    | true =>
      rw [wi] at R0
      obtain ⟨w, w1, w2, w3, ew⟩ := isw_t Z.1.2 wi
      have hv : inV (zv σ).1 w = true := by
        cases y : inV (zv σ).1 w with
        | true => rfl
        | false =>
          exfalso
          apply q
          unfold okv
          rw [wi, ew, nI_clamp (by omega), y]
          rfl
      subst ew
      have R1 := sp_has (d := 6) S w2
      rw [V.1, hv] at R1
      refine r_aload_n (q84 (i := 0) rfl) rfl ?_
      refine r_iload_n (q84 (i := 1) rfl) rfl ?_
      refine r_cV (d := _) (q84 (i := 2) rfl) rfl rfl rfl (k_2 S) (Nat.le_of_ble_eq_true rfl) (Nat.zero_le _) (Nat.zero_le _) R0 ?_
      show Wp _ _ _ 5 [(0, .ref 2), (1, .int (nI w))] [.int 1] h _ _
      refine r_if 19 (q84 (i := 3) rfl) (by decide) (fun zz => absurd zz (show ¬ ((1 : Int32) = 0) from by decide)) (fun _ => ?_)
      refine r_aload_n (q84 (i := 4) rfl) rfl ?_
      refine r_getR (b := 17) (q84 (i := 5) rfl) rfl (by decide) (k_2 S) (fun _ _ _ => rfl) (r_2_2 S) ?_
      refine r_iload_n (q84 (i := 6) rfl) rfl ?_
      refine r_cV (d := _) (q84 (i := 7) rfl) rfl rfl rfl (k_17 S) (Nat.le_of_ble_eq_true rfl) (Nat.zero_le _) (Nat.zero_le _) R1 ?_
      show Wp _ _ _ 16 [(0, .ref 2), (1, .int (nI w))] [.int 1] h _ _
      refine r_if 21 (q84 (i := 8) rfl) (by decide) (fun zz => absurd zz (show ¬ ((1 : Int32) = 0) from by decide)) (fun _ => ?_)
      refine r_iconst (v := (-1)) (q84 (i := 9) rfl) (by decide) ?_
      exact r_iret (q84 (i := 10) rfl) rfl hQ
set_option maxHeartbeats 2000000 in
set_option maxRecDepth 10000 in
theorem xs_forget {h : hp} {ρ e : Nat} {σ : st8} (C : CI h ρ e σ) : CStep 85 [.ref 2] h e (nI (zv σ).2.2) (sV σ (v0 (zv σ))) := by
  have S := C.1.1
  have V := C.2.2.2.2.1
  have R1 := sp_empty (d := 5) S
  have S1 : Sh (empV h) := S.to rfl
  refine CStep.of (ρ := ρ) (?_ : Run (7 + 1) 85 _ h 0 0 _ (sI (empV h) 2 11 0)) (C.vec (h' := empV h) rfl (fun k a b c => by
    show u2 (u2 h.1 17 _ _) 17 _ _ k = _
    rw [u2_n a, u2_n a]) (fun k hk => emp_j h hk) (VC_emp V)) ((FC.emp h).tr (FC.w (by decide) _ _))
  refine Run.of (Nat.le_of_ble_eq_true rfl) (fun Q hQ => ?_)
  show Wp (Ex 7) 85 Q 0 [(0, .ref 2)] [] h 0 0
  refine r_aload_n (q85 (i := 0) rfl) rfl ?_
  refine r_getR (b := 17) (q85 (i := 1) rfl) rfl (by decide) (k_2 S) (fun _ _ _ => rfl) (r_2_2 S) ?_
  refine r_getI (x := nI (zv σ).2.2) (q85 (i := 2) rfl) rfl (by decide) (k_17 S) (fun _ _ _ => rfl) V.2.2.1 ?_
  refine r_istore_n (ls' := [(1, .int (nI (zv σ).2.2)), (0, .ref 2)]) (q85 (i := 3) rfl) (Nat.le_of_ble_eq_true rfl) rfl ?_
  refine r_aload_n (q85 (i := 4) rfl) rfl ?_
  refine r_getR (b := 17) (q85 (i := 5) rfl) rfl (by decide) (k_2 S) (fun _ _ _ => rfl) (r_2_2 S) ?_
  refine r_cV (d := _) (q85 (i := 6) rfl) rfl rfl rfl (k_17 S) (Nat.le_of_ble_eq_true rfl) (Nat.zero_le _) (Nat.zero_le _) R1 ?_
  show Wp _ _ _ 15 [(1, .int (nI (zv σ).2.2)), (0, .ref 2)] [] (empV h) _ _
  refine r_aload_n (q85 (i := 7) rfl) rfl ?_
  refine r_iconst (v := 0) (q85 (i := 8) rfl) (by decide) ?_
  refine r_putZ (q85 (i := 9) rfl) rfl (by decide) (k_2 S1) rfl rfl (by decide) ?_
  refine r_iload_n (q85 (i := 10) rfl) rfl ?_
  exact r_iret (q85 (i := 11) rfl) rfl hQ
theorem fgt_ok {σ : st8} (Z : zok σ) : zok (sV σ (v0 (zv σ))) := ⟨Z.1, Z.2.1, Z.2.2.1, vok_0 _, Z.2.2.2.2⟩
def okg (σ : st8) (x : Int32) : Bool := decide (¬ x < 0 ∧ x < nI (zv σ).2.2)
def aGvn (σ : st8) (x : Int32) : Int32 := if okg σ x then (zv σ).2.1 x.toNatClampNeg else -1
theorem vok_le {v : vs} (V : vok v) : v.2.2 ≤ 4096 := by rw [← V]; exact cntB_le _ _
theorem okg_t {σ : st8} {x : Int32} (V : vok (zv σ)) (h : okg σ x = true) : ∃ k, k < (zv σ).2.2 ∧ x = nI k := by
  have h := of_decide_eq_true h
  obtain ⟨w, hw, e⟩ := nI_of h.1
  have := h.2
  rw [e, nI_ltI hw (by have := vok_le V; omega)] at this
  exact ⟨w, this, e⟩
set_option maxHeartbeats 2000000 in
set_option maxRecDepth 10000 in
theorem xs_given {h : hp} {ρ e : Nat} {σ : st8} (C : CI h ρ e σ) (Z : zok σ) (x : Int32) : CStep 86 [.ref 2, .int x] h e (aGvn σ x) σ := by
  have S := C.1.1
  have V := C.2.2.2.2.1
  have hz := vok_le Z.2.2.2.1
  refine CStep.of (?_ : Run (7 + 1) 86 _ h 0 0 _ h) C (FC.rf h)
  refine Run.of (Nat.le_of_ble_eq_true rfl) (fun Q hQ => ?_)
  show Wp (Ex 7) 86 Q 0 [(0, .ref 2), (1, .int x)] [] h 0 0
  unfold aGvn at hQ
  by_cases q : okg σ x = true
  · rw [if_pos q] at hQ
    have hx := of_decide_eq_true q
    obtain ⟨k, hk, ek⟩ := okg_t Z.2.2.2.1 q
    subst ek
    rw [nI_clamp (by omega)] at hQ
    refine r_iload_n (q86 (i := 0) rfl) rfl ?_
    refine r_if 27 (q86 (i := 1) rfl) (by decide) (fun zz => absurd zz (show ¬ (nI k < 0) from hx.1)) (fun _ => ?_)
    refine r_iload_n (q86 (i := 2) rfl) rfl ?_
    refine r_aload_n (q86 (i := 3) rfl) rfl ?_
    refine r_getR (b := 17) (q86 (i := 4) rfl) rfl (by decide) (k_2 S) (fun _ _ _ => rfl) (r_2_2 S) ?_
    refine r_getI (x := nI (zv σ).2.2) (q86 (i := 5) rfl) rfl (by decide) (k_17 S) (fun _ _ _ => rfl) V.2.2.1 ?_
    refine r_icmp 27 (q86 (i := 6) rfl) (by decide) (fun zz => absurd zz (show ¬ (nI (zv σ).2.2 ≤ nI k) from Int32.not_le.mpr hx.2)) (fun _ => ?_)
    refine r_aload_n (q86 (i := 7) rfl) rfl ?_
    refine r_getR (b := 17) (q86 (i := 8) rfl) rfl (by decide) (k_2 S) (fun _ _ _ => rfl) (r_2_2 S) ?_
    refine r_getR (b := 18) (q86 (i := 9) rfl) rfl (by decide) (k_17 S) (fun _ _ _ => rfl) (r_17_0 S) ?_
    refine r_iload_n (q86 (i := 10) rfl) rfl ?_
    refine r_iaN (x := (zv σ).2.1 k) (q86 (i := 11) rfl) (k_18 S) (by omega) (by decide) (congrFun V.2.1 k) ?_
    refine r_goto 28 (q86 (i := 12) rfl) (by decide) ?_
    exact r_iret (q86 (i := 14) rfl) rfl hQ
  · rw [if_neg q] at hQ
    have hx := of_decide_eq_false (Bool.eq_false_iff.mpr q)
    by_cases q1 : x < 0
    · skip
      refine r_iload_n (q86 (i := 0) rfl) rfl ?_
      refine r_if 27 (q86 (i := 1) rfl) (by decide) (fun _ => ?_) (fun zz => absurd (show x < 0 from q1) zz)
      refine r_iconst (v := (-1)) (q86 (i := 13) rfl) (by decide) ?_
      exact r_iret (q86 (i := 14) rfl) rfl hQ
    · have q2 : nI (zv σ).2.2 ≤ x := Int32.not_lt.mp (fun y => hx ⟨q1, y⟩)
      refine r_iload_n (q86 (i := 0) rfl) rfl ?_
      refine r_if 27 (q86 (i := 1) rfl) (by decide) (fun zz => absurd zz (show ¬ (x < 0) from q1)) (fun _ => ?_)
      refine r_iload_n (q86 (i := 2) rfl) rfl ?_
      refine r_aload_n (q86 (i := 3) rfl) rfl ?_
      refine r_getR (b := 17) (q86 (i := 4) rfl) rfl (by decide) (k_2 S) (fun _ _ _ => rfl) (r_2_2 S) ?_
      refine r_getI (x := nI (zv σ).2.2) (q86 (i := 5) rfl) rfl (by decide) (k_17 S) (fun _ _ _ => rfl) V.2.2.1 ?_
      refine r_icmp 27 (q86 (i := 6) rfl) (by decide) (fun _ => ?_) (fun zz => absurd (show nI (zv σ).2.2 ≤ x from q2) zz)
      refine r_iconst (v := (-1)) (q86 (i := 13) rfl) (by decide) ?_
      exact r_iret (q86 (i := 14) rfl) rfl hQ
def aVal (σ : st8) (x s w : Int32) : Int32 := if x = 0 then (if pl s < nI (zn σ + (za σ).2.1) ∧ isw (zn σ) w = true then (if lbit (gW (zG σ)) (sd (zn σ) (z0 σ) s) w.toNatClampNeg then 1 else 0) else -1) else if x = 1 then (if pl s < nI (zn σ + (zb σ).2.1) ∧ isw (zn σ) w = true then (if lbit (gW (zG σ)) (sd (zn σ) (z1 σ) s) w.toNatClampNeg then 1 else 0) else -1) else -1
def aLit (σ : st8) (x s : Int32) : Int32 := if x = 0 then (if pl s < nI (zn σ + (za σ).2.1) then nI (sd (zn σ) (z0 σ) s) else -1) else if x = 1 then (if pl s < nI (zn σ + (zb σ).2.1) then nI (sd (zn σ) (z1 σ) s) else -1) else -1
set_option maxHeartbeats 2000000 in
set_option maxRecDepth 10000 in
theorem xs_value {h : hp} {ρ e : Nat} {σ : st8} (C : CI h ρ e σ) (Z : zok σ) (x s w : Int32) : CStep 83 [.ref 2, .int x, .int s, .int w] h e (aVal σ x s w) σ := by
  have S := C.1.1
  unfold aVal
  by_cases x0 : x = 0
  · rw [if_pos x0]
    subst x0
    have R0 := sp_cat0 (d := 6) S
    have R1 := sp_hasSignal_3 (d := 5) S s
    rw [C.2.2.1.2, C.2.2.1.1.2.1, nI_add] at R1
    have R2 := sp_isw (d := 6) S C.2.1.1 Z.1.2 w
    by_cases q : pl s < nI (zn σ + (za σ).2.1) ∧ isw (zn σ) w = true
    · rw [if_pos q]
      rw [hasS_1 q.1] at R1
      rw [q.2] at R2
      obtain ⟨w', w1, w2, w3, ew⟩ := isw_t Z.1.2 q.2
      subst ew
      rw [nI_clamp (by omega)]
      obtain ⟨h1, ρ1, e1, mc, ms, R3, C1, B1, y, F1⟩ := C.up Z
      have S1 := C1.1.1
      have R4 := zl3 C1 Z B1 (d := 4) q.1
      have R5 := sp_bitOf (d := 5) S1 B1.1 (zlt0 Z q.1) w3 w2
      refine ⟨h1, ρ1, e1, mc, ms, ?_, C1, y, F1.C⟩
      refine Run.of (d := 7) (Nat.le_of_ble_eq_true rfl) (fun Q hQ => ?_)
      show Wp (Ex 7) 83 Q 0 [(0, .ref 2), (1, .int 0), (2, .int s), (3, .int (nI w'))] [] h mc ms
      refine r_aload_n (q83 (i := 0) rfl) rfl ?_
      refine r_iload_n (q83 (i := 1) rfl) rfl ?_
      refine r_cV (d := _) (q83 (i := 2) rfl) rfl rfl rfl (k_2 S) (Nat.le_of_ble_eq_true rfl) (Nat.zero_le _) (Nat.zero_le _) R0 ?_
      show Wp _ _ _ 5 [(0, .ref 2), (1, .int 0), (2, .int s), (3, .int (nI w'))] [.ref 3] h _ _
      refine r_astore (ls' := [(4, .ref 3), (0, .ref 2), (1, .int 0), (2, .int s), (3, .int (nI w'))]) (q83 (i := 3) rfl) (Nat.le_of_ble_eq_true rfl) rfl ?_
      refine r_aload (q83 (i := 4) rfl) rfl ?_
      refine r_ifnull (q83 (i := 5) rfl) (show (0 : Int) ≤ ((9 : Nat) : Int) + (20) by decide) ?_
      refine r_aload (q83 (i := 6) rfl) rfl ?_
      refine r_iload_n (q83 (i := 7) rfl) rfl ?_
      refine r_cV (d := _) (q83 (i := 8) rfl) rfl rfl rfl (k_3 S) (Nat.le_of_ble_eq_true rfl) (Nat.zero_le _) (Nat.zero_le _) R1 ?_
      show Wp _ _ _ 18 [(4, .ref 3), (0, .ref 2), (1, .int 0), (2, .int s), (3, .int (nI w'))] [.int 1] h _ _
      refine r_if 29 (q83 (i := 9) rfl) (by decide) (fun zz => absurd zz (show ¬ ((1 : Int32) = 0) from by decide)) (fun _ => ?_)
      refine r_aload_n (q83 (i := 10) rfl) rfl ?_
      refine r_iload_n (q83 (i := 11) rfl) rfl ?_
      refine r_cV (d := _) (q83 (i := 12) rfl) rfl rfl rfl (k_2 S) (Nat.le_of_ble_eq_true rfl) (Nat.zero_le _) (Nat.zero_le _) R2 ?_
      show Wp _ _ _ 26 [(4, .ref 3), (0, .ref 2), (1, .int 0), (2, .int s), (3, .int (nI w'))] [.int 1] h _ _
      refine r_if 31 (q83 (i := 13) rfl) (by decide) (fun _ => ?_) (fun zz => absurd (show ¬ (1 : Int32) = 0 from by decide) zz)
      refine r_aload_n (q83 (i := 16) rfl) rfl ?_
      refine r_getR (b := 21) (q83 (i := 17) rfl) rfl (by decide) (k_2 S) (fun _ _ _ => rfl) (r_2_3 S) ?_
      refine r_cV (d := _) (q83 (i := 18) rfl) rfl rfl rfl (k_21 S) (Nat.le_of_ble_eq_true rfl) (Nat.le_refl _) (Nat.le_refl _) R3 ?_
      show Wp _ _ _ 38 [(4, .ref 3), (0, .ref 2), (1, .int 0), (2, .int s), (3, .int (nI w'))] [] h1 _ _
      refine r_aload_n (q83 (i := 19) rfl) rfl ?_
      refine r_getR (b := 21) (q83 (i := 20) rfl) rfl (by decide) (k_2 S1) (fun _ _ _ => rfl) (r_2_3 S1) ?_
      refine r_aload (q83 (i := 21) rfl) rfl ?_
      refine r_iload_n (q83 (i := 22) rfl) rfl ?_
      refine r_cV (d := _) (q83 (i := 23) rfl) rfl rfl rfl (k_3 S1) (Nat.le_of_ble_eq_true rfl) (Nat.zero_le _) (Nat.zero_le _) R4 ?_
      show Wp _ _ _ 48 [(4, .ref 3), (0, .ref 2), (1, .int 0), (2, .int s), (3, .int (nI w'))] [.int (nI (sd (zn σ) (z0 σ) s)), .ref 21] h1 _ _
      refine r_iload_n (q83 (i := 24) rfl) rfl ?_
      refine r_cV (d := _) (q83 (i := 25) rfl) rfl rfl rfl (k_21 S1) (Nat.le_of_ble_eq_true rfl) (Nat.zero_le _) (Nat.zero_le _) R5 ?_
      show Wp _ _ _ 52 [(4, .ref 3), (0, .ref 2), (1, .int 0), (2, .int s), (3, .int (nI w'))] [.int (if lbit (gW (zG σ)) (sd (zn σ) (z0 σ) s) w' then 1 else 0)] h1 _ _
      exact r_iret (q83 (i := 26) rfl) rfl hQ
    · rw [if_neg q]
      refine CStep.of (?_ : Run (7 + 1) 83 _ h 0 0 _ h) C (FC.rf h)
      refine Run.of (Nat.le_of_ble_eq_true rfl) (fun Q hQ => ?_)
      show Wp (Ex 7) 83 Q 0 [(0, .ref 2), (1, .int 0), (2, .int s), (3, .int w)] [] h 0 0
      by_cases q1 : pl s < nI (zn σ + (za σ).2.1)
      · rw [hasS_1 q1] at R1
        rw [if_neg (fun y => q ⟨q1, y⟩)] at R2
        refine r_aload_n (q83 (i := 0) rfl) rfl ?_
        refine r_iload_n (q83 (i := 1) rfl) rfl ?_
        refine r_cV (d := _) (q83 (i := 2) rfl) rfl rfl rfl (k_2 S) (Nat.le_of_ble_eq_true rfl) (Nat.zero_le _) (Nat.zero_le _) R0 ?_
        show Wp _ _ _ 5 [(0, .ref 2), (1, .int 0), (2, .int s), (3, .int w)] [.ref 3] h _ _
        refine r_astore (ls' := [(4, .ref 3), (0, .ref 2), (1, .int 0), (2, .int s), (3, .int w)]) (q83 (i := 3) rfl) (Nat.le_of_ble_eq_true rfl) rfl ?_
        refine r_aload (q83 (i := 4) rfl) rfl ?_
        refine r_ifnull (q83 (i := 5) rfl) (show (0 : Int) ≤ ((9 : Nat) : Int) + (20) by decide) ?_
        refine r_aload (q83 (i := 6) rfl) rfl ?_
        refine r_iload_n (q83 (i := 7) rfl) rfl ?_
        refine r_cV (d := _) (q83 (i := 8) rfl) rfl rfl rfl (k_3 S) (Nat.le_of_ble_eq_true rfl) (Nat.zero_le _) (Nat.zero_le _) R1 ?_
        show Wp _ _ _ 18 [(4, .ref 3), (0, .ref 2), (1, .int 0), (2, .int s), (3, .int w)] [.int 1] h _ _
        refine r_if 29 (q83 (i := 9) rfl) (by decide) (fun zz => absurd zz (show ¬ ((1 : Int32) = 0) from by decide)) (fun _ => ?_)
        refine r_aload_n (q83 (i := 10) rfl) rfl ?_
        refine r_iload_n (q83 (i := 11) rfl) rfl ?_
        refine r_cV (d := _) (q83 (i := 12) rfl) rfl rfl rfl (k_2 S) (Nat.le_of_ble_eq_true rfl) (Nat.zero_le _) (Nat.zero_le _) R2 ?_
        show Wp _ _ _ 26 [(4, .ref 3), (0, .ref 2), (1, .int 0), (2, .int s), (3, .int w)] [.int 0] h _ _
        refine r_if 31 (q83 (i := 13) rfl) (by decide) (fun zz => absurd zz (show ¬ (¬ (0 : Int32) = 0) from by decide)) (fun _ => ?_)
        refine r_iconst (v := (-1)) (q83 (i := 14) rfl) (by decide) ?_
        exact r_iret (q83 (i := 15) rfl) rfl hQ
      · rw [hasS_0 q1] at R1
        refine r_aload_n (q83 (i := 0) rfl) rfl ?_
        refine r_iload_n (q83 (i := 1) rfl) rfl ?_
        refine r_cV (d := _) (q83 (i := 2) rfl) rfl rfl rfl (k_2 S) (Nat.le_of_ble_eq_true rfl) (Nat.zero_le _) (Nat.zero_le _) R0 ?_
        show Wp _ _ _ 5 [(0, .ref 2), (1, .int 0), (2, .int s), (3, .int w)] [.ref 3] h _ _
        refine r_astore (ls' := [(4, .ref 3), (0, .ref 2), (1, .int 0), (2, .int s), (3, .int w)]) (q83 (i := 3) rfl) (Nat.le_of_ble_eq_true rfl) rfl ?_
        refine r_aload (q83 (i := 4) rfl) rfl ?_
        refine r_ifnull (q83 (i := 5) rfl) (show (0 : Int) ≤ ((9 : Nat) : Int) + (20) by decide) ?_
        refine r_aload (q83 (i := 6) rfl) rfl ?_
        refine r_iload_n (q83 (i := 7) rfl) rfl ?_
        refine r_cV (d := _) (q83 (i := 8) rfl) rfl rfl rfl (k_3 S) (Nat.le_of_ble_eq_true rfl) (Nat.zero_le _) (Nat.zero_le _) R1 ?_
        show Wp _ _ _ 18 [(4, .ref 3), (0, .ref 2), (1, .int 0), (2, .int s), (3, .int w)] [.int 0] h _ _
        refine r_if 29 (q83 (i := 9) rfl) (by decide) (fun _ => ?_) (fun zz => absurd (show (0 : Int32) = 0 from by decide) zz)
        refine r_iconst (v := (-1)) (q83 (i := 14) rfl) (by decide) ?_
        exact r_iret (q83 (i := 15) rfl) rfl hQ
  · rw [if_neg x0]
    by_cases x1 : x = 1
    · rw [if_pos x1]
      subst x1
      have R0 := sp_cat1 (d := 6) S
      have R1 := sp_hasSignal_10 (d := 5) S s
      rw [C.2.2.2.1.2, C.2.2.2.1.1.2.1, nI_add] at R1
      have R2 := sp_isw (d := 6) S C.2.1.1 Z.1.2 w
      by_cases q : pl s < nI (zn σ + (zb σ).2.1) ∧ isw (zn σ) w = true
      · rw [if_pos q]
        rw [hasS_1 q.1] at R1
        rw [q.2] at R2
        obtain ⟨w', w1, w2, w3, ew⟩ := isw_t Z.1.2 q.2
        subst ew
        rw [nI_clamp (by omega)]
        obtain ⟨h1, ρ1, e1, mc, ms, R3, C1, B1, y, F1⟩ := C.up Z
        have S1 := C1.1.1
        have R4 := zl10 C1 Z B1 (d := 4) q.1
        have R5 := sp_bitOf (d := 5) S1 B1.1 (zlt1 Z q.1) w3 w2
        refine ⟨h1, ρ1, e1, mc, ms, ?_, C1, y, F1.C⟩
        refine Run.of (d := 7) (Nat.le_of_ble_eq_true rfl) (fun Q hQ => ?_)
        show Wp (Ex 7) 83 Q 0 [(0, .ref 2), (1, .int 1), (2, .int s), (3, .int (nI w'))] [] h mc ms
        refine r_aload_n (q83 (i := 0) rfl) rfl ?_
        refine r_iload_n (q83 (i := 1) rfl) rfl ?_
        refine r_cV (d := _) (q83 (i := 2) rfl) rfl rfl rfl (k_2 S) (Nat.le_of_ble_eq_true rfl) (Nat.zero_le _) (Nat.zero_le _) R0 ?_
        show Wp _ _ _ 5 [(0, .ref 2), (1, .int 1), (2, .int s), (3, .int (nI w'))] [.ref 10] h _ _
        refine r_astore (ls' := [(4, .ref 10), (0, .ref 2), (1, .int 1), (2, .int s), (3, .int (nI w'))]) (q83 (i := 3) rfl) (Nat.le_of_ble_eq_true rfl) rfl ?_
        refine r_aload (q83 (i := 4) rfl) rfl ?_
        refine r_ifnull (q83 (i := 5) rfl) (show (0 : Int) ≤ ((9 : Nat) : Int) + (20) by decide) ?_
        refine r_aload (q83 (i := 6) rfl) rfl ?_
        refine r_iload_n (q83 (i := 7) rfl) rfl ?_
        refine r_cV (d := _) (q83 (i := 8) rfl) rfl rfl rfl (k_10 S) (Nat.le_of_ble_eq_true rfl) (Nat.zero_le _) (Nat.zero_le _) R1 ?_
        show Wp _ _ _ 18 [(4, .ref 10), (0, .ref 2), (1, .int 1), (2, .int s), (3, .int (nI w'))] [.int 1] h _ _
        refine r_if 29 (q83 (i := 9) rfl) (by decide) (fun zz => absurd zz (show ¬ ((1 : Int32) = 0) from by decide)) (fun _ => ?_)
        refine r_aload_n (q83 (i := 10) rfl) rfl ?_
        refine r_iload_n (q83 (i := 11) rfl) rfl ?_
        refine r_cV (d := _) (q83 (i := 12) rfl) rfl rfl rfl (k_2 S) (Nat.le_of_ble_eq_true rfl) (Nat.zero_le _) (Nat.zero_le _) R2 ?_
        show Wp _ _ _ 26 [(4, .ref 10), (0, .ref 2), (1, .int 1), (2, .int s), (3, .int (nI w'))] [.int 1] h _ _
        refine r_if 31 (q83 (i := 13) rfl) (by decide) (fun _ => ?_) (fun zz => absurd (show ¬ (1 : Int32) = 0 from by decide) zz)
        refine r_aload_n (q83 (i := 16) rfl) rfl ?_
        refine r_getR (b := 21) (q83 (i := 17) rfl) rfl (by decide) (k_2 S) (fun _ _ _ => rfl) (r_2_3 S) ?_
        refine r_cV (d := _) (q83 (i := 18) rfl) rfl rfl rfl (k_21 S) (Nat.le_of_ble_eq_true rfl) (Nat.le_refl _) (Nat.le_refl _) R3 ?_
        show Wp _ _ _ 38 [(4, .ref 10), (0, .ref 2), (1, .int 1), (2, .int s), (3, .int (nI w'))] [] h1 _ _
        refine r_aload_n (q83 (i := 19) rfl) rfl ?_
        refine r_getR (b := 21) (q83 (i := 20) rfl) rfl (by decide) (k_2 S1) (fun _ _ _ => rfl) (r_2_3 S1) ?_
        refine r_aload (q83 (i := 21) rfl) rfl ?_
        refine r_iload_n (q83 (i := 22) rfl) rfl ?_
        refine r_cV (d := _) (q83 (i := 23) rfl) rfl rfl rfl (k_10 S1) (Nat.le_of_ble_eq_true rfl) (Nat.zero_le _) (Nat.zero_le _) R4 ?_
        show Wp _ _ _ 48 [(4, .ref 10), (0, .ref 2), (1, .int 1), (2, .int s), (3, .int (nI w'))] [.int (nI (sd (zn σ) (z1 σ) s)), .ref 21] h1 _ _
        refine r_iload_n (q83 (i := 24) rfl) rfl ?_
        refine r_cV (d := _) (q83 (i := 25) rfl) rfl rfl rfl (k_21 S1) (Nat.le_of_ble_eq_true rfl) (Nat.zero_le _) (Nat.zero_le _) R5 ?_
        show Wp _ _ _ 52 [(4, .ref 10), (0, .ref 2), (1, .int 1), (2, .int s), (3, .int (nI w'))] [.int (if lbit (gW (zG σ)) (sd (zn σ) (z1 σ) s) w' then 1 else 0)] h1 _ _
        exact r_iret (q83 (i := 26) rfl) rfl hQ
      · rw [if_neg q]
        refine CStep.of (?_ : Run (7 + 1) 83 _ h 0 0 _ h) C (FC.rf h)
        refine Run.of (Nat.le_of_ble_eq_true rfl) (fun Q hQ => ?_)
        show Wp (Ex 7) 83 Q 0 [(0, .ref 2), (1, .int 1), (2, .int s), (3, .int w)] [] h 0 0
        by_cases q1 : pl s < nI (zn σ + (zb σ).2.1)
        · rw [hasS_1 q1] at R1
          rw [if_neg (fun y => q ⟨q1, y⟩)] at R2
          refine r_aload_n (q83 (i := 0) rfl) rfl ?_
          refine r_iload_n (q83 (i := 1) rfl) rfl ?_
          refine r_cV (d := _) (q83 (i := 2) rfl) rfl rfl rfl (k_2 S) (Nat.le_of_ble_eq_true rfl) (Nat.zero_le _) (Nat.zero_le _) R0 ?_
          show Wp _ _ _ 5 [(0, .ref 2), (1, .int 1), (2, .int s), (3, .int w)] [.ref 10] h _ _
          refine r_astore (ls' := [(4, .ref 10), (0, .ref 2), (1, .int 1), (2, .int s), (3, .int w)]) (q83 (i := 3) rfl) (Nat.le_of_ble_eq_true rfl) rfl ?_
          refine r_aload (q83 (i := 4) rfl) rfl ?_
          refine r_ifnull (q83 (i := 5) rfl) (show (0 : Int) ≤ ((9 : Nat) : Int) + (20) by decide) ?_
          refine r_aload (q83 (i := 6) rfl) rfl ?_
          refine r_iload_n (q83 (i := 7) rfl) rfl ?_
          refine r_cV (d := _) (q83 (i := 8) rfl) rfl rfl rfl (k_10 S) (Nat.le_of_ble_eq_true rfl) (Nat.zero_le _) (Nat.zero_le _) R1 ?_
          show Wp _ _ _ 18 [(4, .ref 10), (0, .ref 2), (1, .int 1), (2, .int s), (3, .int w)] [.int 1] h _ _
          refine r_if 29 (q83 (i := 9) rfl) (by decide) (fun zz => absurd zz (show ¬ ((1 : Int32) = 0) from by decide)) (fun _ => ?_)
          refine r_aload_n (q83 (i := 10) rfl) rfl ?_
          refine r_iload_n (q83 (i := 11) rfl) rfl ?_
          refine r_cV (d := _) (q83 (i := 12) rfl) rfl rfl rfl (k_2 S) (Nat.le_of_ble_eq_true rfl) (Nat.zero_le _) (Nat.zero_le _) R2 ?_
          show Wp _ _ _ 26 [(4, .ref 10), (0, .ref 2), (1, .int 1), (2, .int s), (3, .int w)] [.int 0] h _ _
          refine r_if 31 (q83 (i := 13) rfl) (by decide) (fun zz => absurd zz (show ¬ (¬ (0 : Int32) = 0) from by decide)) (fun _ => ?_)
          refine r_iconst (v := (-1)) (q83 (i := 14) rfl) (by decide) ?_
          exact r_iret (q83 (i := 15) rfl) rfl hQ
        · rw [hasS_0 q1] at R1
          refine r_aload_n (q83 (i := 0) rfl) rfl ?_
          refine r_iload_n (q83 (i := 1) rfl) rfl ?_
          refine r_cV (d := _) (q83 (i := 2) rfl) rfl rfl rfl (k_2 S) (Nat.le_of_ble_eq_true rfl) (Nat.zero_le _) (Nat.zero_le _) R0 ?_
          show Wp _ _ _ 5 [(0, .ref 2), (1, .int 1), (2, .int s), (3, .int w)] [.ref 10] h _ _
          refine r_astore (ls' := [(4, .ref 10), (0, .ref 2), (1, .int 1), (2, .int s), (3, .int w)]) (q83 (i := 3) rfl) (Nat.le_of_ble_eq_true rfl) rfl ?_
          refine r_aload (q83 (i := 4) rfl) rfl ?_
          refine r_ifnull (q83 (i := 5) rfl) (show (0 : Int) ≤ ((9 : Nat) : Int) + (20) by decide) ?_
          refine r_aload (q83 (i := 6) rfl) rfl ?_
          refine r_iload_n (q83 (i := 7) rfl) rfl ?_
          refine r_cV (d := _) (q83 (i := 8) rfl) rfl rfl rfl (k_10 S) (Nat.le_of_ble_eq_true rfl) (Nat.zero_le _) (Nat.zero_le _) R1 ?_
          show Wp _ _ _ 18 [(4, .ref 10), (0, .ref 2), (1, .int 1), (2, .int s), (3, .int w)] [.int 0] h _ _
          refine r_if 29 (q83 (i := 9) rfl) (by decide) (fun _ => ?_) (fun zz => absurd (show (0 : Int32) = 0 from by decide) zz)
          refine r_iconst (v := (-1)) (q83 (i := 14) rfl) (by decide) ?_
          exact r_iret (q83 (i := 15) rfl) rfl hQ
    · rw [if_neg x1]
      refine CStep.of (?_ : Run (7 + 1) 83 _ h 0 0 _ h) C (FC.rf h)
      have R0 := sp_catN (d := 6) (h := h) x0 x1
      refine Run.of (Nat.le_of_ble_eq_true rfl) (fun Q hQ => ?_)
      show Wp (Ex 7) 83 Q 0 [(0, .ref 2), (1, .int x), (2, .int s), (3, .int w)] [] h 0 0
      refine r_aload_n (q83 (i := 0) rfl) rfl ?_
      refine r_iload_n (q83 (i := 1) rfl) rfl ?_
      refine r_cV (d := _) (q83 (i := 2) rfl) rfl rfl rfl (k_2 S) (Nat.le_of_ble_eq_true rfl) (Nat.zero_le _) (Nat.zero_le _) R0 ?_
      show Wp _ _ _ 5 [(0, .ref 2), (1, .int x), (2, .int s), (3, .int w)] [.null] h _ _
      refine r_astoreN (ls' := [(4, .null), (0, .ref 2), (1, .int x), (2, .int s), (3, .int w)]) (q83 (i := 3) rfl) (Nat.le_of_ble_eq_true rfl) rfl ?_
      refine r_aloadN (q83 (i := 4) rfl) rfl ?_
      refine r_ifnullN 29 (q83 (i := 5) rfl) (by decide) ?_
      refine r_iconst (v := (-1)) (q83 (i := 14) rfl) (by decide) ?_
      exact r_iret (q83 (i := 15) rfl) rfl hQ
set_option maxHeartbeats 2000000 in
set_option maxRecDepth 10000 in
theorem xs_literal {h : hp} {ρ e : Nat} {σ : st8} (C : CI h ρ e σ) (Z : zok σ) (x s : Int32) : CStep 89 [.ref 2, .int x, .int s] h e (aLit σ x s) σ := by
  have S := C.1.1
  unfold aLit
  by_cases x0 : x = 0
  · rw [if_pos x0]
    subst x0
    have R0 := sp_cat0 (d := 6) S
    have R1 := sp_hasSignal_3 (d := 5) S s
    rw [C.2.2.1.2, C.2.2.1.1.2.1, nI_add] at R1
    by_cases q : pl s < nI (zn σ + (za σ).2.1)
    · rw [if_pos q]
      rw [hasS_1 q] at R1
      obtain ⟨h1, ρ1, e1, mc, ms, R3, C1, B1, y, F1⟩ := C.up Z
      have S1 := C1.1.1
      have R4 := zl3 C1 Z B1 (d := 4) q
      refine ⟨h1, ρ1, e1, mc, ms, ?_, C1, y, F1.C⟩
      refine Run.of (d := 7) (Nat.le_of_ble_eq_true rfl) (fun Q hQ => ?_)
      show Wp (Ex 7) 89 Q 0 [(0, .ref 2), (1, .int 0), (2, .int s)] [] h mc ms
      refine r_aload_n (q89 (i := 0) rfl) rfl ?_
      refine r_iload_n (q89 (i := 1) rfl) rfl ?_
      refine r_cV (d := _) (q89 (i := 2) rfl) rfl rfl rfl (k_2 S) (Nat.le_of_ble_eq_true rfl) (Nat.zero_le _) (Nat.zero_le _) R0 ?_
      show Wp _ _ _ 5 [(0, .ref 2), (1, .int 0), (2, .int s)] [.ref 3] h _ _
      refine r_astore_n (ls' := [(3, .ref 3), (0, .ref 2), (1, .int 0), (2, .int s)]) (q89 (i := 3) rfl) (Nat.le_of_ble_eq_true rfl) rfl ?_
      refine r_aload_n (q89 (i := 4) rfl) rfl ?_
      refine r_ifnull (q89 (i := 5) rfl) (show (0 : Int) ≤ ((7 : Nat) : Int) + (11) by decide) ?_
      refine r_aload_n (q89 (i := 6) rfl) rfl ?_
      refine r_iload_n (q89 (i := 7) rfl) rfl ?_
      refine r_cV (d := _) (q89 (i := 8) rfl) rfl rfl rfl (k_3 S) (Nat.le_of_ble_eq_true rfl) (Nat.zero_le _) (Nat.zero_le _) R1 ?_
      show Wp _ _ _ 15 [(3, .ref 3), (0, .ref 2), (1, .int 0), (2, .int s)] [.int 1] h _ _
      refine r_if 20 (q89 (i := 9) rfl) (by decide) (fun _ => ?_) (fun zz => absurd (show ¬ (1 : Int32) = 0 from by decide) zz)
      refine r_aload_n (q89 (i := 12) rfl) rfl ?_
      refine r_getR (b := 21) (q89 (i := 13) rfl) rfl (by decide) (k_2 S) (fun _ _ _ => rfl) (r_2_3 S) ?_
      refine r_cV (d := _) (q89 (i := 14) rfl) rfl rfl rfl (k_21 S) (Nat.le_of_ble_eq_true rfl) (Nat.le_refl _) (Nat.le_refl _) R3 ?_
      show Wp _ _ _ 27 [(3, .ref 3), (0, .ref 2), (1, .int 0), (2, .int s)] [] h1 _ _
      refine r_aload_n (q89 (i := 15) rfl) rfl ?_
      refine r_iload_n (q89 (i := 16) rfl) rfl ?_
      refine r_cV (d := _) (q89 (i := 17) rfl) rfl rfl rfl (k_3 S1) (Nat.le_of_ble_eq_true rfl) (Nat.zero_le _) (Nat.zero_le _) R4 ?_
      show Wp _ _ _ 32 [(3, .ref 3), (0, .ref 2), (1, .int 0), (2, .int s)] [.int (nI (sd (zn σ) (z0 σ) s))] h1 _ _
      exact r_iret (q89 (i := 18) rfl) rfl hQ
    · rw [if_neg q]
      rw [hasS_0 q] at R1
      refine CStep.of (?_ : Run (7 + 1) 89 _ h 0 0 _ h) C (FC.rf h)
      refine Run.of (Nat.le_of_ble_eq_true rfl) (fun Q hQ => ?_)
      show Wp (Ex 7) 89 Q 0 [(0, .ref 2), (1, .int 0), (2, .int s)] [] h 0 0
      refine r_aload_n (q89 (i := 0) rfl) rfl ?_
      refine r_iload_n (q89 (i := 1) rfl) rfl ?_
      refine r_cV (d := _) (q89 (i := 2) rfl) rfl rfl rfl (k_2 S) (Nat.le_of_ble_eq_true rfl) (Nat.zero_le _) (Nat.zero_le _) R0 ?_
      show Wp _ _ _ 5 [(0, .ref 2), (1, .int 0), (2, .int s)] [.ref 3] h _ _
      refine r_astore_n (ls' := [(3, .ref 3), (0, .ref 2), (1, .int 0), (2, .int s)]) (q89 (i := 3) rfl) (Nat.le_of_ble_eq_true rfl) rfl ?_
      refine r_aload_n (q89 (i := 4) rfl) rfl ?_
      refine r_ifnull (q89 (i := 5) rfl) (show (0 : Int) ≤ ((7 : Nat) : Int) + (11) by decide) ?_
      refine r_aload_n (q89 (i := 6) rfl) rfl ?_
      refine r_iload_n (q89 (i := 7) rfl) rfl ?_
      refine r_cV (d := _) (q89 (i := 8) rfl) rfl rfl rfl (k_3 S) (Nat.le_of_ble_eq_true rfl) (Nat.zero_le _) (Nat.zero_le _) R1 ?_
      show Wp _ _ _ 15 [(3, .ref 3), (0, .ref 2), (1, .int 0), (2, .int s)] [.int 0] h _ _
      refine r_if 20 (q89 (i := 9) rfl) (by decide) (fun zz => absurd zz (show ¬ (¬ (0 : Int32) = 0) from by decide)) (fun _ => ?_)
      refine r_iconst (v := (-1)) (q89 (i := 10) rfl) (by decide) ?_
      exact r_iret (q89 (i := 11) rfl) rfl hQ
  · rw [if_neg x0]
    by_cases x1 : x = 1
    · rw [if_pos x1]
      subst x1
      have R0 := sp_cat1 (d := 6) S
      have R1 := sp_hasSignal_10 (d := 5) S s
      rw [C.2.2.2.1.2, C.2.2.2.1.1.2.1, nI_add] at R1
      by_cases q : pl s < nI (zn σ + (zb σ).2.1)
      · rw [if_pos q]
        rw [hasS_1 q] at R1
        obtain ⟨h1, ρ1, e1, mc, ms, R3, C1, B1, y, F1⟩ := C.up Z
        have S1 := C1.1.1
        have R4 := zl10 C1 Z B1 (d := 4) q
        refine ⟨h1, ρ1, e1, mc, ms, ?_, C1, y, F1.C⟩
        refine Run.of (d := 7) (Nat.le_of_ble_eq_true rfl) (fun Q hQ => ?_)
        show Wp (Ex 7) 89 Q 0 [(0, .ref 2), (1, .int 1), (2, .int s)] [] h mc ms
        refine r_aload_n (q89 (i := 0) rfl) rfl ?_
        refine r_iload_n (q89 (i := 1) rfl) rfl ?_
        refine r_cV (d := _) (q89 (i := 2) rfl) rfl rfl rfl (k_2 S) (Nat.le_of_ble_eq_true rfl) (Nat.zero_le _) (Nat.zero_le _) R0 ?_
        show Wp _ _ _ 5 [(0, .ref 2), (1, .int 1), (2, .int s)] [.ref 10] h _ _
        refine r_astore_n (ls' := [(3, .ref 10), (0, .ref 2), (1, .int 1), (2, .int s)]) (q89 (i := 3) rfl) (Nat.le_of_ble_eq_true rfl) rfl ?_
        refine r_aload_n (q89 (i := 4) rfl) rfl ?_
        refine r_ifnull (q89 (i := 5) rfl) (show (0 : Int) ≤ ((7 : Nat) : Int) + (11) by decide) ?_
        refine r_aload_n (q89 (i := 6) rfl) rfl ?_
        refine r_iload_n (q89 (i := 7) rfl) rfl ?_
        refine r_cV (d := _) (q89 (i := 8) rfl) rfl rfl rfl (k_10 S) (Nat.le_of_ble_eq_true rfl) (Nat.zero_le _) (Nat.zero_le _) R1 ?_
        show Wp _ _ _ 15 [(3, .ref 10), (0, .ref 2), (1, .int 1), (2, .int s)] [.int 1] h _ _
        refine r_if 20 (q89 (i := 9) rfl) (by decide) (fun _ => ?_) (fun zz => absurd (show ¬ (1 : Int32) = 0 from by decide) zz)
        refine r_aload_n (q89 (i := 12) rfl) rfl ?_
        refine r_getR (b := 21) (q89 (i := 13) rfl) rfl (by decide) (k_2 S) (fun _ _ _ => rfl) (r_2_3 S) ?_
        refine r_cV (d := _) (q89 (i := 14) rfl) rfl rfl rfl (k_21 S) (Nat.le_of_ble_eq_true rfl) (Nat.le_refl _) (Nat.le_refl _) R3 ?_
        show Wp _ _ _ 27 [(3, .ref 10), (0, .ref 2), (1, .int 1), (2, .int s)] [] h1 _ _
        refine r_aload_n (q89 (i := 15) rfl) rfl ?_
        refine r_iload_n (q89 (i := 16) rfl) rfl ?_
        refine r_cV (d := _) (q89 (i := 17) rfl) rfl rfl rfl (k_10 S1) (Nat.le_of_ble_eq_true rfl) (Nat.zero_le _) (Nat.zero_le _) R4 ?_
        show Wp _ _ _ 32 [(3, .ref 10), (0, .ref 2), (1, .int 1), (2, .int s)] [.int (nI (sd (zn σ) (z1 σ) s))] h1 _ _
        exact r_iret (q89 (i := 18) rfl) rfl hQ
      · rw [if_neg q]
        rw [hasS_0 q] at R1
        refine CStep.of (?_ : Run (7 + 1) 89 _ h 0 0 _ h) C (FC.rf h)
        refine Run.of (Nat.le_of_ble_eq_true rfl) (fun Q hQ => ?_)
        show Wp (Ex 7) 89 Q 0 [(0, .ref 2), (1, .int 1), (2, .int s)] [] h 0 0
        refine r_aload_n (q89 (i := 0) rfl) rfl ?_
        refine r_iload_n (q89 (i := 1) rfl) rfl ?_
        refine r_cV (d := _) (q89 (i := 2) rfl) rfl rfl rfl (k_2 S) (Nat.le_of_ble_eq_true rfl) (Nat.zero_le _) (Nat.zero_le _) R0 ?_
        show Wp _ _ _ 5 [(0, .ref 2), (1, .int 1), (2, .int s)] [.ref 10] h _ _
        refine r_astore_n (ls' := [(3, .ref 10), (0, .ref 2), (1, .int 1), (2, .int s)]) (q89 (i := 3) rfl) (Nat.le_of_ble_eq_true rfl) rfl ?_
        refine r_aload_n (q89 (i := 4) rfl) rfl ?_
        refine r_ifnull (q89 (i := 5) rfl) (show (0 : Int) ≤ ((7 : Nat) : Int) + (11) by decide) ?_
        refine r_aload_n (q89 (i := 6) rfl) rfl ?_
        refine r_iload_n (q89 (i := 7) rfl) rfl ?_
        refine r_cV (d := _) (q89 (i := 8) rfl) rfl rfl rfl (k_10 S) (Nat.le_of_ble_eq_true rfl) (Nat.zero_le _) (Nat.zero_le _) R1 ?_
        show Wp _ _ _ 15 [(3, .ref 10), (0, .ref 2), (1, .int 1), (2, .int s)] [.int 0] h _ _
        refine r_if 20 (q89 (i := 9) rfl) (by decide) (fun zz => absurd zz (show ¬ (¬ (0 : Int32) = 0) from by decide)) (fun _ => ?_)
        refine r_iconst (v := (-1)) (q89 (i := 10) rfl) (by decide) ?_
        exact r_iret (q89 (i := 11) rfl) rfl hQ
    · rw [if_neg x1]
      refine CStep.of (?_ : Run (7 + 1) 89 _ h 0 0 _ h) C (FC.rf h)
      have R0 := sp_catN (d := 6) (h := h) x0 x1
      refine Run.of (Nat.le_of_ble_eq_true rfl) (fun Q hQ => ?_)
      show Wp (Ex 7) 89 Q 0 [(0, .ref 2), (1, .int x), (2, .int s)] [] h 0 0
      refine r_aload_n (q89 (i := 0) rfl) rfl ?_
      refine r_iload_n (q89 (i := 1) rfl) rfl ?_
      refine r_cV (d := _) (q89 (i := 2) rfl) rfl rfl rfl (k_2 S) (Nat.le_of_ble_eq_true rfl) (Nat.zero_le _) (Nat.zero_le _) R0 ?_
      show Wp _ _ _ 5 [(0, .ref 2), (1, .int x), (2, .int s)] [.null] h _ _
      refine r_astore_nN (ls' := [(3, .null), (0, .ref 2), (1, .int x), (2, .int s)]) (q89 (i := 3) rfl) (Nat.le_of_ble_eq_true rfl) rfl ?_
      refine r_aload_nN (q89 (i := 4) rfl) rfl ?_
      refine r_ifnullN 18 (q89 (i := 5) rfl) (by decide) ?_
      refine r_iconst (v := (-1)) (q89 (i := 10) rfl) (by decide) ?_
      exact r_iret (q89 (i := 11) rfl) rfl hQ
