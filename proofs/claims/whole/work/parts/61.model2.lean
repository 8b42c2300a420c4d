set_option maxHeartbeats 2000000 in
set_option maxRecDepth 10000 in
theorem sp_mput {d : Nat} {h : hp} (S : Sh h) {z : Nat} (hz : hI h 47 25 = nI z) (hz1 : z + 4 ≤ 3000) (v : Int32) : Run (d + 1) 114 [.ref 47, .int v] h 0 0 none (put4 h 1074 47 25 z v) := by
  refine Run.of (Nat.le_of_ble_eq_true rfl) (fun Q hQ => ?_)
  show Wp (Ex (d)) 114 Q 0 [(0, .ref 47), (1, .int v)] [] h 0 0
  refine r_bipush (v := 24) (q114 (i := 0) rfl) (by decide) ?_
  refine r_istore_n (ls' := [(2, .int 24), (0, .ref 47), (1, .int v)]) (q114 (i := 1) rfl) (Nat.le_of_ble_eq_true rfl) rfl ?_
  refine r_iload_n (q114 (i := 2) rfl) rfl ?_
  refine r_if 36 (q114 (i := 3) rfl) (by decide) (fun zz => absurd zz (show ¬ ((24 : Int32) < 0) from by decide)) (fun _ => ?_)
  refine r_aload_n (q114 (i := 4) rfl) rfl ?_
  refine r_getR (b := 1074) (q114 (i := 5) rfl) rfl (by decide) (k_47 S) (fun _ _ _ => rfl) (r_47_24 S) ?_
  refine r_aload_n (q114 (i := 6) rfl) rfl ?_
  refine r_getI (x := nI z) (q114 (i := 7) rfl) rfl (by decide) (k_47 S) (fun _ _ _ => rfl) hz ?_
  refine r_iload_n (q114 (i := 8) rfl) rfl ?_
  refine r_iload_n (q114 (i := 9) rfl) rfl ?_
  refine r_ishr (q114 (i := 10) rfl) ?_
  refine r_i2b (q114 (i := 11) rfl) ?_
  rw [show ((v >>> (24 &&& 31)).toInt8.toInt32 : Int32) = byt v 24 from rfl]
  refine r_basN (y := byt v 24) (q114 (i := 12) rfl) (k_1074 S) (by omega) (by decide) (byt_nar v 24) ?_
  refine r_aload_n (q114 (i := 13) rfl) rfl ?_
  refine r_dup (q114 (i := 14) rfl) rfl ?_
  refine r_getI (x := nI z) (q114 (i := 15) rfl) rfl (by decide) (k_47 S) (fun _ _ _ => rfl) hz ?_
  refine r_iconst (v := 1) (q114 (i := 16) rfl) (by decide) ?_
  refine r_iadd (q114 (i := 17) rfl) ?_
  rw [show ((nI z) + 1 : Int32) = nI (z + 1) from nI_1 (z)]
  refine r_putI (q114 (i := 18) rfl) rfl (by decide) (k_47 S) rfl rfl ?_
  refine r_iinc (y := 16) (ls' := [(2, .int 16), (0, .ref 47), (1, .int v)]) (q114 (i := 19) rfl) (Nat.le_of_ble_eq_true rfl) rfl (by decide) rfl ?_
  refine r_goto 3 (q114 (i := 20) rfl) (by decide) ?_
  refine r_iload_n (q114 (i := 2) rfl) rfl ?_
  refine r_if 36 (q114 (i := 3) rfl) (by decide) (fun zz => absurd zz (show ¬ ((16 : Int32) < 0) from by decide)) (fun _ => ?_)
  refine r_aload_n (q114 (i := 4) rfl) rfl ?_
  refine r_getR (b := 1074) (q114 (i := 5) rfl) rfl (by decide) (k_47 S) (fun _ _ _ => rfl) (r_47_24 S) ?_
  refine r_aload_n (q114 (i := 6) rfl) rfl ?_
  refine r_getI (x := nI (z + 1)) (q114 (i := 7) rfl) rfl (by decide) (k_47 S) (fun _ _ _ => rfl) rfl ?_
  refine r_iload_n (q114 (i := 8) rfl) rfl ?_
  refine r_iload_n (q114 (i := 9) rfl) rfl ?_
  refine r_ishr (q114 (i := 10) rfl) ?_
  refine r_i2b (q114 (i := 11) rfl) ?_
  rw [show ((v >>> (16 &&& 31)).toInt8.toInt32 : Int32) = byt v 16 from rfl]
  refine r_basN (y := byt v 16) (q114 (i := 12) rfl) (k_1074 S) (by omega) (by decide) (byt_nar v 16) ?_
  refine r_aload_n (q114 (i := 13) rfl) rfl ?_
  refine r_dup (q114 (i := 14) rfl) rfl ?_
  refine r_getI (x := nI (z + 1)) (q114 (i := 15) rfl) rfl (by decide) (k_47 S) (fun _ _ _ => rfl) rfl ?_
  refine r_iconst (v := 1) (q114 (i := 16) rfl) (by decide) ?_
  refine r_iadd (q114 (i := 17) rfl) ?_
  rw [show ((nI (z + 1)) + 1 : Int32) = nI (z + 2) from nI_1 (z + 1)]
  refine r_putI (q114 (i := 18) rfl) rfl (by decide) (k_47 S) rfl rfl ?_
  refine r_iinc (y := 8) (ls' := [(2, .int 8), (0, .ref 47), (1, .int v)]) (q114 (i := 19) rfl) (Nat.le_of_ble_eq_true rfl) rfl (by decide) rfl ?_
  refine r_goto 3 (q114 (i := 20) rfl) (by decide) ?_
  refine r_iload_n (q114 (i := 2) rfl) rfl ?_
  refine r_if 36 (q114 (i := 3) rfl) (by decide) (fun zz => absurd zz (show ¬ ((8 : Int32) < 0) from by decide)) (fun _ => ?_)
  refine r_aload_n (q114 (i := 4) rfl) rfl ?_
  refine r_getR (b := 1074) (q114 (i := 5) rfl) rfl (by decide) (k_47 S) (fun _ _ _ => rfl) (r_47_24 S) ?_
  refine r_aload_n (q114 (i := 6) rfl) rfl ?_
  refine r_getI (x := nI (z + 2)) (q114 (i := 7) rfl) rfl (by decide) (k_47 S) (fun _ _ _ => rfl) rfl ?_
  refine r_iload_n (q114 (i := 8) rfl) rfl ?_
  refine r_iload_n (q114 (i := 9) rfl) rfl ?_
  refine r_ishr (q114 (i := 10) rfl) ?_
  refine r_i2b (q114 (i := 11) rfl) ?_
  rw [show ((v >>> (8 &&& 31)).toInt8.toInt32 : Int32) = byt v 8 from rfl]
  refine r_basN (y := byt v 8) (q114 (i := 12) rfl) (k_1074 S) (by omega) (by decide) (byt_nar v 8) ?_
  refine r_aload_n (q114 (i := 13) rfl) rfl ?_
  refine r_dup (q114 (i := 14) rfl) rfl ?_
  refine r_getI (x := nI (z + 2)) (q114 (i := 15) rfl) rfl (by decide) (k_47 S) (fun _ _ _ => rfl) rfl ?_
  refine r_iconst (v := 1) (q114 (i := 16) rfl) (by decide) ?_
  refine r_iadd (q114 (i := 17) rfl) ?_
  rw [show ((nI (z + 2)) + 1 : Int32) = nI (z + 3) from nI_1 (z + 2)]
  refine r_putI (q114 (i := 18) rfl) rfl (by decide) (k_47 S) rfl rfl ?_
  refine r_iinc (y := 0) (ls' := [(2, .int 0), (0, .ref 47), (1, .int v)]) (q114 (i := 19) rfl) (Nat.le_of_ble_eq_true rfl) rfl (by decide) rfl ?_
  refine r_goto 3 (q114 (i := 20) rfl) (by decide) ?_
  refine r_iload_n (q114 (i := 2) rfl) rfl ?_
  refine r_if 36 (q114 (i := 3) rfl) (by decide) (fun zz => absurd zz (show ¬ ((0 : Int32) < 0) from by decide)) (fun _ => ?_)
  refine r_aload_n (q114 (i := 4) rfl) rfl ?_
  refine r_getR (b := 1074) (q114 (i := 5) rfl) rfl (by decide) (k_47 S) (fun _ _ _ => rfl) (r_47_24 S) ?_
  refine r_aload_n (q114 (i := 6) rfl) rfl ?_
  refine r_getI (x := nI (z + 3)) (q114 (i := 7) rfl) rfl (by decide) (k_47 S) (fun _ _ _ => rfl) rfl ?_
  refine r_iload_n (q114 (i := 8) rfl) rfl ?_
  refine r_iload_n (q114 (i := 9) rfl) rfl ?_
  refine r_ishr (q114 (i := 10) rfl) ?_
  refine r_i2b (q114 (i := 11) rfl) ?_
  rw [show ((v >>> (0 &&& 31)).toInt8.toInt32 : Int32) = byt v 0 from rfl]
  refine r_basN (y := byt v 0) (q114 (i := 12) rfl) (k_1074 S) (by omega) (by decide) (byt_nar v 0) ?_
  refine r_aload_n (q114 (i := 13) rfl) rfl ?_
  refine r_dup (q114 (i := 14) rfl) rfl ?_
  refine r_getI (x := nI (z + 3)) (q114 (i := 15) rfl) rfl (by decide) (k_47 S) (fun _ _ _ => rfl) rfl ?_
  refine r_iconst (v := 1) (q114 (i := 16) rfl) (by decide) ?_
  refine r_iadd (q114 (i := 17) rfl) ?_
  rw [show ((nI (z + 3)) + 1 : Int32) = nI (z + 4) from nI_1 (z + 3)]
  refine r_putI (q114 (i := 18) rfl) rfl (by decide) (k_47 S) rfl rfl ?_
  refine r_iinc (y := (-8)) (ls' := [(2, .int (-8)), (0, .ref 47), (1, .int v)]) (q114 (i := 19) rfl) (Nat.le_of_ble_eq_true rfl) rfl (by decide) rfl ?_
  refine r_goto 3 (q114 (i := 20) rfl) (by decide) ?_
  refine r_iload_n (q114 (i := 2) rfl) rfl ?_
  refine r_if 36 (q114 (i := 3) rfl) (by decide) (fun _ => ?_) (fun zz => absurd (show (-8 : Int32) < 0 from by decide) zz)
  exact r_vret (q114 (i := 21) rfl) rfl hQ
def FrPM (h h' : hp) : Prop := h'.2 = h.2 ∧ (∀ k, k ≠ 47 → k ≠ 1074 → hI h' k = hI h k) ∧ ∀ j, j ≠ 25 → hI h' 47 j = hI h 47 j
theorem FrPM.tr {h h' h'' : hp} (a : FrPM h h') (b : FrPM h' h'') : FrPM h h'' := ⟨b.1.trans a.1, fun k x y => (b.2.1 k x y).trans (a.2.1 k x y), fun j x => (b.2.2 j x).trans (a.2.2 j x)⟩
theorem FrPM.S {h h' : hp} (F : FrPM h h') (S : Sh h) : Sh h' := S.to (by rw [F.1])
theorem FrPM.M {h h' : hp} (F : FrPM h h') : FM h h' := ⟨by rw [F.1], fun k hk => ⟨F.2.1 k (by omega) (by omega), by unfold hJ; rw [F.1]⟩⟩
theorem put4_M (h : hp) (z : Nat) (v : Int32) : FrPM h (put4 h 1074 47 25 z v) := ⟨rfl, fun k x y => by
  show u2 (u2 (u2 (u2 (u2 (u2 (u2 (u2 h.1 1074 _ _) 47 _ _) 1074 _ _) 47 _ _) 1074 _ _) 47 _ _) 1074 _ _) 47 _ _ k = _
  rw [u2_n x, u2_n y, u2_n x, u2_n y, u2_n x, u2_n y, u2_n x, u2_n y], fun j x => by
  show u1 (u1 (u1 (u1 (h.1 47) 25 _) 25 _) 25 _) 25 _ j = _
  rw [u1_n x, u1_n x, u1_n x, u1_n x]⟩
theorem put4_B {h : hp} {B : Nat → Int32} (e : hI h 1074 = B) (z : Nat) (v : Int32) : hI (put4 h 1074 47 25 z v) 1074 = pu4 B z v ∧ hI (put4 h 1074 47 25 z v) 47 25 = nI (z + 4) := by
  subst e
  exact ⟨rfl, rfl⟩
theorem MG.to {h h' : hp} {n : Nat} {γ : gs} (G : MG h n γ) (e : ∀ k, k = 68 ∨ k = 69 → hI h' k = hI h k) (e11 : hI h' 47 11 = hI h 47 11) (ej : ∀ k, 71 ≤ k → k < 1071 → hJ h' k = hJ h k) (hc : gC γ ≤ 1000) : MG h' n γ := by
  obtain ⟨a, b, c, d⟩ := G
  refine ⟨e11.trans a, fun k hk => ?_, fun k h1 h2 => ?_, fun k hk w hw => ?_⟩
  · rw [e 68 (Or.inl rfl), e 69 (Or.inr rfl)]; exact b k hk
  · rw [e 68 (Or.inl rfl), e 69 (Or.inr rfl)]; exact c k h1 h2
  · rw [ej (71 + k) (by omega) (by omega)]; exact d k hk w hw
theorem MGr.to {h h' : hp} {σ σ' : st8} (G : MGr h σ) (Z : zok σ) (e : ∀ k, 66 ≤ k → k ≤ 69 → hI h' k = hI h k) (e10 : hI h' 47 10 = hI h 47 10) (e11 : hI h' 47 11 = hI h 47 11) (ej : ∀ k, 71 ≤ k → k < 1071 → hJ h' k = hJ h k) (en : zn σ' = zn σ) (ea : za σ' = za σ) (eb : zb σ' = zb σ) : MGr h' σ' := by
  have eG : zG σ' = zG σ := by show (gB (zn σ') (za σ').1 (zb σ').1 (za σ').2.1 (zb σ').2.1).1 = _; rw [en, ea, eb]
  have e0 : z0 σ' = z0 σ := by show (gA (zn σ') (za σ').1 (za σ').2.1).2 = _; rw [en, ea]
  have e1 : z1 σ' = z1 σ := by show (gB (zn σ') (za σ').1 (zb σ').1 (za σ').2.1 (zb σ').2.1).2 = _; rw [en, ea, eb]
  unfold MGr
  rw [eG, e0, e1, ea, eb, en]
  have hc := zC Z
  obtain ⟨a, b, c, d⟩ := G
  refine ⟨e10.trans a, ?_, ?_, ?_⟩
  · exact b.to (fun k hk => e k (by omega) (by omega)) e11 ej (by omega)
  · intro g hg
    rw [e 66 (by decide) (by decide)]; exact c g hg
  · intro g hg
    rw [e 67 (by decide) (by decide)]; exact d g hg
theorem MSs.to {h h' : hp} {σ σ' : st8} (G : MSs h σ) (Z : zok σ) (e : ∀ k, 66 ≤ k → k ≤ 69 → hI h' k = hI h k) (e47 : ∀ k, (k = 10 ∨ k = 11 ∨ k = 18 ∨ (20 ≤ k ∧ k ≤ 23)) → hI h' 47 k = hI h 47 k) (ej : ∀ k, 71 ≤ k → k < 1071 → hJ h' k = hJ h k) (en : zn σ' = zn σ) (ea : za σ' = za σ) (eb : zb σ' = zb σ) (es : zs σ' = zs σ) : MSs h' σ' := by
  unfold MSs at *
  rw [es]
  cases q : zs σ with
  | none =>
    rw [q] at G
    exact (e47 18 (by decide)).trans G
  | some w =>
    rw [q] at G
    obtain ⟨a, b, c1, c2, c3, c4⟩ := G
    refine ⟨(e47 18 (by decide)).trans a, b.to Z e (e47 10 (by decide)) (e47 11 (by decide)) ej en ea eb, (e47 20 (by decide)).trans c1, (e47 21 (by decide)).trans c2, (e47 22 (by decide)).trans c3, ?_⟩
    rw [e47 23 (by decide), show zG σ' = zG σ by show (gB (zn σ') (za σ').1 (zb σ').1 (za σ').2.1 (zb σ').2.1).1 = _; rw [en, ea, eb]]
    exact c4
/-- the tape, the place of a fault and the vectors are no part of the graph -/
theorem MI.tp {h h' : hp} {σ σ' : st8} (M : MI h σ) (Z : zok σ) (e2 : h'.2.2 = h.2.2) (e : ∀ k, 47 < k → k < 1071 → hI h' k = hI h k) (e47 : ∀ k, (k ≤ 11 ∨ k = 18 ∨ (20 ≤ k ∧ k ≤ 23)) → hI h' 47 k = hI h 47 k) (ej : ∀ k, 71 ≤ k → k < 1071 → hJ h' k = hJ h k) (en : zn σ' = zn σ) (ea : za σ' = za σ) (eb : zb σ' = zb σ) (es : zs σ' = zs σ) (v : MV h' (zv σ')) (t : hI h' 1074 = (zt σ').1 ∧ hI h' 47 25 = nI (zt σ').2 ∧ hI h' 47 26 = zp σ') (r : hI h' 1073 = fun k => nI (zr σ' k)) : MI h' σ' := by
  obtain ⟨m1, m2, m3, m4, m5, m6, m7, m8⟩ := M
  refine ⟨⟨m1.1.to e2, ?_⟩, ?_, ?_, v, t, r, ?_, ?_⟩
  · rw [e47 1 (by decide), en]; exact m1.2
  · rw [ea]
    unfold MA cirA
    rw [e 51 (by decide) (by decide), e 54 (by decide) (by decide), e 57 (by decide) (by decide), e 60 (by decide) (by decide), e 48 (by decide) (by decide), e 63 (by decide) (by decide), e 49 (by decide) (by decide)]
    exact m2
  · rw [eb]
    unfold MB cirB
    rw [e 52 (by decide) (by decide), e 55 (by decide) (by decide), e 58 (by decide) (by decide), e 61 (by decide) (by decide), e 48 (by decide) (by decide), e 64 (by decide) (by decide), e 49 (by decide) (by decide)]
    exact m3
  · rcases m7 with g | g
    · exact Or.inl ((e47 10 (by decide)).trans g)
    · exact Or.inr (g.to Z (fun k a b => e k (by omega) (by omega)) (e47 10 (by decide)) (e47 11 (by decide)) ej en ea eb)
  · exact m8.to Z (fun k a b => e k (by omega) (by omega)) (fun k hk => e47 k (by omega)) ej en ea eb es
set_option maxHeartbeats 2000000 in
set_option maxRecDepth 10000 in
theorem ms_feed {h : hp} {σ : st8} (M : MI h σ) (Z : zok σ) (a b c d t : Int32) : MStep 113 [.ref 47, .int a, .int b, .int c, .int d, .int t] h (aFeed σ) (nFeed σ a b c d t) := by
  have S := M.1.1
  have hz := Z.2.2.2.2.1
  unfold aFeed nFeed
  by_cases q : (zt σ).2 ≤ 2980
  · rw [if_pos q, if_pos q]
    obtain ⟨h1, e1⟩ : ∃ x, x = put4 h 1074 47 25 ((zt σ).2) a := ⟨_, rfl⟩
    have R1 := sp_mput (d := 6) S M.2.2.2.2.1.2.1 (by omega) a
    have F1 := put4_M h ((zt σ).2) a
    obtain ⟨B1, T1⟩ := put4_B M.2.2.2.2.1.1 ((zt σ).2) a
    rw [← e1] at R1 F1 B1 T1
    have S1 := F1.S S
    obtain ⟨h2, e2⟩ : ∃ x, x = put4 h1 1074 47 25 ((zt σ).2 + 4) b := ⟨_, rfl⟩
    have R2 := sp_mput (d := 6) S1 T1 (by omega) b
    have F2 := put4_M h1 ((zt σ).2 + 4) b
    obtain ⟨B2, T2⟩ := put4_B B1 ((zt σ).2 + 4) b
    rw [← e2] at R2 F2 B2 T2
    have S2 := F2.S S1
    obtain ⟨h3, e3⟩ : ∃ x, x = put4 h2 1074 47 25 ((zt σ).2 + 4 + 4) c := ⟨_, rfl⟩
    have R3 := sp_mput (d := 6) S2 T2 (by omega) c
    have F3 := put4_M h2 ((zt σ).2 + 4 + 4) c
    obtain ⟨B3, T3⟩ := put4_B B2 ((zt σ).2 + 4 + 4) c
    rw [← e3] at R3 F3 B3 T3
    have S3 := F3.S S2
    obtain ⟨h4, e4⟩ : ∃ x, x = put4 h3 1074 47 25 ((zt σ).2 + 4 + 4 + 4) d := ⟨_, rfl⟩
    have R4 := sp_mput (d := 6) S3 T3 (by omega) d
    have F4 := put4_M h3 ((zt σ).2 + 4 + 4 + 4) d
    obtain ⟨B4, T4⟩ := put4_B B3 ((zt σ).2 + 4 + 4 + 4) d
    rw [← e4] at R4 F4 B4 T4
    have S4 := F4.S S3
    obtain ⟨h5, e5⟩ : ∃ x, x = put4 h4 1074 47 25 ((zt σ).2 + 4 + 4 + 4 + 4) t := ⟨_, rfl⟩
    have R5 := sp_mput (d := 6) S4 T4 (by omega) t
    have F5 := put4_M h4 ((zt σ).2 + 4 + 4 + 4 + 4) t
    obtain ⟨B5, T5⟩ := put4_B B4 ((zt σ).2 + 4 + 4 + 4 + 4) t
    rw [← e5] at R5 F5 B5 T5
    have S5 := F5.S S4
    have F := (((F1.tr F2).tr F3).tr F4).tr F5
    refine ⟨h5, ?_, M.tp Z (by rw [F.1]) (fun k x y => F.2.1 k (by omega) (by omega)) (fun k x => F.2.2 k (by omega)) (fun k x y => by unfold hJ; rw [F.1]) rfl rfl rfl rfl ?_ ⟨B5, T5, ?_⟩ ?_, F.M⟩
    rotate_left
    · exact ⟨by show h5.2.1 1071 = _; rw [F.1]; exact M.2.2.2.1.1, (F.2.1 1072 (by decide) (by decide)).trans M.2.2.2.1.2.1, (F.2.2 17 (by decide)).trans M.2.2.2.1.2.2⟩
    · exact (F.2.2 26 (by decide)).trans M.2.2.2.2.1.2.2
    · exact (F.2.1 1073 (by decide) (by decide)).trans M.2.2.2.2.2.1
    refine Run.of (d := 7) (Nat.le_of_ble_eq_true rfl) (fun Q hQ => ?_)
    show Wp (Ex 7) 113 Q 0 [(0, .ref 47), (1, .int a), (2, .int b), (3, .int c), (4, .int d), (5, .int t)] [] h 0 0
    refine r_aload_n (q113 (i := 0) rfl) rfl ?_
    refine r_getI (x := nI (zt σ).2) (q113 (i := 1) rfl) rfl (by decide) (k_47 S) (fun _ _ _ => rfl) M.2.2.2.2.1.2.1 ?_
    refine r_sipush (v := 2980) (q113 (i := 2) rfl) (by decide) ?_
    refine r_icmp 12 (q113 (i := 3) rfl) (by decide) (fun _ => ?_) (fun zz => absurd (show nI (zt σ).2 ≤ 2980 from nI_le (b := 2980) q (by decide)) zz)
    refine r_aload_n (q113 (i := 6) rfl) rfl ?_
    refine r_iload_n (q113 (i := 7) rfl) rfl ?_
    refine r_cV (d := _) (q113 (i := 8) rfl) rfl rfl rfl (k_47 S) (Nat.le_of_ble_eq_true rfl) (Nat.zero_le _) (Nat.zero_le _) R1 ?_
    show Wp _ _ _ 17 [(0, .ref 47), (1, .int a), (2, .int b), (3, .int c), (4, .int d), (5, .int t)] [] h1 _ _
    refine r_aload_n (q113 (i := 9) rfl) rfl ?_
    refine r_iload_n (q113 (i := 10) rfl) rfl ?_
    refine r_cV (d := _) (q113 (i := 11) rfl) rfl rfl rfl (k_47 S1) (Nat.le_of_ble_eq_true rfl) (Nat.zero_le _) (Nat.zero_le _) R2 ?_
    show Wp _ _ _ 22 [(0, .ref 47), (1, .int a), (2, .int b), (3, .int c), (4, .int d), (5, .int t)] [] h2 _ _
    refine r_aload_n (q113 (i := 12) rfl) rfl ?_
    refine r_iload_n (q113 (i := 13) rfl) rfl ?_
    refine r_cV (d := _) (q113 (i := 14) rfl) rfl rfl rfl (k_47 S2) (Nat.le_of_ble_eq_true rfl) (Nat.zero_le _) (Nat.zero_le _) R3 ?_
    show Wp _ _ _ 27 [(0, .ref 47), (1, .int a), (2, .int b), (3, .int c), (4, .int d), (5, .int t)] [] h3 _ _
    refine r_aload_n (q113 (i := 15) rfl) rfl ?_
    refine r_iload (q113 (i := 16) rfl) rfl ?_
    refine r_cV (d := _) (q113 (i := 17) rfl) rfl rfl rfl (k_47 S3) (Nat.le_of_ble_eq_true rfl) (Nat.zero_le _) (Nat.zero_le _) R4 ?_
    show Wp _ _ _ 33 [(0, .ref 47), (1, .int a), (2, .int b), (3, .int c), (4, .int d), (5, .int t)] [] h4 _ _
    refine r_aload_n (q113 (i := 18) rfl) rfl ?_
    refine r_iload (q113 (i := 19) rfl) rfl ?_
    refine r_cV (d := _) (q113 (i := 20) rfl) rfl rfl rfl (k_47 S4) (Nat.le_of_ble_eq_true rfl) (Nat.zero_le _) (Nat.zero_le _) R5 ?_
    show Wp _ _ _ 39 [(0, .ref 47), (1, .int a), (2, .int b), (3, .int c), (4, .int d), (5, .int t)] [] h5 _ _
    refine r_aload_n (q113 (i := 21) rfl) rfl ?_
    refine r_getI (x := nI ((zt σ).2 + 20)) (q113 (i := 22) rfl) rfl (by decide) (k_47 S5) (fun _ _ _ => rfl) T5 ?_
    exact r_iret (q113 (i := 23) rfl) rfl hQ
  · rw [if_neg q, if_neg q]
    refine ⟨h, ?_, M, FM.rf h⟩
    refine Run.of (d := 7) (Nat.le_of_ble_eq_true rfl) (fun Q hQ => ?_)
    show Wp (Ex 7) 113 Q 0 [(0, .ref 47), (1, .int a), (2, .int b), (3, .int c), (4, .int d), (5, .int t)] [] h 0 0
    refine r_aload_n (q113 (i := 0) rfl) rfl ?_
    refine r_getI (x := nI (zt σ).2) (q113 (i := 1) rfl) rfl (by decide) (k_47 S) (fun _ _ _ => rfl) M.2.2.2.2.1.2.1 ?_
    refine r_sipush (v := 2980) (q113 (i := 2) rfl) (by decide) ?_
    refine r_icmp 12 (q113 (i := 3) rfl) (by decide) (fun zz => absurd zz (show ¬ (nI (zt σ).2 ≤ 2980) from nI_ge (a := 2980) (by omega) (by omega))) (fun _ => ?_)
    refine r_iconst (v := (-1)) (q113 (i := 4) rfl) (by decide) ?_
    exact r_iret (q113 (i := 5) rfl) rfl hQ
set_option maxHeartbeats 2000000 in
set_option maxRecDepth 10000 in
theorem ms_end {h : hp} {σ : st8} (M : MI h σ) (Z : zok σ) (x : Int32) : MStep 115 [.ref 47, .int x] h (aEnd σ x) (nEnd σ x) := by
  have S := M.1.1
  unfold aEnd nEnd
  by_cases q : oke σ x = true
  · rw [if_pos q, if_pos q]
    have hx := of_decide_eq_true q
    obtain ⟨k, hk, ek⟩ := oke_t Z.2.2.2.2.1 q
    have ec : x.toNatClampNeg = k := by rw [ek, nI_clamp (by have := Z.2.2.2.2.1; omega)]
    rw [ec]
    refine ⟨sI h 47 25 x, ?_, M.tp Z rfl (fun k x y => by show u2 h.1 47 _ _ k = _; rw [u2_n (by omega)]) (fun k x => by show u1 (h.1 47) 25 _ k = _; rw [u1_n (by omega)]) (fun k x y => rfl) rfl rfl rfl rfl M.2.2.2.1 ⟨M.2.2.2.2.1.1, ek, M.2.2.2.2.1.2.2⟩ M.2.2.2.2.2.1, FM.w (by decide) _ _⟩
    refine Run.of (d := 7) (Nat.le_of_ble_eq_true rfl) (fun Q hQ => ?_)
    show Wp (Ex 7) 115 Q 0 [(0, .ref 47), (1, .int x)] [] h 0 0
    refine r_iload_n (q115 (i := 0) rfl) rfl ?_
    refine r_if 12 (q115 (i := 1) rfl) (by decide) (fun zz => absurd zz (show ¬ (x < 0) from hx.1)) (fun _ => ?_)
    refine r_iload_n (q115 (i := 2) rfl) rfl ?_
    refine r_aload_n (q115 (i := 3) rfl) rfl ?_
    refine r_getI (x := nI (zt σ).2) (q115 (i := 4) rfl) rfl (by decide) (k_47 S) (fun _ _ _ => rfl) M.2.2.2.2.1.2.1 ?_
    refine r_icmp 14 (q115 (i := 5) rfl) (by decide) (fun _ => ?_) (fun zz => absurd (show x ≤ nI (zt σ).2 from hx.2) zz)
    refine r_aload_n (q115 (i := 8) rfl) rfl ?_
    refine r_iload_n (q115 (i := 9) rfl) rfl ?_
    refine r_putI (q115 (i := 10) rfl) rfl (by decide) (k_47 S) rfl rfl ?_
    refine r_iload_n (q115 (i := 11) rfl) rfl ?_
    exact r_iret (q115 (i := 12) rfl) rfl hQ
  · rw [if_neg q, if_neg q]
    refine ⟨h, ?_, M, FM.rf h⟩
    refine Run.of (d := 7) (Nat.le_of_ble_eq_true rfl) (fun Q hQ => ?_)
    show Wp (Ex 7) 115 Q 0 [(0, .ref 47), (1, .int x)] [] h 0 0
    refine r_iload_n (q115 (i := 0) rfl) rfl ?_
    refine r_if 12 (q115 (i := 1) rfl) (by decide) (fun c1 => ?_) (fun c1 => ?_)
    · have c1 : x < 0 := c1
      refine r_iconst (v := (-1)) (q115 (i := 6) rfl) (by decide) ?_
      exact r_iret (q115 (i := 7) rfl) rfl hQ
    · have c1 : ¬ (x < 0) := c1
      refine r_iload_n (q115 (i := 2) rfl) rfl ?_
      refine r_aload_n (q115 (i := 3) rfl) rfl ?_
      refine r_getI (x := nI (zt σ).2) (q115 (i := 4) rfl) rfl (by decide) (k_47 S) (fun _ _ _ => rfl) M.2.2.2.2.1.2.1 ?_
      refine r_icmp 14 (q115 (i := 5) rfl) (by decide) (fun zz => absurd zz (show ¬ (x ≤ nI (zt σ).2) from fun y => q (decide_eq_true ⟨c1, y⟩))) (fun _ => ?_)
      refine r_iconst (v := (-1)) (q115 (i := 6) rfl) (by decide) ?_
      exact r_iret (q115 (i := 7) rfl) rfl hQ
set_option maxHeartbeats 2000000 in
set_option maxRecDepth 10000 in
theorem ms_place {h : hp} {σ : st8} (M : MI h σ) : MStep 131 [.ref 47] h (zp σ) σ := by
  have S := M.1.1
  refine ⟨h, ?_, M, FM.rf h⟩
  refine Run.of (d := 7) (Nat.le_of_ble_eq_true rfl) (fun Q hQ => ?_)
  show Wp (Ex 7) 131 Q 0 [(0, .ref 47)] [] h 0 0
  refine r_aload_n (q131 (i := 0) rfl) rfl ?_
  refine r_getI (x := zp σ) (q131 (i := 1) rfl) rfl (by decide) (k_47 S) (fun _ _ _ => rfl) M.2.2.2.2.1.2.2 ?_
  exact r_iret (q131 (i := 2) rfl) rfl hQ
def forM (h : hp) : hp := rJ (sI h 47 17 0) 1071 (filJ (hJ h 1071) 0 64)
set_option maxHeartbeats 2000000 in
set_option maxRecDepth 10000 in
theorem lp_mfor {d : Nat} {h : hp} (S : Sh h) {x : Int32} {Q : resP} {bc bs : Nat} (hQ : Q (some (.int x)) (rJ h 1071 (filJ (hJ h 1071) 0 64))) : ∀ (m i : Nat), i + m = 64 → ∀ ls : List (Nat × Value), ls.lookup 2 = some (.int (nI i)) → ls.lookup 1 = some (.int x) → ls.lookup 0 = some (.ref 47) → Wp (Ex d) 144 Q 12 ls [] (rJ h 1071 (filJ (hJ h 1071) 0 i)) bc bs := by
  intro m
  induction m with
  | zero =>
    intro i hm ls l2 l1 l0
    have e : i = 64 := by omega
    subst e
    refine r_iload_n (q144 (i := 8) rfl) l2 ?_
    refine r_bipush (v := 64) (q144 (i := 9) rfl) (by decide) ?_
    refine r_icmp 31 (q144 (i := 10) rfl) (by decide) (fun _ => ?_) (fun zz => absurd (show 64 ≤ nI 64 from Int32.le_refl _) zz)
    refine r_iload_n (q144 (i := 18) rfl) l1 ?_
    exact r_iret (q144 (i := 19) rfl) rfl hQ
  | succ m ih =>
    intro i hm ls l2 l1 l0
    refine r_iload_n (q144 (i := 8) rfl) l2 ?_
    refine r_bipush (v := 64) (q144 (i := 9) rfl) (by decide) ?_
    refine r_icmp 31 (q144 (i := 10) rfl) (by decide) (fun zz => absurd zz (show ¬ (64 ≤ nI i) from nI_ge (b := 64) (by omega) (by decide))) (fun _ => ?_)
    refine r_aload_n (q144 (i := 11) rfl) l0 ?_
    refine r_getR (b := 1071) (q144 (i := 12) rfl) rfl (by decide) (k_47 S) (fun _ _ _ => rfl) (r_47_15 S) ?_
    refine r_iload_n (q144 (i := 13) rfl) l2 ?_
    refine r_lconst (v := 0) (q144 (i := 14) rfl) (by decide) ?_
    refine r_lasN (q144 (i := 15) rfl) (k_1071 S) (by omega) (by decide) ?_
    refine r_iinc (y := nI (i + 1)) (q144 (i := 16) rfl) (Nat.le_of_ble_eq_true rfl) l2 (nI_1 i) rfl ?_
    have l1 := lk1 (k := 2) (v := .int (nI (i + 1))) l1 (by decide) (Or.inl rfl)
    have l0 := lk1 (k := 2) (v := .int (nI (i + 1))) l0 (by decide) (Or.inr (by decide))
    have l2 := lk0 ls 2 (.int (nI (i + 1)))
    generalize lset1 ls 2 (.int (nI (i + 1))) = ls at l2 l1 l0 ⊢
    refine r_goto 12 (q144 (i := 17) rfl) (by decide) ?_
    rw [sJ_rJ, filJ_s]
    exact ih (i + 1) (by omega) ls l2 l1 l0
set_option maxHeartbeats 2000000 in
set_option maxRecDepth 10000 in
theorem sp_mfor {d : Nat} {h : hp} (S : Sh h) : Run (d + 1) 144 [.ref 47] h 0 0 (some (.int (hI h 47 17))) (forM h) := by
  refine Run.of (Nat.le_of_ble_eq_true rfl) (fun Q hQ => ?_)
  show Wp (Ex d) 144 Q 0 [(0, .ref 47)] [] h 0 0
  have K := lp_mfor (d := d) (h := sI h 47 17 0) (x := hI h 47 17) (Q := Q) (bc := 0) (bs := 0) (S.to rfl) hQ 64 0 rfl
  rw [filJ_0, rJ_self] at K
  refine r_aload_n (q144 (i := 0) rfl) rfl ?_
  refine r_getI (x := hI h 47 17) (q144 (i := 1) rfl) rfl (by decide) (k_47 S) (fun _ _ _ => rfl) rfl ?_
  refine r_istore_n (ls' := [(1, .int (hI h 47 17)), (0, .ref 47)]) (q144 (i := 2) rfl) (Nat.le_of_ble_eq_true rfl) rfl ?_
  refine r_aload_n (q144 (i := 3) rfl) rfl ?_
  refine r_iconst (v := 0) (q144 (i := 4) rfl) (by decide) ?_
  refine r_putI (q144 (i := 5) rfl) rfl (by decide) (k_47 S) rfl rfl ?_
  refine r_iconst (v := 0) (q144 (i := 6) rfl) (by decide) ?_
  refine r_istore_n (ls' := [(2, .int 0), (1, .int (hI h 47 17)), (0, .ref 47)]) (q144 (i := 7) rfl) (Nat.le_of_ble_eq_true rfl) rfl ?_
  exact K _ rfl rfl rfl
theorem MV.f {h : hp} {v : vs} (m : MV h v) : MV (forM h) (v0 v) := ⟨by
  show filJ (hJ h 1071) 0 64 = _
  rw [m.1]; rfl, m.2.1, rfl⟩
theorem ms_forget {h : hp} {σ : st8} (M : MI h σ) (Z : zok σ) : MStep 144 [.ref 47] h (nI (zv σ).2.2) (sV σ (v0 (zv σ))) := by
  have R := sp_mfor (d := 7) M.1.1
  rw [M.2.2.2.1.2.2] at R
  exact ⟨forM h, R, M.tp Z rfl (fun k x y => by show u2 h.1 47 _ _ k = _; rw [u2_n (by omega)]) (fun k x => by show u1 (h.1 47) 17 _ k = _; rw [u1_n (by omega)]) (fun k x y => by show u1 h.2.1 1071 _ k = _; rw [u1_n (by omega)]) rfl rfl rfl rfl M.2.2.2.1.f M.2.2.2.2.1 M.2.2.2.2.2.1, (FM.w (by decide) _ _).tr (FM.rj (by decide) _)⟩
set_option maxHeartbeats 2000000 in
set_option maxRecDepth 10000 in
theorem ms_inputs {h : hp} {σ : st8} (M : MI h σ) (x : Int32) : MStep 108 [.ref 47, .int x] h (aInp x) (nInp σ x) := by
  have S := M.1.1
  unfold aInp nInp
  by_cases q : oin x = true
  · rw [if_pos q, if_pos q]
    have hx := of_decide_eq_true q
    obtain ⟨k, k1, k2, ek⟩ := oin_t q
    have ec : x.toNatClampNeg = k := by rw [ek, nI_clamp (by omega)]
    rw [ec]
    have R1 := sp_emp0 (d := 5) (h := sI h 47 1 x) (S.to rfl)
    have R2 := sp_emp1 (d := 5) (h := chg (sI (sI (sI h 47 1 x) 48 0 0) 49 0 0)) (S.to rfl)
    have R3 := sp_mfor (d := 6) (h := chg (sI (sI (chg (sI (sI (sI h 47 1 x) 48 0 0) 49 0 0)) 48 1 0) 49 1 0)) (S.to rfl)
    have V : MV (chg (sI (sI (chg (sI (sI (sI h 47 1 x) 48 0 0) 49 0 0)) 48 1 0) 49 1 0)) (zv σ) := M.2.2.2.1
    refine ⟨forM (chg (sI (sI (chg (sI (sI (sI h 47 1 x) 48 0 0) 49 0 0)) 48 1 0) 49 1 0)), ?_, ⟨⟨S.to rfl, ek⟩, ⟨M.2.1.1, rfl, M.2.1.2.2.1, rfl⟩, ⟨M.2.2.1.1, rfl, M.2.2.1.2.2.1, rfl⟩, V.f, M.2.2.2.2.1, M.2.2.2.2.2.1, Or.inl rfl, rfl⟩, ?_⟩
    · refine Run.of (d := 7) (Nat.le_of_ble_eq_true rfl) (fun Q hQ => ?_)
      show Wp (Ex 7) 108 Q 0 [(0, .ref 47), (1, .int x)] [] h 0 0
      refine r_iload_n (q108 (i := 0) rfl) rfl ?_
      refine r_iconst (v := 1) (q108 (i := 1) rfl) (by decide) ?_
      refine r_icmp 11 (q108 (i := 2) rfl) (by decide) (fun zz => absurd zz (show ¬ (x < 1) from hx.1)) (fun _ => ?_)
      refine r_iload_n (q108 (i := 3) rfl) rfl ?_
      refine r_bipush (v := 12) (q108 (i := 4) rfl) (by decide) ?_
      refine r_icmp 13 (q108 (i := 5) rfl) (by decide) (fun _ => ?_) (fun zz => absurd (show x ≤ 12 from hx.2) zz)
      refine r_aload_n (q108 (i := 8) rfl) rfl ?_
      refine r_iload_n (q108 (i := 9) rfl) rfl ?_
      refine r_putI (q108 (i := 10) rfl) rfl (by decide) (k_47 S) rfl rfl ?_
      refine r_aload_n (q108 (i := 11) rfl) rfl ?_
      refine r_iconst (v := 0) (q108 (i := 12) rfl) (by decide) ?_
      refine r_cV (d := _) (q108 (i := 13) rfl) rfl rfl rfl (k_47 S) (Nat.le_of_ble_eq_true rfl) (Nat.zero_le _) (Nat.zero_le _) R1 ?_
      show Wp _ _ _ 23 [(0, .ref 47), (1, .int x)] [] (chg (sI (sI (sI h 47 1 x) 48 0 0) 49 0 0)) _ _
      refine r_aload_n (q108 (i := 14) rfl) rfl ?_
      refine r_iconst (v := 1) (q108 (i := 15) rfl) (by decide) ?_
      refine r_cV (d := _) (q108 (i := 16) rfl) rfl rfl rfl (k_47 S) (Nat.le_of_ble_eq_true rfl) (Nat.zero_le _) (Nat.zero_le _) R2 ?_
      show Wp _ _ _ 28 [(0, .ref 47), (1, .int x)] [] (chg (sI (sI (chg (sI (sI (sI h 47 1 x) 48 0 0) 49 0 0)) 48 1 0) 49 1 0)) _ _
      refine r_aload_n (q108 (i := 17) rfl) rfl ?_
      refine r_cV (d := _) (q108 (i := 18) rfl) rfl rfl rfl (k_47 S) (Nat.le_of_ble_eq_true rfl) (Nat.zero_le _) (Nat.zero_le _) R3 ?_
      show Wp _ _ _ 32 [(0, .ref 47), (1, .int x)] [.int (hI (chg (sI (sI (chg (sI (sI (sI h 47 1 x) 48 0 0) 49 0 0)) 48 1 0) 49 1 0)) 47 17)] (forM (chg (sI (sI (chg (sI (sI (sI h 47 1 x) 48 0 0) 49 0 0)) 48 1 0) 49 1 0))) _ _
      refine r_pop (q108 (i := 19) rfl) rfl ?_
      refine r_iconst (v := 1) (q108 (i := 20) rfl) (by decide) ?_
      exact r_zret (q108 (i := 21) rfl) rfl (by decide) hQ
    · exact (((FM.w (by decide) _ _).tr (((FM.w (by decide) _ _).tr (FM.w (by decide) _ _)).tr (FM.chg _))).tr (((FM.w (by decide) _ _).tr (FM.w (by decide) _ _)).tr (FM.chg _))).tr ((FM.w (by decide) _ _).tr (FM.rj (by decide) _))
  · rw [if_neg q, if_neg q]
    refine ⟨h, ?_, M, FM.rf h⟩
    refine Run.of (d := 7) (Nat.le_of_ble_eq_true rfl) (fun Q hQ => ?_)
    show Wp (Ex 7) 108 Q 0 [(0, .ref 47), (1, .int x)] [] h 0 0
    refine r_iload_n (q108 (i := 0) rfl) rfl ?_
    refine r_iconst (v := 1) (q108 (i := 1) rfl) (by decide) ?_
    refine r_icmp 11 (q108 (i := 2) rfl) (by decide) (fun c1 => ?_) (fun c1 => ?_)
    · have c1 : x < 1 := c1
      refine r_iconst (v := 0) (q108 (i := 6) rfl) (by decide) ?_
      exact r_zret (q108 (i := 7) rfl) rfl (by decide) hQ
    · have c1 : ¬ (x < 1) := c1
      refine r_iload_n (q108 (i := 3) rfl) rfl ?_
      refine r_bipush (v := 12) (q108 (i := 4) rfl) (by decide) ?_
      refine r_icmp 13 (q108 (i := 5) rfl) (by decide) (fun zz => absurd zz (show ¬ (x ≤ 12) from fun y => q (decide_eq_true ⟨c1, y⟩))) (fun _ => ?_)
      refine r_iconst (v := 0) (q108 (i := 6) rfl) (by decide) ?_
      exact r_zret (q108 (i := 7) rfl) rfl (by decide) hQ
theorem cmpB (b : Bool) : lg_cmp (if b then 1 else 0) 1 = 0 ↔ b = true := by
  rw [cmp0]
  cases b
  · exact ⟨fun h => absurd h (by decide), fun h => absurd h (by decide)⟩
  · exact ⟨fun _ => rfl, fun _ => rfl⟩
set_option maxHeartbeats 2000000 in
set_option maxRecDepth 10000 in
theorem sp_isGiven {d : Nat} {h : hp} (S : Sh h) {w : Nat} (hw : w < 4096) : Run (d + 1) 141 [.ref 47, .int (nI w)] h 0 0 (some (.int (if inV (hJ h 1071) w then 1 else 0))) h := by
  refine Run.of (Nat.le_of_ble_eq_true rfl) (fun Q hQ => ?_)
  show Wp (Ex (d)) 141 Q 0 [(0, .ref 47), (1, .int (nI w))] [] h 0 0
  refine r_aload_n (q141 (i := 0) rfl) rfl ?_
  refine r_getR (b := 1071) (q141 (i := 1) rfl) rfl (by decide) (k_47 S) (fun _ _ _ => rfl) (r_47_15 S) ?_
  refine r_iload_n (q141 (i := 2) rfl) rfl ?_
  refine r_bipush (v := 64) (q141 (i := 3) rfl) (by decide) ?_
  refine r_idiv (q141 (i := 4) rfl) (by decide) ?_
  rw [show ((nI w) / 64 : Int32) = nI (w / 64) from div64 (by omega)]
  refine r_laN (x := hJ h 1071 (w / 64)) (q141 (i := 5) rfl) (k_1071 S) (by omega) (by decide) rfl ?_
  refine r_iload_n (q141 (i := 6) rfl) rfl ?_
  refine r_bipush (v := 64) (q141 (i := 7) rfl) (by decide) ?_
  refine r_irem (q141 (i := 8) rfl) (by decide) ?_
  rw [show ((nI w) - (nI w) / 64 * 64 : Int32) = nI (w % 64) from rem64 (by omega)]
  refine r_lshr (q141 (i := 9) rfl) ?_
  refine r_lconst (v := 1) (q141 (i := 10) rfl) (by decide) ?_
  refine r_land (q141 (i := 11) rfl) ?_
  rw [show (((hJ h 1071 (w / 64)) >>> ((nI (w % 64)).toInt64 &&& 63)) &&& 1 : Int64) = if inV (hJ h 1071) w then 1 else 0 from b64_sbit _ (by omega)]
  refine r_lconst (v := 1) (q141 (i := 12) rfl) (by decide) ?_
  refine r_lcmp (q141 (i := 13) rfl) ?_
  refine r_if 25 (q141 (i := 14) rfl) (by decide) (fun c18 => ?_) (fun c18 => ?_)
  · have c18 : ¬ lg_cmp (if inV (hJ h 1071) w then 1 else 0) 1 = 0 := c18
    rw [cmpB] at c18
    refine r_iconst (v := 0) (q141 (i := 17) rfl) (by decide) ?_
    exact r_zret (q141 (i := 18) rfl) rfl (by decide) (by first | (rw [if_pos c18] at hQ; exact hQ) | (rw [if_neg c18] at hQ; exact hQ))
  · have c18 : ¬ (¬ lg_cmp (if inV (hJ h 1071) w then 1 else 0) 1 = 0) := c18
    rw [cmpB] at c18
    have c18 := Classical.not_not.mp c18
    refine r_iconst (v := 1) (q141 (i := 15) rfl) (by decide) ?_
    refine r_goto 26 (q141 (i := 16) rfl) (by decide) ?_
    exact r_zret (q141 (i := 18) rfl) rfl (by decide) (by first | (rw [if_pos c18] at hQ; exact hQ) | (rw [if_neg c18] at hQ; exact hQ))
def givM (h : hp) (w z : Nat) : hp := sI (sI (sJ h 1071 (w / 64) (hJ h 1071 (w / 64) ||| 1 <<< ((nI (w % 64)).toInt64 &&& 63))) 1072 z (nI w)) 47 17 (nI (z + 1))
set_option maxHeartbeats 2000000 in
set_option maxRecDepth 10000 in
theorem sp_give {d : Nat} {h : hp} (S : Sh h) {w z : Nat} (hw : w < 4096) (hz : hI h 47 17 = nI z) (hz1 : z < 4096) : Run (d + 1) 142 [.ref 47, .int (nI w)] h 0 0 none (givM h w z) := by
  refine Run.of (Nat.le_of_ble_eq_true rfl) (fun Q hQ => ?_)
  show Wp (Ex (d)) 142 Q 0 [(0, .ref 47), (1, .int (nI w))] [] h 0 0
  refine r_aload_n (q142 (i := 0) rfl) rfl ?_
  refine r_getR (b := 1071) (q142 (i := 1) rfl) rfl (by decide) (k_47 S) (fun _ _ _ => rfl) (r_47_15 S) ?_
  refine r_iload_n (q142 (i := 2) rfl) rfl ?_
  refine r_bipush (v := 64) (q142 (i := 3) rfl) (by decide) ?_
  refine r_idiv (q142 (i := 4) rfl) (by decide) ?_
  rw [show ((nI w) / 64 : Int32) = nI (w / 64) from div64 (by omega)]
  refine r_dup2 (q142 (i := 5) rfl) rfl rfl ?_
  refine r_laN (x := hJ h 1071 (w / 64)) (q142 (i := 6) rfl) (k_1071 S) (by omega) (by decide) rfl ?_
  refine r_lconst (v := 1) (q142 (i := 7) rfl) (by decide) ?_
  refine r_iload_n (q142 (i := 8) rfl) rfl ?_
  refine r_bipush (v := 64) (q142 (i := 9) rfl) (by decide) ?_
  refine r_irem (q142 (i := 10) rfl) (by decide) ?_
  rw [show ((nI w) - (nI w) / 64 * 64 : Int32) = nI (w % 64) from rem64 (by omega)]
  refine r_lshl (q142 (i := 11) rfl) ?_
  refine r_lor (q142 (i := 12) rfl) ?_
  refine r_lasN (q142 (i := 13) rfl) (k_1071 S) (by omega) (by decide) ?_
  refine r_aload_n (q142 (i := 14) rfl) rfl ?_
  refine r_getR (b := 1072) (q142 (i := 15) rfl) rfl (by decide) (k_47 S) (fun _ _ _ => rfl) (r_47_16 S) ?_
  refine r_aload_n (q142 (i := 16) rfl) rfl ?_
  refine r_getI (x := nI z) (q142 (i := 17) rfl) rfl (by decide) (k_47 S) (fun _ _ _ => rfl) hz ?_
  refine r_iload_n (q142 (i := 18) rfl) rfl ?_
  refine r_iasN (q142 (i := 19) rfl) (k_1072 S) (by omega) (by decide) ?_
  refine r_aload_n (q142 (i := 20) rfl) rfl ?_
  refine r_dup (q142 (i := 21) rfl) rfl ?_
  refine r_getI (x := nI z) (q142 (i := 22) rfl) rfl (by decide) (k_47 S) (fun _ _ _ => rfl) hz ?_
  refine r_iconst (v := 1) (q142 (i := 23) rfl) (by decide) ?_
  refine r_iadd (q142 (i := 24) rfl) ?_
  rw [show ((nI z) + 1 : Int32) = nI (z + 1) from nI_1 _]
  refine r_putI (q142 (i := 25) rfl) rfl (by decide) (k_47 S) rfl rfl ?_
  exact r_vret (q142 (i := 26) rfl) rfl hQ
theorem MV.g {h : hp} {v : vs} (m : MV h v) (w : Nat) : MV (givM h w v.2.2) (vadd v w) := by
  obtain ⟨a, b, c⟩ := m
  refine ⟨?_, ?_, rfl⟩
  · show u1 (hJ h 1071) _ _ = _
    rw [a]; rfl
  · show u1 (hI h 1072) _ _ = _
    rw [b]; rfl
theorem FM.giv (h : hp) (w z : Nat) : FM h (givM h w z) := ((FM.wj (by decide) _ _).tr (FM.w (by decide) _ _)).tr (FM.w (by decide) _ _)
set_option maxHeartbeats 2000000 in
set_option maxRecDepth 10000 in
theorem ms_vector {h : hp} {σ : st8} (M : MI h σ) (Z : zok σ) (x : Int32) : MStep 143 [.ref 47, .int x] h (aVec σ x) (nVec σ x) := by
  have S := M.1.1
  have hn := Z.1.2
  have Rw := sp_words (d := 6) S hn M.1.2
  unfold aVec nVec
  by_cases q : okv σ x = true
  · rw [if_pos q, if_pos q]
    obtain ⟨w, w1, w2, w3, ew, ec, hi, hw⟩ := okv_t hn q
    have hx := of_decide_eq_true hw
    have hz := vok_lt Z.2.2.2.1 w2 hi
    rw [ec]
    subst ew
    have Rg := sp_isGiven (d := 6) S w2
    rw [M.2.2.2.1.1, hi, if_neg (by decide)] at Rg
    have Rv := sp_give (d := 6) S w2 M.2.2.2.1.2.2 hz
    refine ⟨givM h w (zv σ).2.2, ?_, M.tp Z rfl (fun k x y => by show u2 (u2 h.1 1072 _ _) 47 _ _ k = _; rw [u2_n (by omega), u2_n (by omega)]) (fun k x => by show u1 (h.1 47) 17 _ k = _; rw [u1_n (by omega)]) (fun k x y => by show u2 h.2.1 1071 _ _ k = _; rw [u2_n (by omega)]) rfl rfl rfl rfl (M.2.2.2.1.g w) M.2.2.2.2.1 M.2.2.2.2.2.1, FM.giv _ _ _⟩
    refine Run.of (d := 7) (Nat.le_of_ble_eq_true rfl) (fun Q hQ => ?_)
    show Wp (Ex 7) 143 Q 0 [(0, .ref 47), (1, .int (nI w))] [] h 0 0
    refine r_iload_n (q143 (i := 0) rfl) rfl ?_
    refine r_if 20 (q143 (i := 1) rfl) (by decide) (fun zz => absurd zz (show ¬ (nI w < 0) from hx.1)) (fun _ => ?_)
    refine r_iload_n (q143 (i := 2) rfl) rfl ?_
    refine r_aload_n (q143 (i := 3) rfl) rfl ?_
    refine r_cV (d := _) (q143 (i := 4) rfl) rfl rfl rfl (k_47 S) (Nat.le_of_ble_eq_true rfl) (Nat.zero_le _) (Nat.zero_le _) Rw ?_
    show Wp _ _ _ 9 [(0, .ref 47), (1, .int (nI w))] [.int (nI (2 ^ zn σ)), .int (nI w)] h _ _
    refine r_icmp 20 (q143 (i := 5) rfl) (by decide) (fun zz => absurd zz (show ¬ (nI (2 ^ zn σ) ≤ nI w) from fun y => absurd hx.2 (nlt0 y))) (fun _ => ?_)
    refine r_aload_n (q143 (i := 6) rfl) rfl ?_
    refine r_iload_n (q143 (i := 7) rfl) rfl ?_
    refine r_cV (d := _) (q143 (i := 8) rfl) rfl rfl rfl (k_47 S) (Nat.le_of_ble_eq_true rfl) (Nat.zero_le _) (Nat.zero_le _) Rg ?_
    show Wp _ _ _ 17 [(0, .ref 47), (1, .int (nI w))] [.int 0] h _ _
    refine r_if 22 (q143 (i := 9) rfl) (by decide) (fun _ => ?_) (fun zz => absurd (show (0 : Int32) = 0 from by decide) zz)
    refine r_aload_n (q143 (i := 12) rfl) rfl ?_
    refine r_iload_n (q143 (i := 13) rfl) rfl ?_
    refine r_cV (d := _) (q143 (i := 14) rfl) rfl rfl rfl (k_47 S) (Nat.le_of_ble_eq_true rfl) (Nat.zero_le _) (Nat.zero_le _) Rv ?_
    show Wp _ _ _ 27 [(0, .ref 47), (1, .int (nI w))] [] (givM h w (zv σ).2.2) _ _
    refine r_aload_n (q143 (i := 15) rfl) rfl ?_
    refine r_getI (x := nI ((zv σ).2.2 + 1)) (q143 (i := 16) rfl) rfl (by decide) (k_47 S) (fun _ _ _ => rfl) rfl ?_
    exact r_iret (q143 (i := 17) rfl) rfl hQ
  · rw [if_neg q, if_neg q]
    refine ⟨h, ?_, M, FM.rf h⟩
    refine Run.of (d := 7) (Nat.le_of_ble_eq_true rfl) (fun Q hQ => ?_)
    show Wp (Ex 7) 143 Q 0 [(0, .ref 47), (1, .int x)] [] h 0 0
    refine r_iload_n (q143 (i := 0) rfl) rfl ?_
    refine r_if 20 (q143 (i := 1) rfl) (by decide) (fun c1 => ?_) (fun c1 => ?_)
    · have c1 : x < 0 := c1
      refine r_iconst (v := (-1)) (q143 (i := 10) rfl) (by decide) ?_
      exact r_iret (q143 (i := 11) rfl) rfl hQ
    · have c1 : ¬ (x < 0) := c1
      refine r_iload_n (q143 (i := 2) rfl) rfl ?_
      refine r_aload_n (q143 (i := 3) rfl) rfl ?_
      refine r_cV (d := _) (q143 (i := 4) rfl) rfl rfl rfl (k_47 S) (Nat.le_of_ble_eq_true rfl) (Nat.zero_le _) (Nat.zero_le _) Rw ?_
      show Wp _ _ _ 9 [(0, .ref 47), (1, .int x)] [.int (nI (2 ^ zn σ)), .int x] h _ _
      refine r_icmp 20 (q143 (i := 5) rfl) (by decide) (fun c9 => ?_) (fun c9 => ?_)
      · have c9 : nI (2 ^ zn σ) ≤ x := c9
        refine r_iconst (v := (-1)) (q143 (i := 10) rfl) (by decide) ?_
        exact r_iret (q143 (i := 11) rfl) rfl hQ
      · have c9 : ¬ (nI (2 ^ zn σ) ≤ x) := c9
        have hw : isw (zn σ) x = true := decide_eq_true ⟨c1, lt0 c9⟩
        obtain ⟨w, w1, w2, w3, ew⟩ := isw_t hn hw
        have hi : inV (zv σ).1 w = true := by
          cases hi : inV (zv σ).1 w with
          | true => rfl
          | false => exact absurd (by unfold okv; rw [hw, ew, nI_clamp (by omega), hi]; rfl) q
        have Rg := sp_isGiven (d := 6) S w2
        rw [M.2.2.2.1.1, hi, if_pos rfl, ← ew] at Rg
        refine r_aload_n (q143 (i := 6) rfl) rfl ?_
        refine r_iload_n (q143 (i := 7) rfl) rfl ?_
        refine r_cV (d := _) (q143 (i := 8) rfl) rfl rfl rfl (k_47 S) (Nat.le_of_ble_eq_true rfl) (Nat.zero_le _) (Nat.zero_le _) Rg ?_
        show Wp _ _ _ 17 [(0, .ref 47), (1, .int x)] [.int 1] h _ _
        refine r_if 22 (q143 (i := 9) rfl) (by decide) (fun zz => absurd zz (show ¬ ((1 : Int32) = 0) from by decide)) (fun _ => ?_)
        refine r_iconst (v := (-1)) (q143 (i := 10) rfl) (by decide) ?_
        exact r_iret (q143 (i := 11) rfl) rfl hQ
set_option maxHeartbeats 2000000 in
set_option maxRecDepth 10000 in
theorem ms_given {h : hp} {σ : st8} (M : MI h σ) (Z : zok σ) (x : Int32) : MStep 145 [.ref 47, .int x] h (aGvn σ x) σ := by
  have S := M.1.1
  have vl := vok_le Z.2.2.2.1
  refine ⟨h, ?_, M, FM.rf h⟩
  unfold aGvn
  by_cases q : okg σ x = true
  · rw [if_pos q]
    have hx := of_decide_eq_true q
    obtain ⟨k, hk, ek⟩ := okg_t Z.2.2.2.1 q
    subst ek
    rw [nI_clamp (by omega)]
    refine Run.of (d := 7) (Nat.le_of_ble_eq_true rfl) (fun Q hQ => ?_)
    show Wp (Ex 7) 145 Q 0 [(0, .ref 47), (1, .int (nI k))] [] h 0 0
    refine r_iload_n (q145 (i := 0) rfl) rfl ?_
    refine r_if 21 (q145 (i := 1) rfl) (by decide) (fun zz => absurd zz (show ¬ (nI k < 0) from hx.1)) (fun _ => ?_)
    refine r_iload_n (q145 (i := 2) rfl) rfl ?_
    refine r_aload_n (q145 (i := 3) rfl) rfl ?_
    refine r_getI (x := nI (zv σ).2.2) (q145 (i := 4) rfl) rfl (by decide) (k_47 S) (fun _ _ _ => rfl) M.2.2.2.1.2.2 ?_
    refine r_icmp 21 (q145 (i := 5) rfl) (by decide) (fun zz => absurd zz (show ¬ (nI (zv σ).2.2 ≤ nI k) from fun y => absurd hx.2 (nlt0 y))) (fun _ => ?_)
    refine r_aload_n (q145 (i := 6) rfl) rfl ?_
    refine r_getR (b := 1072) (q145 (i := 7) rfl) rfl (by decide) (k_47 S) (fun _ _ _ => rfl) (r_47_16 S) ?_
    refine r_iload_n (q145 (i := 8) rfl) rfl ?_
    refine r_iaN (x := (zv σ).2.1 k) (q145 (i := 9) rfl) (k_1072 S) (by omega) (by decide) (by rw [M.2.2.2.1.2.1]) ?_
    refine r_goto 22 (q145 (i := 10) rfl) (by decide) ?_
    exact r_iret (q145 (i := 12) rfl) rfl hQ
  · rw [if_neg q]
    refine Run.of (d := 7) (Nat.le_of_ble_eq_true rfl) (fun Q hQ => ?_)
    show Wp (Ex 7) 145 Q 0 [(0, .ref 47), (1, .int x)] [] h 0 0
    refine r_iload_n (q145 (i := 0) rfl) rfl ?_
    refine r_if 21 (q145 (i := 1) rfl) (by decide) (fun c1 => ?_) (fun c1 => ?_)
    · have c1 : x < 0 := c1
      refine r_iconst (v := (-1)) (q145 (i := 11) rfl) (by decide) ?_
      exact r_iret (q145 (i := 12) rfl) rfl hQ
    · have c1 : ¬ (x < 0) := c1
      refine r_iload_n (q145 (i := 2) rfl) rfl ?_
      refine r_aload_n (q145 (i := 3) rfl) rfl ?_
      refine r_getI (x := nI (zv σ).2.2) (q145 (i := 4) rfl) rfl (by decide) (k_47 S) (fun _ _ _ => rfl) M.2.2.2.1.2.2 ?_
      refine r_icmp 21 (q145 (i := 5) rfl) (by decide) (fun _ => ?_) (fun zz => absurd (show nI (zv σ).2.2 ≤ x from Int32.not_lt.mp (fun y => q (decide_eq_true ⟨c1, y⟩))) zz)
      refine r_iconst (v := (-1)) (q145 (i := 11) rfl) (by decide) ?_
      exact r_iret (q145 (i := 12) rfl) rfl hQ
