/-! ===== gates, pure ===== -/
def gchoice (n : Nat) (γ : gs) (a b c : Nat) : Nat × gs := ((gand n (gand n (gand n γ a b).2 (a ^^^ 1) c).2 ((gand n γ a b).1 ^^^ 1) ((gand n (gand n γ a b).2 (a ^^^ 1) c).1 ^^^ 1)).1 ^^^ 1, (gand n (gand n (gand n γ a b).2 (a ^^^ 1) c).2 ((gand n γ a b).1 ^^^ 1) ((gand n (gand n γ a b).2 (a ^^^ 1) c).1 ^^^ 1)).2)
def gmaj (n : Nat) (γ : gs) (a b c : Nat) : Nat × gs :=
  let r1 := gand n γ a b
  let r2 := gand n r1.2 (a ^^^ 1) (b ^^^ 1)
  let r3 := gand n r2.2 c (r2.1 ^^^ 1)
  let r4 := gand n r3.2 (r1.1 ^^^ 1) (r3.1 ^^^ 1)
  (r4.1 ^^^ 1, r4.2)
def gnot (r : Nat × gs) : Nat × gs := (r.1 ^^^ 1, r.2)
def gkind (n : Nat) (γ : gs) (kd a b c : Nat) : Nat × gs :=
  if kd = 0 then gand n γ a b else if kd = 1 then gnot (gand n γ (a ^^^ 1) (b ^^^ 1)) else if kd = 2 then gchoice n γ a (b ^^^ 1) b else if kd = 3 then gnot (gand n γ a b) else if kd = 4 then gand n γ (a ^^^ 1) (b ^^^ 1)
  else if kd = 5 then gnot (gchoice n γ a (b ^^^ 1) b) else if kd = 6 then gchoice n γ a b c else if kd = 7 then gmaj n γ a b c else (0, γ)
/-- what a step of the graph keeps: it's a graph, the LITERAL is in it, it has grown by k at most -/
def gok (n : Nat) (γ : gs) (k : Nat) (r : Nat × gs) : Prop := gwf n r.2 ∧ r.1 < 2 * gC r.2 ∧ gC γ ≤ gC r.2 ∧ gC r.2 ≤ gC γ + k
theorem gok_and {n : Nat} {γ : gs} {p q : Nat} (h : gwf n γ) (hp : p < 2 * gC γ) (hq : q < 2 * gC γ) : gok n γ 1 (gand n γ p q) := gand_facts h hp hq
theorem gok_not {n : Nat} {γ : gs} {k : Nat} {r : Nat × gs} (h : gok n γ k r) : gok n γ k (gnot r) := ⟨h.1, xor1_lt h.2.1, h.2.2⟩
theorem gok_choice {n : Nat} {γ : gs} {a b c : Nat} (h : gwf n γ) (ha : a < 2 * gC γ) (hb : b < 2 * gC γ) (hc : c < 2 * gC γ) : gok n γ 3 (gchoice n γ a b c) := by
  obtain ⟨w1, l1, u1, v1⟩ := gok_and h ha hb
  obtain ⟨w2, l2, u2, v2⟩ := gok_and (n := n) (γ := (gand n γ a b).2) (p := a ^^^ 1) (q := c) w1 (by have := xor1_lt ha; omega) (by omega)
  obtain ⟨w3, l3, u3, v3⟩ := gok_and (n := n) (γ := (gand n (gand n γ a b).2 (a ^^^ 1) c).2) (p := (gand n γ a b).1 ^^^ 1) (q := (gand n (gand n γ a b).2 (a ^^^ 1) c).1 ^^^ 1) w2 (by have := xor1_lt l1; omega) (xor1_lt l2)
  exact ⟨w3, xor1_lt l3, by show _ ≤ gC (gchoice n γ a b c).2; unfold gchoice; dsimp only; omega, by show gC (gchoice n γ a b c).2 ≤ _; unfold gchoice; dsimp only; omega⟩
theorem gok_maj {n : Nat} {γ : gs} {a b c : Nat} (h : gwf n γ) (ha : a < 2 * gC γ) (hb : b < 2 * gC γ) (hc : c < 2 * gC γ) : gok n γ 4 (gmaj n γ a b c) := by
  unfold gmaj
  dsimp only
  obtain ⟨w1, l1, u1, v1⟩ := gok_and h ha hb
  generalize gand n γ a b = r1 at *
  obtain ⟨w2, l2, u2, v2⟩ := gok_and (n := n) (γ := r1.2) (p := a ^^^ 1) (q := b ^^^ 1) w1 (by have := xor1_lt ha; omega) (by have := xor1_lt hb; omega)
  generalize gand n r1.2 (a ^^^ 1) (b ^^^ 1) = r2 at *
  obtain ⟨w3, l3, u3, v3⟩ := gok_and (n := n) (γ := r2.2) (p := c) (q := r2.1 ^^^ 1) w2 (by omega) (xor1_lt l2)
  generalize gand n r2.2 c (r2.1 ^^^ 1) = r3 at *
  obtain ⟨w4, l4, u4, v4⟩ := gok_and (n := n) (γ := r3.2) (p := r1.1 ^^^ 1) (q := r3.1 ^^^ 1) w3 (by have := xor1_lt l1; omega) (xor1_lt l3)
  exact ⟨w4, xor1_lt l4, by dsimp only; omega, by dsimp only; omega⟩
theorem gok_more {n : Nat} {γ : gs} {k k' : Nat} {r : Nat × gs} (h : gok n γ k r) (hk : k ≤ k') : gok n γ k' r := ⟨h.1, h.2.1, h.2.2.1, by have := h.2.2.2; omega⟩
theorem gok_kind {n : Nat} {γ : gs} (kd : Nat) {a b c : Nat} (h : gwf n γ) (ha : a < 2 * gC γ) (hb : b < 2 * gC γ) (hc : c < 2 * gC γ) : gok n γ 4 (gkind n γ kd a b c) := by
  unfold gkind
  split
  · exact gok_more (gok_and h ha hb) (by decide)
  · split
    · exact gok_more (gok_not (gok_and h (xor1_lt ha) (xor1_lt hb))) (by decide)
    · split
      · exact gok_more (gok_choice h ha (xor1_lt hb) hb) (by decide)
      · split
        · exact gok_more (gok_not (gok_and h ha hb)) (by decide)
        · split
          · exact gok_more (gok_and h (xor1_lt ha) (xor1_lt hb)) (by decide)
          · split
            · exact gok_more (gok_not (gok_choice h ha (xor1_lt hb) hb)) (by decide)
            · split
              · exact gok_more (gok_choice h ha hb hc) (by decide)
              · split
                · exact gok_maj h ha hb hc
                · exact ⟨h, by have := h.1; show 0 < 2 * gC γ; omega, Nat.le_refl _, by show gC γ ≤ gC γ + 4; omega⟩
set_option maxHeartbeats 2000000 in
set_option maxRecDepth 10000 in
theorem sp_makeChoice {d : Nat} {h : hp} (S : Sh h) {ρ n rw : Nat} {γ : gs} (G : GC h ρ n rw γ) (W : gwf n γ) {a b c : Nat} (ha : a < 2 * gC γ) (hb : b < 2 * gC γ) (hc : c < 2 * gC γ) (hc3 : gC γ + 2 < 973) : ∃ h', Run (d + 3 + 1) 50 [.ref 21, .int (nI a), .int (nI b), .int (nI c)] h 0 0 (some (.int (nI (gchoice n γ a b c).1))) h' ∧ GC h' ρ n rw (gchoice n γ a b c).2 ∧ FrG ρ h h' := by
  have xa := xor1_lt ha
  obtain ⟨h1, R1, G1, F1⟩ := sp_makeAnd (d := d) S G W ha hb (by omega)
  obtain ⟨W1, t1, u1, v1⟩ := gok_and W ha hb
  unfold gchoice
  generalize gand n γ a b = r1 at *
  have S1 := S.to F1.1
  obtain ⟨h2, R2, G2, F2⟩ := sp_makeAnd (d := d) (p := a ^^^ 1) (q := c) S1 G1 W1 (by omega) (by omega) (by omega)
  obtain ⟨W2, t2, u2, v2⟩ := gok_and (n := n) (p := a ^^^ 1) (q := c) W1 (by omega) (by omega)
  generalize gand n r1.2 (a ^^^ 1) c = r2 at *
  have S2 := S1.to F2.1
  have x1 := xor1_lt t1
  have x2 := xor1_lt t2
  obtain ⟨h3, R3, G3, F3⟩ := sp_makeAnd (d := d) (p := r1.1 ^^^ 1) (q := r2.1 ^^^ 1) S2 G2 W2 (by omega) (by omega) (by omega)
  generalize gand n r2.2 (r1.1 ^^^ 1) (r2.1 ^^^ 1) = r3 at *
  refine ⟨h3, ?_, G3, (F1.tr F2).tr F3⟩
  refine Run.of (Nat.le_of_ble_eq_true rfl) (fun Q hQ => ?_)
  show Wp (Ex (d + 3)) 50 Q 0 [(0, .ref 21), (1, .int (nI a)), (2, .int (nI b)), (3, .int (nI c))] [] h 0 0
  refine r_aload_n (q50 (i := 0) rfl) rfl ?_
  refine r_iload_n (q50 (i := 1) rfl) rfl ?_
  refine r_iload_n (q50 (i := 2) rfl) rfl ?_
  refine r_cV (d := _) (q50 (i := 3) rfl) rfl rfl rfl (k_21 S) (Nat.le_of_ble_eq_true rfl) (Nat.zero_le _) (Nat.zero_le _) R1 ?_
  show Wp _ _ _ 6 [(0, .ref 21), (1, .int (nI a)), (2, .int (nI b)), (3, .int (nI c))] [.int (nI r1.1)] h1 _ _
  refine r_istore (ls' := [(4, .int (nI r1.1)), (0, .ref 21), (1, .int (nI a)), (2, .int (nI b)), (3, .int (nI c))]) (q50 (i := 4) rfl) (Nat.le_of_ble_eq_true rfl) rfl ?_
  refine r_aload_n (q50 (i := 5) rfl) rfl ?_
  refine r_iload_n (q50 (i := 6) rfl) rfl ?_
  refine r_iconst (v := 1) (q50 (i := 7) rfl) (by decide) ?_
  refine r_ixor (q50 (i := 8) rfl) ?_
  rw [show ((nI a) ^^^ 1 : Int32) = nI (a ^^^ 1) from xor1 _]
  refine r_iload_n (q50 (i := 9) rfl) rfl ?_
  refine r_cV (d := _) (q50 (i := 10) rfl) rfl rfl rfl (k_21 S1) (Nat.le_of_ble_eq_true rfl) (Nat.zero_le _) (Nat.zero_le _) R2 ?_
  show Wp _ _ _ 16 [(4, .int (nI r1.1)), (0, .ref 21), (1, .int (nI a)), (2, .int (nI b)), (3, .int (nI c))] [.int (nI r2.1)] h2 _ _
  refine r_istore (ls' := [(5, .int (nI r2.1)), (4, .int (nI r1.1)), (0, .ref 21), (1, .int (nI a)), (2, .int (nI b)), (3, .int (nI c))]) (q50 (i := 11) rfl) (Nat.le_of_ble_eq_true rfl) rfl ?_
  refine r_aload_n (q50 (i := 12) rfl) rfl ?_
  refine r_iload (q50 (i := 13) rfl) rfl ?_
  refine r_iconst (v := 1) (q50 (i := 14) rfl) (by decide) ?_
  refine r_ixor (q50 (i := 15) rfl) ?_
  rw [show ((nI r1.1) ^^^ 1 : Int32) = nI (r1.1 ^^^ 1) from xor1 _]
  refine r_iload (q50 (i := 16) rfl) rfl ?_
  refine r_iconst (v := 1) (q50 (i := 17) rfl) (by decide) ?_
  refine r_ixor (q50 (i := 18) rfl) ?_
  rw [show ((nI r2.1) ^^^ 1 : Int32) = nI (r2.1 ^^^ 1) from xor1 _]
  refine r_cV (d := _) (q50 (i := 19) rfl) rfl rfl rfl (k_21 S2) (Nat.le_of_ble_eq_true rfl) (Nat.zero_le _) (Nat.zero_le _) R3 ?_
  show Wp _ _ _ 30 [(5, .int (nI r2.1)), (4, .int (nI r1.1)), (0, .ref 21), (1, .int (nI a)), (2, .int (nI b)), (3, .int (nI c))] [.int (nI r3.1)] h3 _ _
  refine r_iconst (v := 1) (q50 (i := 20) rfl) (by decide) ?_
  refine r_ixor (q50 (i := 21) rfl) ?_
  rw [show ((nI r3.1) ^^^ 1 : Int32) = nI (r3.1 ^^^ 1) from xor1 _]
  exact r_iret (q50 (i := 22) rfl) rfl hQ
set_option maxHeartbeats 2000000 in
set_option maxRecDepth 10000 in
theorem sp_makeMajority {d : Nat} {h : hp} (S : Sh h) {ρ n rw : Nat} {γ : gs} (G : GC h ρ n rw γ) (W : gwf n γ) {a b c : Nat} (ha : a < 2 * gC γ) (hb : b < 2 * gC γ) (hc : c < 2 * gC γ) (hc3 : gC γ + 3 < 973) : ∃ h', Run (d + 3 + 1) 51 [.ref 21, .int (nI a), .int (nI b), .int (nI c)] h 0 0 (some (.int (nI (gmaj n γ a b c).1))) h' ∧ GC h' ρ n rw (gmaj n γ a b c).2 ∧ FrG ρ h h' := by
  have xa := xor1_lt ha
  have xb := xor1_lt hb
  obtain ⟨h1, R1, G1, F1⟩ := sp_makeAnd (d := d) S G W ha hb (by omega)
  obtain ⟨W1, t1, u1, v1⟩ := gok_and W ha hb
  unfold gmaj
  dsimp only
  generalize gand n γ a b = r1 at *
  have S1 := S.to F1.1
  obtain ⟨h2, R2, G2, F2⟩ := sp_makeAnd (d := d) (p := a ^^^ 1) (q := b ^^^ 1) S1 G1 W1 (by omega) (by omega) (by omega)
  obtain ⟨W2, t2, u2, v2⟩ := gok_and (n := n) (p := a ^^^ 1) (q := b ^^^ 1) W1 (by omega) (by omega)
  generalize gand n r1.2 (a ^^^ 1) (b ^^^ 1) = r2 at *
  have S2 := S1.to F2.1
  have x1 := xor1_lt t1
  have x2 := xor1_lt t2
  obtain ⟨h3, R3, G3, F3⟩ := sp_makeAnd (d := d) (p := c) (q := r2.1 ^^^ 1) S2 G2 W2 (by omega) (by omega) (by omega)
  obtain ⟨W3, t3, u3, v3⟩ := gok_and (n := n) (p := c) (q := r2.1 ^^^ 1) W2 (by omega) (by omega)
  generalize gand n r2.2 c (r2.1 ^^^ 1) = r3 at *
  have S3 := S2.to F3.1
  have x3 := xor1_lt t3
  obtain ⟨h4, R4, G4, F4⟩ := sp_makeAnd (d := d) (p := r1.1 ^^^ 1) (q := r3.1 ^^^ 1) S3 G3 W3 (by omega) (by omega) (by omega)
  generalize gand n r3.2 (r1.1 ^^^ 1) (r3.1 ^^^ 1) = r4 at *
  refine ⟨h4, ?_, G4, ((F1.tr F2).tr F3).tr F4⟩
  refine Run.of (Nat.le_of_ble_eq_true rfl) (fun Q hQ => ?_)
  show Wp (Ex (d + 3)) 51 Q 0 [(0, .ref 21), (1, .int (nI a)), (2, .int (nI b)), (3, .int (nI c))] [] h 0 0
  refine r_aload_n (q51 (i := 0) rfl) rfl ?_
  refine r_iload_n (q51 (i := 1) rfl) rfl ?_
  refine r_iload_n (q51 (i := 2) rfl) rfl ?_
  refine r_cV (d := _) (q51 (i := 3) rfl) rfl rfl rfl (k_21 S) (Nat.le_of_ble_eq_true rfl) (Nat.zero_le _) (Nat.zero_le _) R1 ?_
  show Wp _ _ _ 6 [(0, .ref 21), (1, .int (nI a)), (2, .int (nI b)), (3, .int (nI c))] [.int (nI r1.1)] h1 _ _
  refine r_istore (ls' := [(4, .int (nI r1.1)), (0, .ref 21), (1, .int (nI a)), (2, .int (nI b)), (3, .int (nI c))]) (q51 (i := 4) rfl) (Nat.le_of_ble_eq_true rfl) rfl ?_
  refine r_aload_n (q51 (i := 5) rfl) rfl ?_
  refine r_iload_n (q51 (i := 6) rfl) rfl ?_
  refine r_iconst (v := 1) (q51 (i := 7) rfl) (by decide) ?_
  refine r_ixor (q51 (i := 8) rfl) ?_
  rw [show ((nI a) ^^^ 1 : Int32) = nI (a ^^^ 1) from xor1 _]
  refine r_iload_n (q51 (i := 9) rfl) rfl ?_
  refine r_iconst (v := 1) (q51 (i := 10) rfl) (by decide) ?_
  refine r_ixor (q51 (i := 11) rfl) ?_
  rw [show ((nI b) ^^^ 1 : Int32) = nI (b ^^^ 1) from xor1 _]
  refine r_cV (d := _) (q51 (i := 12) rfl) rfl rfl rfl (k_21 S1) (Nat.le_of_ble_eq_true rfl) (Nat.zero_le _) (Nat.zero_le _) R2 ?_
  show Wp _ _ _ 18 [(4, .int (nI r1.1)), (0, .ref 21), (1, .int (nI a)), (2, .int (nI b)), (3, .int (nI c))] [.int (nI r2.1)] h2 _ _
  refine r_istore (ls' := [(5, .int (nI r2.1)), (4, .int (nI r1.1)), (0, .ref 21), (1, .int (nI a)), (2, .int (nI b)), (3, .int (nI c))]) (q51 (i := 13) rfl) (Nat.le_of_ble_eq_true rfl) rfl ?_
  refine r_aload_n (q51 (i := 14) rfl) rfl ?_
  refine r_iload_n (q51 (i := 15) rfl) rfl ?_
  refine r_iload (q51 (i := 16) rfl) rfl ?_
  refine r_iconst (v := 1) (q51 (i := 17) rfl) (by decide) ?_
  refine r_ixor (q51 (i := 18) rfl) ?_
  rw [show ((nI r2.1) ^^^ 1 : Int32) = nI (r2.1 ^^^ 1) from xor1 _]
  refine r_cV (d := _) (q51 (i := 19) rfl) rfl rfl rfl (k_21 S2) (Nat.le_of_ble_eq_true rfl) (Nat.zero_le _) (Nat.zero_le _) R3 ?_
  show Wp _ _ _ 29 [(5, .int (nI r2.1)), (4, .int (nI r1.1)), (0, .ref 21), (1, .int (nI a)), (2, .int (nI b)), (3, .int (nI c))] [.int (nI r3.1)] h3 _ _
  refine r_istore (ls' := [(6, .int (nI r3.1)), (5, .int (nI r2.1)), (4, .int (nI r1.1)), (0, .ref 21), (1, .int (nI a)), (2, .int (nI b)), (3, .int (nI c))]) (q51 (i := 20) rfl) (Nat.le_of_ble_eq_true rfl) rfl ?_
  refine r_aload_n (q51 (i := 21) rfl) rfl ?_
  refine r_iload (q51 (i := 22) rfl) rfl ?_
  refine r_iconst (v := 1) (q51 (i := 23) rfl) (by decide) ?_
  refine r_ixor (q51 (i := 24) rfl) ?_
  rw [show ((nI r1.1) ^^^ 1 : Int32) = nI (r1.1 ^^^ 1) from xor1 _]
  refine r_iload (q51 (i := 25) rfl) rfl ?_
  refine r_iconst (v := 1) (q51 (i := 26) rfl) (by decide) ?_
  refine r_ixor (q51 (i := 27) rfl) ?_
  rw [show ((nI r3.1) ^^^ 1 : Int32) = nI (r3.1 ^^^ 1) from xor1 _]
  refine r_cV (d := _) (q51 (i := 28) rfl) rfl rfl rfl (k_21 S3) (Nat.le_of_ble_eq_true rfl) (Nat.zero_le _) (Nat.zero_le _) R4 ?_
  show Wp _ _ _ 43 [(6, .int (nI r3.1)), (5, .int (nI r2.1)), (4, .int (nI r1.1)), (0, .ref 21), (1, .int (nI a)), (2, .int (nI b)), (3, .int (nI c))] [.int (nI r4.1)] h4 _ _
  refine r_iconst (v := 1) (q51 (i := 29) rfl) (by decide) ?_
  refine r_ixor (q51 (i := 30) rfl) ?_
  rw [show ((nI r4.1) ^^^ 1 : Int32) = nI (r4.1 ^^^ 1) from xor1 _]
  exact r_iret (q51 (i := 31) rfl) rfl hQ
set_option maxHeartbeats 2000000 in
set_option maxRecDepth 10000 in
theorem sp_makeKind {d : Nat} {h : hp} (S : Sh h) {ρ n rw : Nat} {γ : gs} (G : GC h ρ n rw γ) (W : gwf n γ) {a b c : Nat} (ha : a < 2 * gC γ) (hb : b < 2 * gC γ) (hc : c < 2 * gC γ) (hc3 : gC γ + 3 < 973) (kd : Nat) (hkd : kd ≤ 8) {av bv cv : Int32} (hab : kd ≠ 8 → av = nI a ∧ bv = nI b) (hcv : kd = 6 ∨ kd = 7 → cv = nI c) : ∃ h', Run (d + 4 + 1) 49 [.ref 21, .int (nI kd), .int av, .int bv, .int cv] h 0 0 (some (.int (nI (gkind n γ kd a b c).1))) h' ∧ GC h' ρ n rw (gkind n γ kd a b c).2 ∧ FrG ρ h h' := by
  have xa := xor1_lt ha
  have xb := xor1_lt hb
  rcases (show kd = 0 ∨ kd = 1 ∨ kd = 2 ∨ kd = 3 ∨ kd = 4 ∨ kd = 5 ∨ kd = 6 ∨ kd = 7 ∨ kd = 8 by omega) with rfl | rfl | rfl | rfl | rfl | rfl | rfl | rfl | rfl
  · obtain ⟨rfl, rfl⟩ := hab (by decide)
    obtain ⟨h1, R1, G1, F1⟩ := sp_makeAnd (d := d + 1) S G W ha hb (by omega)
    have S1 := S.to F1.1
    show ∃ h', Run (d + 4 + 1) 49 _ h 0 0 (some (.int (nI (gand n γ a b).1))) h' ∧ GC h' ρ n rw (gand n γ a b).2 ∧ FrG ρ h h'
    generalize gand n γ a b = r1 at *
    refine ⟨h1, ?_, G1, F1⟩
    refine Run.of (Nat.le_of_ble_eq_true rfl) (fun Q hQ => ?_)
    show Wp (Ex (d + 4)) 49 Q 0 [(0, .ref 21), (1, .int (nI 0)), (2, .int (nI a)), (3, .int (nI b)), (4, .int cv)] [] h 0 0
    refine r_iload_n (q49 (i := 0) rfl) rfl ?_
    refine r_swIn (off := 47) 48 (q49 (i := 1) rfl) (by decide) (by decide) (by decide) (by decide) ?_
    refine r_aload_n (q49 (i := 2) rfl) rfl ?_
    refine r_iload_n (q49 (i := 3) rfl) rfl ?_
    refine r_iload_n (q49 (i := 4) rfl) rfl ?_
    refine r_cV (d := _) (q49 (i := 5) rfl) rfl rfl rfl (k_21 S) (Nat.le_of_ble_eq_true rfl) (Nat.zero_le _) (Nat.zero_le _) R1 ?_
    show Wp _ _ _ 54 [(0, .ref 21), (1, .int (nI 0)), (2, .int (nI a)), (3, .int (nI b)), (4, .int cv)] [.int (nI r1.1)] h1 _ _
    exact r_iret (q49 (i := 6) rfl) rfl hQ
  · obtain ⟨rfl, rfl⟩ := hab (by decide)
    obtain ⟨h1, R1, G1, F1⟩ := sp_makeAnd (d := d + 1) (p := a ^^^ 1) (q := b ^^^ 1) S G W xa xb (by omega)
    have S1 := S.to F1.1
    show ∃ h', Run (d + 4 + 1) 49 _ h 0 0 (some (.int (nI (gnot (gand n γ (a ^^^ 1) (b ^^^ 1))).1))) h' ∧ GC h' ρ n rw (gnot (gand n γ (a ^^^ 1) (b ^^^ 1))).2 ∧ FrG ρ h h'
    generalize gand n γ (a ^^^ 1) (b ^^^ 1) = r1 at *
    refine ⟨h1, ?_, G1, F1⟩
    refine Run.of (Nat.le_of_ble_eq_true rfl) (fun Q hQ => ?_)
    show Wp (Ex (d + 4)) 49 Q 0 [(0, .ref 21), (1, .int (nI 1)), (2, .int (nI a)), (3, .int (nI b)), (4, .int cv)] [] h 0 0
    refine r_iload_n (q49 (i := 0) rfl) rfl ?_
    refine r_swIn (off := 54) 55 (q49 (i := 1) rfl) (by decide) (by decide) (by decide) (by decide) ?_
    refine r_aload_n (q49 (i := 7) rfl) rfl ?_
    refine r_iload_n (q49 (i := 8) rfl) rfl ?_
    refine r_iconst (v := 1) (q49 (i := 9) rfl) (by decide) ?_
    refine r_ixor (q49 (i := 10) rfl) ?_
    rw [show ((nI a) ^^^ 1 : Int32) = nI (a ^^^ 1) from xor1 _]
    refine r_iload_n (q49 (i := 11) rfl) rfl ?_
    refine r_iconst (v := 1) (q49 (i := 12) rfl) (by decide) ?_
    refine r_ixor (q49 (i := 13) rfl) ?_
    rw [show ((nI b) ^^^ 1 : Int32) = nI (b ^^^ 1) from xor1 _]
    refine r_cV (d := _) (q49 (i := 14) rfl) rfl rfl rfl (k_21 S) (Nat.le_of_ble_eq_true rfl) (Nat.zero_le _) (Nat.zero_le _) R1 ?_
    show Wp _ _ _ 65 [(0, .ref 21), (1, .int (nI 1)), (2, .int (nI a)), (3, .int (nI b)), (4, .int cv)] [.int (nI r1.1)] h1 _ _
    refine r_iconst (v := 1) (q49 (i := 15) rfl) (by decide) ?_
    refine r_ixor (q49 (i := 16) rfl) ?_
    rw [show ((nI r1.1) ^^^ 1 : Int32) = nI (r1.1 ^^^ 1) from xor1 _]
    exact r_iret (q49 (i := 17) rfl) rfl hQ
  · obtain ⟨rfl, rfl⟩ := hab (by decide)
    obtain ⟨h1, R1, G1, F1⟩ := sp_makeChoice (d := d) (a := a) (b := b ^^^ 1) (c := b) S G W ha xb hb (by omega)
    have S1 := S.to F1.1
    show ∃ h', Run (d + 4 + 1) 49 _ h 0 0 (some (.int (nI (gchoice n γ a (b ^^^ 1) b).1))) h' ∧ GC h' ρ n rw (gchoice n γ a (b ^^^ 1) b).2 ∧ FrG ρ h h'
    generalize gchoice n γ a (b ^^^ 1) b = r1 at *
    refine ⟨h1, ?_, G1, F1⟩
    refine Run.of (Nat.le_of_ble_eq_true rfl) (fun Q hQ => ?_)
    show Wp (Ex (d + 4)) 49 Q 0 [(0, .ref 21), (1, .int (nI 2)), (2, .int (nI a)), (3, .int (nI b)), (4, .int cv)] [] h 0 0
    refine r_iload_n (q49 (i := 0) rfl) rfl ?_
    refine r_swIn (off := 67) 68 (q49 (i := 1) rfl) (by decide) (by decide) (by decide) (by decide) ?_
    refine r_aload_n (q49 (i := 18) rfl) rfl ?_
    refine r_iload_n (q49 (i := 19) rfl) rfl ?_
    refine r_iload_n (q49 (i := 20) rfl) rfl ?_
    refine r_iconst (v := 1) (q49 (i := 21) rfl) (by decide) ?_
    refine r_ixor (q49 (i := 22) rfl) ?_
    rw [show ((nI b) ^^^ 1 : Int32) = nI (b ^^^ 1) from xor1 _]
    refine r_iload_n (q49 (i := 23) rfl) rfl ?_
    refine r_cV (d := _) (q49 (i := 24) rfl) rfl rfl rfl (k_21 S) (Nat.le_of_ble_eq_true rfl) (Nat.zero_le _) (Nat.zero_le _) R1 ?_
    show Wp _ _ _ 77 [(0, .ref 21), (1, .int (nI 2)), (2, .int (nI a)), (3, .int (nI b)), (4, .int cv)] [.int (nI r1.1)] h1 _ _
    exact r_iret (q49 (i := 25) rfl) rfl hQ
  · obtain ⟨rfl, rfl⟩ := hab (by decide)
    obtain ⟨h1, R1, G1, F1⟩ := sp_makeAnd (d := d + 1) S G W ha hb (by omega)
    have S1 := S.to F1.1
    show ∃ h', Run (d + 4 + 1) 49 _ h 0 0 (some (.int (nI (gnot (gand n γ a b)).1))) h' ∧ GC h' ρ n rw (gnot (gand n γ a b)).2 ∧ FrG ρ h h'
    generalize gand n γ a b = r1 at *
    refine ⟨h1, ?_, G1, F1⟩
    refine Run.of (Nat.le_of_ble_eq_true rfl) (fun Q hQ => ?_)
    show Wp (Ex (d + 4)) 49 Q 0 [(0, .ref 21), (1, .int (nI 3)), (2, .int (nI a)), (3, .int (nI b)), (4, .int cv)] [] h 0 0
    refine r_iload_n (q49 (i := 0) rfl) rfl ?_
    refine r_swIn (off := 77) 78 (q49 (i := 1) rfl) (by decide) (by decide) (by decide) (by decide) ?_
    refine r_aload_n (q49 (i := 26) rfl) rfl ?_
    refine r_iload_n (q49 (i := 27) rfl) rfl ?_
    refine r_iload_n (q49 (i := 28) rfl) rfl ?_
    refine r_cV (d := _) (q49 (i := 29) rfl) rfl rfl rfl (k_21 S) (Nat.le_of_ble_eq_true rfl) (Nat.zero_le _) (Nat.zero_le _) R1 ?_
    show Wp _ _ _ 84 [(0, .ref 21), (1, .int (nI 3)), (2, .int (nI a)), (3, .int (nI b)), (4, .int cv)] [.int (nI r1.1)] h1 _ _
    refine r_iconst (v := 1) (q49 (i := 30) rfl) (by decide) ?_
    refine r_ixor (q49 (i := 31) rfl) ?_
    rw [show ((nI r1.1) ^^^ 1 : Int32) = nI (r1.1 ^^^ 1) from xor1 _]
    exact r_iret (q49 (i := 32) rfl) rfl hQ
  · obtain ⟨rfl, rfl⟩ := hab (by decide)
    obtain ⟨h1, R1, G1, F1⟩ := sp_makeAnd (d := d + 1) (p := a ^^^ 1) (q := b ^^^ 1) S G W xa xb (by omega)
    have S1 := S.to F1.1
    show ∃ h', Run (d + 4 + 1) 49 _ h 0 0 (some (.int (nI (gand n γ (a ^^^ 1) (b ^^^ 1)).1))) h' ∧ GC h' ρ n rw (gand n γ (a ^^^ 1) (b ^^^ 1)).2 ∧ FrG ρ h h'
    generalize gand n γ (a ^^^ 1) (b ^^^ 1) = r1 at *
    refine ⟨h1, ?_, G1, F1⟩
    refine Run.of (Nat.le_of_ble_eq_true rfl) (fun Q hQ => ?_)
    show Wp (Ex (d + 4)) 49 Q 0 [(0, .ref 21), (1, .int (nI 4)), (2, .int (nI a)), (3, .int (nI b)), (4, .int cv)] [] h 0 0
    refine r_iload_n (q49 (i := 0) rfl) rfl ?_
    refine r_swIn (off := 86) 87 (q49 (i := 1) rfl) (by decide) (by decide) (by decide) (by decide) ?_
    refine r_aload_n (q49 (i := 33) rfl) rfl ?_
    refine r_iload_n (q49 (i := 34) rfl) rfl ?_
    refine r_iconst (v := 1) (q49 (i := 35) rfl) (by decide) ?_
    refine r_ixor (q49 (i := 36) rfl) ?_
    rw [show ((nI a) ^^^ 1 : Int32) = nI (a ^^^ 1) from xor1 _]
    refine r_iload_n (q49 (i := 37) rfl) rfl ?_
    refine r_iconst (v := 1) (q49 (i := 38) rfl) (by decide) ?_
    refine r_ixor (q49 (i := 39) rfl) ?_
    rw [show ((nI b) ^^^ 1 : Int32) = nI (b ^^^ 1) from xor1 _]
    refine r_cV (d := _) (q49 (i := 40) rfl) rfl rfl rfl (k_21 S) (Nat.le_of_ble_eq_true rfl) (Nat.zero_le _) (Nat.zero_le _) R1 ?_
    show Wp _ _ _ 97 [(0, .ref 21), (1, .int (nI 4)), (2, .int (nI a)), (3, .int (nI b)), (4, .int cv)] [.int (nI r1.1)] h1 _ _
    exact r_iret (q49 (i := 41) rfl) rfl hQ
  · obtain ⟨rfl, rfl⟩ := hab (by decide)
    obtain ⟨h1, R1, G1, F1⟩ := sp_makeChoice (d := d) (a := a) (b := b ^^^ 1) (c := b) S G W ha xb hb (by omega)
    have S1 := S.to F1.1
    show ∃ h', Run (d + 4 + 1) 49 _ h 0 0 (some (.int (nI (gnot (gchoice n γ a (b ^^^ 1) b)).1))) h' ∧ GC h' ρ n rw (gnot (gchoice n γ a (b ^^^ 1) b)).2 ∧ FrG ρ h h'
    generalize gchoice n γ a (b ^^^ 1) b = r1 at *
    refine ⟨h1, ?_, G1, F1⟩
    refine Run.of (Nat.le_of_ble_eq_true rfl) (fun Q hQ => ?_)
    show Wp (Ex (d + 4)) 49 Q 0 [(0, .ref 21), (1, .int (nI 5)), (2, .int (nI a)), (3, .int (nI b)), (4, .int cv)] [] h 0 0
    refine r_iload_n (q49 (i := 0) rfl) rfl ?_
    refine r_swIn (off := 97) 98 (q49 (i := 1) rfl) (by decide) (by decide) (by decide) (by decide) ?_
    refine r_aload_n (q49 (i := 42) rfl) rfl ?_
    refine r_iload_n (q49 (i := 43) rfl) rfl ?_
    refine r_iload_n (q49 (i := 44) rfl) rfl ?_
    refine r_iconst (v := 1) (q49 (i := 45) rfl) (by decide) ?_
    refine r_ixor (q49 (i := 46) rfl) ?_
    rw [show ((nI b) ^^^ 1 : Int32) = nI (b ^^^ 1) from xor1 _]
    refine r_iload_n (q49 (i := 47) rfl) rfl ?_
    refine r_cV (d := _) (q49 (i := 48) rfl) rfl rfl rfl (k_21 S) (Nat.le_of_ble_eq_true rfl) (Nat.zero_le _) (Nat.zero_le _) R1 ?_
    show Wp _ _ _ 107 [(0, .ref 21), (1, .int (nI 5)), (2, .int (nI a)), (3, .int (nI b)), (4, .int cv)] [.int (nI r1.1)] h1 _ _
    refine r_iconst (v := 1) (q49 (i := 49) rfl) (by decide) ?_
    refine r_ixor (q49 (i := 50) rfl) ?_
    rw [show ((nI r1.1) ^^^ 1 : Int32) = nI (r1.1 ^^^ 1) from xor1 _]
    exact r_iret (q49 (i := 51) rfl) rfl hQ
  · obtain ⟨rfl, rfl⟩ := hab (by decide)
    obtain rfl := hcv (by decide)
    obtain ⟨h1, R1, G1, F1⟩ := sp_makeChoice (d := d) S G W ha hb hc (by omega)
    have S1 := S.to F1.1
    show ∃ h', Run (d + 4 + 1) 49 _ h 0 0 (some (.int (nI (gchoice n γ a b c).1))) h' ∧ GC h' ρ n rw (gchoice n γ a b c).2 ∧ FrG ρ h h'
    generalize gchoice n γ a b c = r1 at *
    refine ⟨h1, ?_, G1, F1⟩
    refine Run.of (Nat.le_of_ble_eq_true rfl) (fun Q hQ => ?_)
    show Wp (Ex (d + 4)) 49 Q 0 [(0, .ref 21), (1, .int (nI 6)), (2, .int (nI a)), (3, .int (nI b)), (4, .int (nI c))] [] h 0 0
    refine r_iload_n (q49 (i := 0) rfl) rfl ?_
    refine r_swIn (off := 109) 110 (q49 (i := 1) rfl) (by decide) (by decide) (by decide) (by decide) ?_
    refine r_aload_n (q49 (i := 52) rfl) rfl ?_
    refine r_iload_n (q49 (i := 53) rfl) rfl ?_
    refine r_iload_n (q49 (i := 54) rfl) rfl ?_
    refine r_iload (q49 (i := 55) rfl) rfl ?_
    refine r_cV (d := _) (q49 (i := 56) rfl) rfl rfl rfl (k_21 S) (Nat.le_of_ble_eq_true rfl) (Nat.zero_le _) (Nat.zero_le _) R1 ?_
    show Wp _ _ _ 118 [(0, .ref 21), (1, .int (nI 6)), (2, .int (nI a)), (3, .int (nI b)), (4, .int (nI c))] [.int (nI r1.1)] h1 _ _
    exact r_iret (q49 (i := 57) rfl) rfl hQ
  · obtain ⟨rfl, rfl⟩ := hab (by decide)
    obtain rfl := hcv (by decide)
    obtain ⟨h1, R1, G1, F1⟩ := sp_makeMajority (d := d) S G W ha hb hc (by omega)
    have S1 := S.to F1.1
    show ∃ h', Run (d + 4 + 1) 49 _ h 0 0 (some (.int (nI (gmaj n γ a b c).1))) h' ∧ GC h' ρ n rw (gmaj n γ a b c).2 ∧ FrG ρ h h'
    generalize gmaj n γ a b c = r1 at *
    refine ⟨h1, ?_, G1, F1⟩
    refine Run.of (Nat.le_of_ble_eq_true rfl) (fun Q hQ => ?_)
    show Wp (Ex (d + 4)) 49 Q 0 [(0, .ref 21), (1, .int (nI 7)), (2, .int (nI a)), (3, .int (nI b)), (4, .int (nI c))] [] h 0 0
    refine r_iload_n (q49 (i := 0) rfl) rfl ?_
    refine r_swIn (off := 118) 119 (q49 (i := 1) rfl) (by decide) (by decide) (by decide) (by decide) ?_
    refine r_aload_n (q49 (i := 58) rfl) rfl ?_
    refine r_iload_n (q49 (i := 59) rfl) rfl ?_
    refine r_iload_n (q49 (i := 60) rfl) rfl ?_
    refine r_iload (q49 (i := 61) rfl) rfl ?_
    refine r_cV (d := _) (q49 (i := 62) rfl) rfl rfl rfl (k_21 S) (Nat.le_of_ble_eq_true rfl) (Nat.zero_le _) (Nat.zero_le _) R1 ?_
    show Wp _ _ _ 127 [(0, .ref 21), (1, .int (nI 7)), (2, .int (nI a)), (3, .int (nI b)), (4, .int (nI c))] [.int (nI r1.1)] h1 _ _
    exact r_iret (q49 (i := 63) rfl) rfl hQ
  · refine ⟨h, ?_, G, FrG.rf ρ h⟩
    refine Run.of (Nat.le_of_ble_eq_true rfl) (fun Q hQ => ?_)
    show Wp (Ex (d + 4)) 49 Q 0 [(0, .ref 21), (1, .int (nI 8)), (2, .int av), (3, .int bv), (4, .int cv)] [] h 0 0
    refine r_iload_n (q49 (i := 0) rfl) rfl ?_
    refine r_swOut 128 (q49 (i := 1) rfl) (by decide) (by decide) ?_
    refine r_iconst (v := 0) (q49 (i := 64) rfl) (by decide) ?_
    exact r_iret (q49 (i := 65) rfl) rfl hQ

