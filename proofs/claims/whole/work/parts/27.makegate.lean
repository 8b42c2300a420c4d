/-! ===== a circuit's gates, one by one ===== -/
/-- the LITERAL of a SIGNAL without contraries: inputs first, then gates -/
def sl (n : Nat) (lit : Nat → Nat) (v : Nat) : Nat := if v < n then 2 * (v + 1) else lit (v - n)
def sd (n : Nat) (lit : Nat → Nat) (s : Int32) : Nat := if s < 0 then sl n lit (pl s).toNatClampNeg ^^^ 1 else sl n lit (pl s).toNatClampNeg
/-- a circuit as it was told: kinds and three SIGNALS a gate -/
abbrev cir : Type := (Nat → Int32) × (Nat → Int32) × (Nat → Int32) × (Nat → Int32)
def gop (n : Nat) (c : cir) (st : gs × (Nat → Nat)) (g : Nat) : Nat × gs := gkind n st.1 (c.1 g).toNatClampNeg (if c.1 g = 8 then 0 else sd n st.2 (c.2.1 g)) (if c.1 g = 8 then 0 else sd n st.2 (c.2.2.1 g)) (if c.1 g = 6 ∨ c.1 g = 7 then sd n st.2 (c.2.2.2 g) else 0)
def gstep (n : Nat) (c : cir) (st : gs × (Nat → Nat)) (g : Nat) : gs × (Nat → Nat) := ((gop n c st g).2, u1 st.2 g (gop n c st g).1)
/-- gate g takes what is there -/
def cok (n : Nat) (c : cir) (g : Nat) : Prop := (∃ k, k ≤ 8 ∧ c.1 g = nI k) ∧ (c.1 g ≠ 8 → pl (c.2.1 g) < nI (n + g) ∧ pl (c.2.2.1 g) < nI (n + g)) ∧ (c.1 g = 6 ∨ c.1 g = 7 → pl (c.2.2.2 g) < nI (n + g))
/-- g gates are made -/
def gmade (n g : Nat) (st : gs × (Nat → Nat)) : Prop := gwf n st.1 ∧ ∀ i, i < g → st.2 i < 2 * gC st.1
theorem sl_lt {n g : Nat} {st : gs × (Nat → Nat)} (M : gmade n g st) {v : Nat} (hv : v < n + g) : sl n st.2 v < 2 * gC st.1 := by
  unfold sl
  have := M.1.1
  split
  · omega
  · exact M.2 _ (by omega)
theorem sd_lt {n g : Nat} {st : gs × (Nat → Nat)} (M : gmade n g st) (hg : n + g < 2 ^ 31) {s : Int32} (hs : pl s < nI (n + g)) : sd n st.2 s < 2 * gC st.1 := by
  obtain ⟨k, hk, e⟩ := pl_nat s hg hs
  unfold sd
  rw [e, nI_clamp (by omega)]
  split
  · exact xor1_lt (sl_lt M hk)
  · exact sl_lt M hk
theorem litS_sd {n g m : Nat} {lit : Nat → Nat} {f : Nat → Int32} (hf : ∀ v, v < n + g → f v = nI (sl n lit v)) (hm : n + g ≤ m) (hm1 : m < 2 ^ 31) {s : Int32} (hs : pl s < nI (n + g)) : litS f (nI m) s = nI (sd n lit s) := by
  obtain ⟨k, hk, e⟩ := pl_nat s (by omega) hs
  unfold litS sd
  rw [e, if_pos (nI_lt (by omega) hm1), nI_clamp (by omega)]
  split
  · rw [hf k hk, xor1]
  · next h0 =>
    have : s = nI k := by rw [← e]; exact (pl_pos (by rw [← Int32.not_lt]; exact h0)).symm
    rw [this, nI_clamp (by omega), hf k hk]
theorem gop_ok {n g : Nat} {c : cir} {st : gs × (Nat → Nat)} (M : gmade n g st) (K : cok n c g) (hg : n + g < 2 ^ 31) : gok n st.1 4 (gop n c st g) := by
  have h0 : 0 < 2 * gC st.1 := by have := M.1.1; omega
  unfold gop
  refine gok_kind _ M.1 ?_ ?_ ?_
  · split
    · exact h0
    · next q => exact sd_lt M hg (K.2.1 q).1
  · split
    · exact h0
    · next q => exact sd_lt M hg (K.2.1 q).2
  · split
    · next q => exact sd_lt M hg (K.2.2 q)
    · exact h0
theorem gstep_ok {n g : Nat} {c : cir} {st : gs × (Nat → Nat)} (M : gmade n g st) (K : cok n c g) (hg : n + g < 2 ^ 31) : gmade n (g + 1) (gstep n c st g) ∧ gC st.1 ≤ gC (gstep n c st g).1 ∧ gC (gstep n c st g).1 ≤ gC st.1 + 4 := by
  obtain ⟨a, b, e1, e2⟩ := gop_ok M K hg
  refine ⟨⟨a, fun i hi => ?_⟩, e1, e2⟩
  show u1 st.2 g (gop n c st g).1 i < 2 * gC (gop n c st g).2
  by_cases q : i = g
  · subst q; rw [u1_s]; exact b
  · rw [u1_n q]
    have := M.2 i (by omega)
    omega
/-- a circuit's arrays in the heap -/
def cirH (h : hp) (o : Nat) : cir := (hI h (o + 1), hI h (o + 2), hI h (o + 3), hI h (o + 4))
set_option maxHeartbeats 2000000 in
set_option maxRecDepth 10000 in
theorem sp_makeGate_3 {d : Nat} {h : hp} (S : Sh h) {ρ n rw : Nat} {st : gs × (Nat → Nat)} (G : GC h ρ n rw st.1) {g gc : Nat} (M : gmade n g st) (K : cok n (cirH h 3) g) (hgc : hI h 3 7 = nI gc) (hn : hI h 3 6 = nI n) (hg : g < gc) (hg2 : gc ≤ 120) (hlit : ∀ v, v < n + g → hI h 9 v = nI (sl n st.2 v)) (hc3 : gC st.1 + 3 < 973) :
    ∃ h1, Run (d + 5 + 1) 48 [.ref 21, .ref 3, .int (nI g)] h 0 0 none (sI h1 9 (n + g) (nI (gop n (cirH h 3) st g).1)) ∧ GC h1 ρ n rw (gstep n (cirH h 3) st g).1 ∧ FrG ρ h h1 := by
  have hn12 : n ≤ 12 := G.1.2.2.2
  have e8 : hI h 21 8 = nI n := G.2.1.2.1
  have hm : hI h 3 6 + hI h 3 7 = nI (n + gc) := by rw [hn, hgc, nI_add]
  obtain ⟨k, hk8, hk⟩ := K.1
  have hcl : (hI h 4 g).toNatClampNeg = k := by rw [show hI h 4 g = nI k from hk, nI_clamp (by omega)]
  have hkl : ∀ z, z < 100 → (hI h 4 g = nI z ↔ k = z) := fun z hz => by rw [show hI h 4 g = nI k from hk]; exact nI_eq (by omega) (by omega)
  have L : ∀ s, pl s < nI (n + g) → litS (hI h 9) (nI (n + gc)) s = nI (sd n st.2 s) := fun s hs => litS_sd hlit (by omega) (by omega) hs
  have ok := gop_ok M K (by omega)
  have h0 : 0 < 2 * gC st.1 := by have := M.1.1; omega
  obtain ⟨h1, R1, G1, F1⟩ := sp_makeKind (d := d) S G M.1 (a := if hI h 4 g = 8 then 0 else sd n st.2 (hI h 5 g)) (b := if hI h 4 g = 8 then 0 else sd n st.2 (hI h 6 g)) (c := if hI h 4 g = 6 ∨ hI h 4 g = 7 then sd n st.2 (hI h 7 g) else 0)
    (by split; exact h0; next q => exact sd_lt M (by omega) (K.2.1 q).1) (by split; exact h0; next q => exact sd_lt M (by omega) (K.2.1 q).2) (by split; (next q => exact sd_lt M (by omega) (K.2.2 q)); exact h0) hc3 k hk8
    (av := litS (hI h 9) (nI (n + gc)) (hI h 5 g)) (bv := litS (hI h 9) (nI (n + gc)) (hI h 6 g)) (cv := litS (hI h 9) (nI (n + gc)) (hI h 7 g))
    (fun q => by
      have q : hI h 4 g ≠ 8 := fun z => q ((hkl 8 (by decide)).mp z)
      rw [if_neg q, if_neg q]
      exact ⟨L _ (K.2.1 q).1, L _ (K.2.1 q).2⟩)
    (fun q => by
      have q : hI h 4 g = 6 ∨ hI h 4 g = 7 := by rcases q with q | q; exact Or.inl ((hkl 6 (by decide)).mpr q); exact Or.inr ((hkl 7 (by decide)).mpr q)
      rw [if_pos q]
      exact L _ (K.2.2 q))
  have eg : gkind n st.1 k (if hI h 4 g = 8 then 0 else sd n st.2 (hI h 5 g)) (if hI h 4 g = 8 then 0 else sd n st.2 (hI h 6 g)) (if hI h 4 g = 6 ∨ hI h 4 g = 7 then sd n st.2 (hI h 7 g) else 0) = gop n (cirH h 3) st g := by
    unfold gop
    rw [show ((cirH h 3).1 g).toNatClampNeg = k from hcl]
    rfl
  rw [eg] at R1 G1
  refine ⟨h1, ?_, G1, F1⟩
  have S1 := S.to F1.1
  refine Run.of (Nat.le_of_ble_eq_true rfl) (fun Q hQ => ?_)
  show Wp (Ex (d + 5)) 48 Q 0 [(0, .ref 21), (1, .ref 3), (2, .int (nI g))] [] h 0 0
  refine r_aload_n (q48 (i := 0) rfl) rfl ?_
  refine r_aload_n (q48 (i := 1) rfl) rfl ?_
  refine r_getR (b := 5) (q48 (i := 2) rfl) rfl (by decide) (k_3 S) (fun _ _ _ => rfl) (r_3_1 S) ?_
  refine r_iload_n (q48 (i := 3) rfl) rfl ?_
  refine r_iaN (x := hI h 5 g) (q48 (i := 4) rfl) (k_5 S) (by omega) (by decide) rfl ?_
  refine r_cV (d := _) (q48 (i := 5) rfl) rfl rfl rfl (k_3 S) (Nat.le_of_ble_eq_true rfl) (Nat.zero_le _) (Nat.zero_le _) (sp_literalOf_3 (d := d + 2) S hm (by omega) (hI h 5 g)) ?_
  show Wp _ _ _ 10 [(0, .ref 21), (1, .ref 3), (2, .int (nI g))] [.int (litS (hI h 9) (nI (n + gc)) (hI h 5 g))] h _ _
  refine r_istore_n (ls' := [(3, .int (litS (hI h 9) (nI (n + gc)) (hI h 5 g))), (0, .ref 21), (1, .ref 3), (2, .int (nI g))]) (q48 (i := 6) rfl) (Nat.le_of_ble_eq_true rfl) rfl ?_
  refine r_aload_n (q48 (i := 7) rfl) rfl ?_
  refine r_aload_n (q48 (i := 8) rfl) rfl ?_
  refine r_getR (b := 6) (q48 (i := 9) rfl) rfl (by decide) (k_3 S) (fun _ _ _ => rfl) (r_3_2 S) ?_
  refine r_iload_n (q48 (i := 10) rfl) rfl ?_
  refine r_iaN (x := hI h 6 g) (q48 (i := 11) rfl) (k_6 S) (by omega) (by decide) rfl ?_
  refine r_cV (d := _) (q48 (i := 12) rfl) rfl rfl rfl (k_3 S) (Nat.le_of_ble_eq_true rfl) (Nat.zero_le _) (Nat.zero_le _) (sp_literalOf_3 (d := d + 2) S hm (by omega) (hI h 6 g)) ?_
  show Wp _ _ _ 21 [(3, .int (litS (hI h 9) (nI (n + gc)) (hI h 5 g))), (0, .ref 21), (1, .ref 3), (2, .int (nI g))] [.int (litS (hI h 9) (nI (n + gc)) (hI h 6 g))] h _ _
  refine r_istore (ls' := [(4, .int (litS (hI h 9) (nI (n + gc)) (hI h 6 g))), (3, .int (litS (hI h 9) (nI (n + gc)) (hI h 5 g))), (0, .ref 21), (1, .ref 3), (2, .int (nI g))]) (q48 (i := 13) rfl) (Nat.le_of_ble_eq_true rfl) rfl ?_
  refine r_aload_n (q48 (i := 14) rfl) rfl ?_
  refine r_aload_n (q48 (i := 15) rfl) rfl ?_
  refine r_getR (b := 7) (q48 (i := 16) rfl) rfl (by decide) (k_3 S) (fun _ _ _ => rfl) (r_3_3 S) ?_
  refine r_iload_n (q48 (i := 17) rfl) rfl ?_
  refine r_iaN (x := hI h 7 g) (q48 (i := 18) rfl) (k_7 S) (by omega) (by decide) rfl ?_
  refine r_cV (d := _) (q48 (i := 19) rfl) rfl rfl rfl (k_3 S) (Nat.le_of_ble_eq_true rfl) (Nat.zero_le _) (Nat.zero_le _) (sp_literalOf_3 (d := d + 2) S hm (by omega) (hI h 7 g)) ?_
  show Wp _ _ _ 33 [(4, .int (litS (hI h 9) (nI (n + gc)) (hI h 6 g))), (3, .int (litS (hI h 9) (nI (n + gc)) (hI h 5 g))), (0, .ref 21), (1, .ref 3), (2, .int (nI g))] [.int (litS (hI h 9) (nI (n + gc)) (hI h 7 g))] h _ _
  refine r_istore (ls' := [(5, .int (litS (hI h 9) (nI (n + gc)) (hI h 7 g))), (4, .int (litS (hI h 9) (nI (n + gc)) (hI h 6 g))), (3, .int (litS (hI h 9) (nI (n + gc)) (hI h 5 g))), (0, .ref 21), (1, .ref 3), (2, .int (nI g))]) (q48 (i := 20) rfl) (Nat.le_of_ble_eq_true rfl) rfl ?_
  refine r_aload_n (q48 (i := 21) rfl) rfl ?_
  refine r_getR (b := 9) (q48 (i := 22) rfl) rfl (by decide) (k_3 S) (fun _ _ _ => rfl) (r_3_5 S) ?_
  refine r_aload_n (q48 (i := 23) rfl) rfl ?_
  refine r_getI (x := nI n) (q48 (i := 24) rfl) rfl (by decide) (k_21 S) (fun _ _ _ => rfl) e8 ?_
  refine r_iload_n (q48 (i := 25) rfl) rfl ?_
  refine r_iadd (q48 (i := 26) rfl) ?_
  rw [show ((nI n) + (nI g) : Int32) = nI (n + g) from nI_add _ _]
  refine r_aload_n (q48 (i := 27) rfl) rfl ?_
  refine r_aload_n (q48 (i := 28) rfl) rfl ?_
  refine r_getR (b := 4) (q48 (i := 29) rfl) rfl (by decide) (k_3 S) (fun _ _ _ => rfl) (r_3_0 S) ?_
  refine r_iload_n (q48 (i := 30) rfl) rfl ?_
  refine r_iaN (x := nI k) (q48 (i := 31) rfl) (k_4 S) (by omega) (by decide) hk ?_
  refine r_iload_n (q48 (i := 32) rfl) rfl ?_
  refine r_iload (q48 (i := 33) rfl) rfl ?_
  refine r_iload (q48 (i := 34) rfl) rfl ?_
  refine r_cV (d := _) (q48 (i := 35) rfl) rfl rfl rfl (k_21 S) (Nat.le_of_ble_eq_true rfl) (Nat.zero_le _) (Nat.zero_le _) R1 ?_
  show Wp _ _ _ 60 [(5, .int (litS (hI h 9) (nI (n + gc)) (hI h 7 g))), (4, .int (litS (hI h 9) (nI (n + gc)) (hI h 6 g))), (3, .int (litS (hI h 9) (nI (n + gc)) (hI h 5 g))), (0, .ref 21), (1, .ref 3), (2, .int (nI g))] [.int (nI (gop n (cirH h 3) st g).1), .int (nI (n + g)), .ref 9] h1 _ _
  refine r_iasN (q48 (i := 36) rfl) (k_9 S1) (by omega) (by decide) ?_
  exact r_vret (q48 (i := 37) rfl) rfl hQ
set_option maxHeartbeats 2000000 in
set_option maxRecDepth 10000 in
theorem sp_makeGate_10 {d : Nat} {h : hp} (S : Sh h) {ρ n rw : Nat} {st : gs × (Nat → Nat)} (G : GC h ρ n rw st.1) {g gc : Nat} (M : gmade n g st) (K : cok n (cirH h 10) g) (hgc : hI h 10 7 = nI gc) (hn : hI h 10 6 = nI n) (hg : g < gc) (hg2 : gc ≤ 120) (hlit : ∀ v, v < n + g → hI h 16 v = nI (sl n st.2 v)) (hc3 : gC st.1 + 3 < 973) :
    ∃ h1, Run (d + 5 + 1) 48 [.ref 21, .ref 10, .int (nI g)] h 0 0 none (sI h1 16 (n + g) (nI (gop n (cirH h 10) st g).1)) ∧ GC h1 ρ n rw (gstep n (cirH h 10) st g).1 ∧ FrG ρ h h1 := by
  have hn12 : n ≤ 12 := G.1.2.2.2
  have e8 : hI h 21 8 = nI n := G.2.1.2.1
  have hm : hI h 10 6 + hI h 10 7 = nI (n + gc) := by rw [hn, hgc, nI_add]
  obtain ⟨k, hk8, hk⟩ := K.1
  have hcl : (hI h 11 g).toNatClampNeg = k := by rw [show hI h 11 g = nI k from hk, nI_clamp (by omega)]
  have hkl : ∀ z, z < 100 → (hI h 11 g = nI z ↔ k = z) := fun z hz => by rw [show hI h 11 g = nI k from hk]; exact nI_eq (by omega) (by omega)
  have L : ∀ s, pl s < nI (n + g) → litS (hI h 16) (nI (n + gc)) s = nI (sd n st.2 s) := fun s hs => litS_sd hlit (by omega) (by omega) hs
  have ok := gop_ok M K (by omega)
  have h0 : 0 < 2 * gC st.1 := by have := M.1.1; omega
  obtain ⟨h1, R1, G1, F1⟩ := sp_makeKind (d := d) S G M.1 (a := if hI h 11 g = 8 then 0 else sd n st.2 (hI h 12 g)) (b := if hI h 11 g = 8 then 0 else sd n st.2 (hI h 13 g)) (c := if hI h 11 g = 6 ∨ hI h 11 g = 7 then sd n st.2 (hI h 14 g) else 0)
    (by split; exact h0; next q => exact sd_lt M (by omega) (K.2.1 q).1) (by split; exact h0; next q => exact sd_lt M (by omega) (K.2.1 q).2) (by split; (next q => exact sd_lt M (by omega) (K.2.2 q)); exact h0) hc3 k hk8
    (av := litS (hI h 16) (nI (n + gc)) (hI h 12 g)) (bv := litS (hI h 16) (nI (n + gc)) (hI h 13 g)) (cv := litS (hI h 16) (nI (n + gc)) (hI h 14 g))
    (fun q => by
      have q : hI h 11 g ≠ 8 := fun z => q ((hkl 8 (by decide)).mp z)
      rw [if_neg q, if_neg q]
      exact ⟨L _ (K.2.1 q).1, L _ (K.2.1 q).2⟩)
    (fun q => by
      have q : hI h 11 g = 6 ∨ hI h 11 g = 7 := by rcases q with q | q; exact Or.inl ((hkl 6 (by decide)).mpr q); exact Or.inr ((hkl 7 (by decide)).mpr q)
      rw [if_pos q]
      exact L _ (K.2.2 q))
  have eg : gkind n st.1 k (if hI h 11 g = 8 then 0 else sd n st.2 (hI h 12 g)) (if hI h 11 g = 8 then 0 else sd n st.2 (hI h 13 g)) (if hI h 11 g = 6 ∨ hI h 11 g = 7 then sd n st.2 (hI h 14 g) else 0) = gop n (cirH h 10) st g := by
    unfold gop
    rw [show ((cirH h 10).1 g).toNatClampNeg = k from hcl]
    rfl
  rw [eg] at R1 G1
  refine ⟨h1, ?_, G1, F1⟩
  have S1 := S.to F1.1
  refine Run.of (Nat.le_of_ble_eq_true rfl) (fun Q hQ => ?_)
  show Wp (Ex (d + 5)) 48 Q 0 [(0, .ref 21), (1, .ref 10), (2, .int (nI g))] [] h 0 0
  refine r_aload_n (q48 (i := 0) rfl) rfl ?_
  refine r_aload_n (q48 (i := 1) rfl) rfl ?_
  refine r_getR (b := 12) (q48 (i := 2) rfl) rfl (by decide) (k_10 S) (fun _ _ _ => rfl) (r_10_1 S) ?_
  refine r_iload_n (q48 (i := 3) rfl) rfl ?_
  refine r_iaN (x := hI h 12 g) (q48 (i := 4) rfl) (k_12 S) (by omega) (by decide) rfl ?_
  refine r_cV (d := _) (q48 (i := 5) rfl) rfl rfl rfl (k_10 S) (Nat.le_of_ble_eq_true rfl) (Nat.zero_le _) (Nat.zero_le _) (sp_literalOf_10 (d := d + 2) S hm (by omega) (hI h 12 g)) ?_
  show Wp _ _ _ 10 [(0, .ref 21), (1, .ref 10), (2, .int (nI g))] [.int (litS (hI h 16) (nI (n + gc)) (hI h 12 g))] h _ _
  refine r_istore_n (ls' := [(3, .int (litS (hI h 16) (nI (n + gc)) (hI h 12 g))), (0, .ref 21), (1, .ref 10), (2, .int (nI g))]) (q48 (i := 6) rfl) (Nat.le_of_ble_eq_true rfl) rfl ?_
  refine r_aload_n (q48 (i := 7) rfl) rfl ?_
  refine r_aload_n (q48 (i := 8) rfl) rfl ?_
  refine r_getR (b := 13) (q48 (i := 9) rfl) rfl (by decide) (k_10 S) (fun _ _ _ => rfl) (r_10_2 S) ?_
  refine r_iload_n (q48 (i := 10) rfl) rfl ?_
  refine r_iaN (x := hI h 13 g) (q48 (i := 11) rfl) (k_13 S) (by omega) (by decide) rfl ?_
  refine r_cV (d := _) (q48 (i := 12) rfl) rfl rfl rfl (k_10 S) (Nat.le_of_ble_eq_true rfl) (Nat.zero_le _) (Nat.zero_le _) (sp_literalOf_10 (d := d + 2) S hm (by omega) (hI h 13 g)) ?_
  show Wp _ _ _ 21 [(3, .int (litS (hI h 16) (nI (n + gc)) (hI h 12 g))), (0, .ref 21), (1, .ref 10), (2, .int (nI g))] [.int (litS (hI h 16) (nI (n + gc)) (hI h 13 g))] h _ _
  refine r_istore (ls' := [(4, .int (litS (hI h 16) (nI (n + gc)) (hI h 13 g))), (3, .int (litS (hI h 16) (nI (n + gc)) (hI h 12 g))), (0, .ref 21), (1, .ref 10), (2, .int (nI g))]) (q48 (i := 13) rfl) (Nat.le_of_ble_eq_true rfl) rfl ?_
  refine r_aload_n (q48 (i := 14) rfl) rfl ?_
  refine r_aload_n (q48 (i := 15) rfl) rfl ?_
  refine r_getR (b := 14) (q48 (i := 16) rfl) rfl (by decide) (k_10 S) (fun _ _ _ => rfl) (r_10_3 S) ?_
  refine r_iload_n (q48 (i := 17) rfl) rfl ?_
  refine r_iaN (x := hI h 14 g) (q48 (i := 18) rfl) (k_14 S) (by omega) (by decide) rfl ?_
  refine r_cV (d := _) (q48 (i := 19) rfl) rfl rfl rfl (k_10 S) (Nat.le_of_ble_eq_true rfl) (Nat.zero_le _) (Nat.zero_le _) (sp_literalOf_10 (d := d + 2) S hm (by omega) (hI h 14 g)) ?_
  show Wp _ _ _ 33 [(4, .int (litS (hI h 16) (nI (n + gc)) (hI h 13 g))), (3, .int (litS (hI h 16) (nI (n + gc)) (hI h 12 g))), (0, .ref 21), (1, .ref 10), (2, .int (nI g))] [.int (litS (hI h 16) (nI (n + gc)) (hI h 14 g))] h _ _
  refine r_istore (ls' := [(5, .int (litS (hI h 16) (nI (n + gc)) (hI h 14 g))), (4, .int (litS (hI h 16) (nI (n + gc)) (hI h 13 g))), (3, .int (litS (hI h 16) (nI (n + gc)) (hI h 12 g))), (0, .ref 21), (1, .ref 10), (2, .int (nI g))]) (q48 (i := 20) rfl) (Nat.le_of_ble_eq_true rfl) rfl ?_
  refine r_aload_n (q48 (i := 21) rfl) rfl ?_
  refine r_getR (b := 16) (q48 (i := 22) rfl) rfl (by decide) (k_10 S) (fun _ _ _ => rfl) (r_10_5 S) ?_
  refine r_aload_n (q48 (i := 23) rfl) rfl ?_
  refine r_getI (x := nI n) (q48 (i := 24) rfl) rfl (by decide) (k_21 S) (fun _ _ _ => rfl) e8 ?_
  refine r_iload_n (q48 (i := 25) rfl) rfl ?_
  refine r_iadd (q48 (i := 26) rfl) ?_
  rw [show ((nI n) + (nI g) : Int32) = nI (n + g) from nI_add _ _]
  refine r_aload_n (q48 (i := 27) rfl) rfl ?_
  refine r_aload_n (q48 (i := 28) rfl) rfl ?_
  refine r_getR (b := 11) (q48 (i := 29) rfl) rfl (by decide) (k_10 S) (fun _ _ _ => rfl) (r_10_0 S) ?_
  refine r_iload_n (q48 (i := 30) rfl) rfl ?_
  refine r_iaN (x := nI k) (q48 (i := 31) rfl) (k_11 S) (by omega) (by decide) hk ?_
  refine r_iload_n (q48 (i := 32) rfl) rfl ?_
  refine r_iload (q48 (i := 33) rfl) rfl ?_
  refine r_iload (q48 (i := 34) rfl) rfl ?_
  refine r_cV (d := _) (q48 (i := 35) rfl) rfl rfl rfl (k_21 S) (Nat.le_of_ble_eq_true rfl) (Nat.zero_le _) (Nat.zero_le _) R1 ?_
  show Wp _ _ _ 60 [(5, .int (litS (hI h 16) (nI (n + gc)) (hI h 14 g))), (4, .int (litS (hI h 16) (nI (n + gc)) (hI h 13 g))), (3, .int (litS (hI h 16) (nI (n + gc)) (hI h 12 g))), (0, .ref 21), (1, .ref 10), (2, .int (nI g))] [.int (nI (gop n (cirH h 10) st g).1), .int (nI (n + g)), .ref 16] h1 _ _
  refine r_iasN (q48 (i := 36) rfl) (k_16 S1) (by omega) (by decide) ?_
  exact r_vret (q48 (i := 37) rfl) rfl hQ
