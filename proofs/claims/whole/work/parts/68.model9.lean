/-! ===== the reference's text ===== -/
theorem low_8 (x : Int32) : (x &&& 255).toInt8 = x.toInt8 := Int8.toBitVec_inj.mp (by
  apply BitVec.eq_of_getLsbD_eq
  intro i hi
  show ((x.toBitVec &&& (255 : Int32).toBitVec).signExtend 8).getLsbD i = (x.toBitVec.signExtend 8).getLsbD i
  rw [BitVec.signExtend_eq_setWidth_of_le _ (by decide), BitVec.signExtend_eq_setWidth_of_le _ (by decide), BitVec.getLsbD_setWidth, BitVec.getLsbD_setWidth, BitVec.getLsbD_and]
  have : (255 : Int32).toBitVec.getLsbD i = true := by
    have : ∀ i, i < 8 → (255 : Int32).toBitVec.getLsbD i = true := by decide +kernel
    exact this i hi
  rw [this, Bool.and_true])
theorem by_lo : ∀ k, k < 128 → (nI k).toInt8.toInt32 = nI k := by decide +kernel
theorem by_hi : ∀ k, k < 128 → (nI (128 + k)).toInt8.toInt32 < 0 := by decide +kernel
/-- a byte of the tape and what the class sees of it -/
theorem by_is {B : Nat → Int32} (hB : byo B) {z a : Nat} (h : a < z) : (cb B z a < 128 ∧ B a = nI (cb B z a)) ∨ (128 ≤ cb B z a ∧ B a < 0) := by
  obtain ⟨k, hk, e⟩ := and255 (B a)
  have e1 : cb B z a = k := by
    unfold cb
    rw [if_pos h, e, nI_clamp (by omega)]
  have e2 : B a = (nI k).toInt8.toInt32 := by rw [← e, low_8]; exact (hB a).symm
  rw [e1, e2]
  rcases Nat.lt_or_ge k 128 with y | y
  · exact Or.inl ⟨y, by_lo k y⟩
  · have := by_hi (k - 128) (by omega)
    rw [show 128 + (k - 128) = k by omega] at this
    exact Or.inr ⟨y, this⟩
theorem by_c {B : Nat → Int32} (hB : byo B) {z a c : Nat} (h : a < z) (hc : c < 128) : B a = nI c ↔ cb B z a = c := by
  rcases by_is hB h with ⟨y1, y2⟩ | ⟨y1, y2⟩
  · rw [y2]; exact nI_eq (by omega) (by omega)
  · exact ⟨fun q => absurd y2 (by rw [q]; exact nI_pos (by omega)), fun q => by omega⟩
theorem by_d {B : Nat → Int32} (hB : byo B) {z a : Nat} (h : a < z) (hd : dg B z a = true) : B a = nI (cb B z a) ∧ ¬ B a < 48 ∧ ¬ 57 < B a := by
  obtain ⟨_, h1, h2⟩ := dg_lt hd
  rcases by_is hB h with ⟨y1, y2⟩ | ⟨y1, y2⟩
  · rw [y2]
    exact ⟨rfl, nI_nlt (b := 48) (by omega) (by omega), nI_nlt (a := 57) (by omega) (by decide)⟩
  · omega
theorem by_n {B : Nat → Int32} (hB : byo B) {z a : Nat} (h : a < z) (h1 : ¬ B a < 48) (h2 : ¬ 57 < B a) : dg B z a = true := by
  rcases by_is hB h with ⟨y1, y2⟩ | ⟨y1, y2⟩
  · rw [y2] at h1 h2
    refine decide_eq_true ⟨?_, ?_⟩
    · rcases Nat.lt_or_ge (cb B z a) 48 with w | w
      · exact absurd (nI_lt (b := 48) w (by decide)) h1
      · exact w
    · rcases Nat.lt_or_ge 57 (cb B z a) with w | w
      · exact absurd (nI_lt (a := 57) w (by omega)) h2
      · exact w
  · exact absurd (Int32.lt_trans y2 (by decide)) h1
def TM (h : hp) (B : Nat → Int32) (z : Nat) : Prop := hI h 1074 = B ∧ hI h 47 25 = nI z ∧ z ≤ 3000 ∧ byo B
/-- the FAULT that is noted -/
def FTM (h : hp) : Option (Nat × Nat) → Prop
  | none => hI h 47 28 = 0 ∧ hI h 47 26 = -1
  | some e => hI h 47 28 = nI e.1 ∧ hI h 47 26 = nI e.2 ∧ (0 < e.1 ∧ e.1 < 7) ∧ e.2 ≤ 3000
def ff : Option (Nat × Nat) → Nat → Nat → Option (Nat × Nat)
  | none, f, p => some (f, p)
  | some e, f, p => if p < e.2 then some (f, p) else some e
def FrT2 (h h' : hp) : Prop := h'.2 = h.2 ∧ (∀ k, k ≠ 47 → hI h' k = hI h k) ∧ ∀ j, (j < 26 ∨ 29 < j) → hI h' 47 j = hI h 47 j
theorem FrT2.rf (h : hp) : FrT2 h h := ⟨rfl, fun _ _ => rfl, fun _ _ => rfl⟩
theorem FrT2.tr {h h' h'' : hp} (a : FrT2 h h') (b : FrT2 h' h'') : FrT2 h h'' := ⟨b.1.trans a.1, fun k x => (b.2.1 k x).trans (a.2.1 k x), fun j x => (b.2.2 j x).trans (a.2.2 j x)⟩
theorem FrT2.S {h h' : hp} (F : FrT2 h h') (S : Sh h) : Sh h' := S.to (by rw [F.1])
theorem FrT2.T {h h' : hp} (F : FrT2 h h') {B : Nat → Int32} {z : Nat} (T : TM h B z) : TM h' B z := ⟨(F.2.1 1074 (by decide)).trans T.1, (F.2.2 25 (by decide)).trans T.2.1, T.2.2⟩
theorem FrT2.w {h : hp} {j : Nat} (hj : 26 ≤ j ∧ j ≤ 29) (v : Int32) : FrT2 h (sI h 47 j v) := ⟨rfl, fun k x => by
  show u2 h.1 47 _ _ k = _
  rw [u2_n x], fun i x => by
  show u2 h.1 47 _ _ 47 i = _
  rw [u2_s, u1_n (by omega)]⟩
set_option maxHeartbeats 2000000 in
set_option maxRecDepth 10000 in
theorem sp_fails {d : Nat} {h : hp} (S : Sh h) {t : Option (Nat × Nat)} (ft : FTM h t) {f p : Nat} (hf : 0 < f ∧ f < 7) (hp : p ≤ 3000) : ∃ h', Run (d + 1) 116 [.ref 47, .int (nI f), .int (nI p)] h 0 0 (some (.int 0)) h' ∧ FTM h' (ff t f p) ∧ FrT2 h h' ∧ hI h' 47 27 = hI h 47 27 ∧ hI h' 47 29 = hI h 47 29 := by
  have F : FrT2 h (sI (sI h 47 28 (nI f)) 47 26 (nI p)) := (FrT2.w (by decide) _).tr (FrT2.w (by decide) _)
  cases t with
  | none =>
    have ft : hI h 47 28 = 0 := ft.1
    refine ⟨sI (sI h 47 28 (nI f)) 47 26 (nI p), ?_, ⟨rfl, rfl, hf, hp⟩, F, rfl, rfl⟩
    refine Run.of (d := d) (Nat.le_of_ble_eq_true rfl) (fun Q hQ => ?_)
    show Wp (Ex d) 116 Q 0 [(0, .ref 47), (1, .int (nI f)), (2, .int (nI p))] [] h 0 0
    refine r_aload_n (q116 (i := 0) rfl) rfl ?_
    refine r_getI (x := 0) (q116 (i := 1) rfl) rfl (by decide) (k_47 S) (fun _ _ _ => rfl) ft ?_
    refine r_if 15 (q116 (i := 2) rfl) (by decide) (fun _ => ?_) (fun zz => absurd (show (0 : Int32) = 0 from by decide) zz)
    refine r_aload_n (q116 (i := 7) rfl) rfl ?_
    refine r_iload_n (q116 (i := 8) rfl) rfl ?_
    refine r_putI (q116 (i := 9) rfl) rfl (by decide) (k_47 S) rfl rfl ?_
    refine r_aload_n (q116 (i := 10) rfl) rfl ?_
    refine r_iload_n (q116 (i := 11) rfl) rfl ?_
    refine r_putI (q116 (i := 12) rfl) rfl (by decide) (k_47 S) rfl rfl ?_
    refine r_iconst (v := 0) (q116 (i := 13) rfl) (by decide) ?_
    exact r_zret (q116 (i := 14) rfl) rfl (by decide) hQ
  | some e =>
    have h7 := ft.2.2.1.2
    have h8 := ft.2.2.2
    by_cases q : p < e.2
    · refine ⟨sI (sI h 47 28 (nI f)) 47 26 (nI p), ?_, ?_, F, rfl, rfl⟩
      rotate_left
      · show FTM _ (if p < e.2 then _ else _)
        rw [if_pos q]
        exact ⟨rfl, rfl, hf, hp⟩
      refine Run.of (d := d) (Nat.le_of_ble_eq_true rfl) (fun Q hQ => ?_)
      show Wp (Ex d) 116 Q 0 [(0, .ref 47), (1, .int (nI f)), (2, .int (nI p))] [] h 0 0
      refine r_aload_n (q116 (i := 0) rfl) rfl ?_
      refine r_getI (x := nI e.1) (q116 (i := 1) rfl) rfl (by decide) (k_47 S) (fun _ _ _ => rfl) ft.1 ?_
      refine r_if 15 (q116 (i := 2) rfl) (by decide) (fun zz => absurd zz (show ¬ (nI e.1 = 0) from nI_ne0 ft.2.2.1.1 (by omega))) (fun _ => ?_)
      refine r_iload_n (q116 (i := 3) rfl) rfl ?_
      refine r_aload_n (q116 (i := 4) rfl) rfl ?_
      refine r_getI (x := nI e.2) (q116 (i := 5) rfl) rfl (by decide) (k_47 S) (fun _ _ _ => rfl) ft.2.1 ?_
      refine r_icmp 25 (q116 (i := 6) rfl) (by decide) (fun zz => absurd zz (show ¬ (nI e.2 ≤ nI p) from nI_ge q (by omega))) (fun _ => ?_)
      refine r_aload_n (q116 (i := 7) rfl) rfl ?_
      refine r_iload_n (q116 (i := 8) rfl) rfl ?_
      refine r_putI (q116 (i := 9) rfl) rfl (by decide) (k_47 S) rfl rfl ?_
      refine r_aload_n (q116 (i := 10) rfl) rfl ?_
      refine r_iload_n (q116 (i := 11) rfl) rfl ?_
      refine r_putI (q116 (i := 12) rfl) rfl (by decide) (k_47 S) rfl rfl ?_
      refine r_iconst (v := 0) (q116 (i := 13) rfl) (by decide) ?_
      exact r_zret (q116 (i := 14) rfl) rfl (by decide) hQ
    · refine ⟨h, ?_, ?_, FrT2.rf h, rfl, rfl⟩
      rotate_left
      · show FTM _ (if p < e.2 then _ else _)
        rw [if_neg q]
        exact ft
      refine Run.of (d := d) (Nat.le_of_ble_eq_true rfl) (fun Q hQ => ?_)
      show Wp (Ex d) 116 Q 0 [(0, .ref 47), (1, .int (nI f)), (2, .int (nI p))] [] h 0 0
      refine r_aload_n (q116 (i := 0) rfl) rfl ?_
      refine r_getI (x := nI e.1) (q116 (i := 1) rfl) rfl (by decide) (k_47 S) (fun _ _ _ => rfl) ft.1 ?_
      refine r_if 15 (q116 (i := 2) rfl) (by decide) (fun zz => absurd zz (show ¬ (nI e.1 = 0) from nI_ne0 ft.2.2.1.1 (by omega))) (fun _ => ?_)
      refine r_iload_n (q116 (i := 3) rfl) rfl ?_
      refine r_aload_n (q116 (i := 4) rfl) rfl ?_
      refine r_getI (x := nI e.2) (q116 (i := 5) rfl) rfl (by decide) (k_47 S) (fun _ _ _ => rfl) ft.2.1 ?_
      refine r_icmp 25 (q116 (i := 6) rfl) (by decide) (fun _ => ?_) (fun zz => absurd (show nI e.2 ≤ nI p from nI_le (by omega) (by omega)) zz)
      refine r_iconst (v := 0) (q116 (i := 13) rfl) (by decide) ?_
      exact r_zret (q116 (i := 14) rfl) rfl (by decide) hQ
set_option maxHeartbeats 2000000 in
set_option maxRecDepth 10000 in
theorem sp_is {d : Nat} {h : hp} (S : Sh h) {B : Nat → Int32} {z : Nat} (T : TM h B z) {t : Option (Nat × Nat)} (ft : FTM h t) {a : Nat} (ea : hI h 47 27 = nI a) (ha : a ≤ z) {c : Nat} (hc : c < 128) : ∃ h', Run (d + 1 + 1) 117 [.ref 47, .int (nI c)] h 0 0 (some (.int (if cb B z a = c then 1 else 0))) h' ∧ (if cb B z a = c then hI h' 47 27 = nI (a + 1) ∧ a + 1 ≤ z ∧ FTM h' t else hI h' 47 27 = nI a ∧ FTM h' (ff t 1 a)) ∧ FrT2 h h' ∧ hI h' 47 29 = hI h 47 29 := by
  have hz := T.2.2.1
  by_cases q : cb B z a = c
  · rw [if_pos q]
    have hlt : a < z := by
      rcases Nat.lt_or_ge a z with y | y
      · exact y
      · have := (cb_out (B := B) y (by omega)).2
        omega
    refine ⟨sI h 47 27 (nI (a + 1)), ?_, by rw [if_pos q]; exact ⟨rfl, hlt, by cases t <;> exact ft⟩, FrT2.w (by decide) _, rfl⟩
    refine Run.of (d := d + 1) (Nat.le_of_ble_eq_true rfl) (fun Q hQ => ?_)
    show Wp (Ex (d + 1)) 117 Q 0 [(0, .ref 47), (1, .int (nI c))] [] h 0 0
    refine r_aload_n (q117 (i := 0) rfl) rfl ?_
    refine r_getI (x := nI a) (q117 (i := 1) rfl) rfl (by decide) (k_47 S) (fun _ _ _ => rfl) ea ?_
    refine r_aload_n (q117 (i := 2) rfl) rfl ?_
    refine r_getI (x := nI z) (q117 (i := 3) rfl) rfl (by decide) (k_47 S) (fun _ _ _ => rfl) T.2.1 ?_
    refine r_icmp 24 (q117 (i := 4) rfl) (by decide) (fun zz => absurd zz (show ¬ (nI z ≤ nI a) from nI_ge hlt (by omega))) (fun _ => ?_)
    refine r_aload_n (q117 (i := 5) rfl) rfl ?_
    refine r_getR (b := 1074) (q117 (i := 6) rfl) rfl (by decide) (k_47 S) (fun _ _ _ => rfl) (r_47_24 S) ?_
    refine r_aload_n (q117 (i := 7) rfl) rfl ?_
    refine r_getI (x := nI a) (q117 (i := 8) rfl) rfl (by decide) (k_47 S) (fun _ _ _ => rfl) ea ?_
    refine r_baN (x := B a) (q117 (i := 9) rfl) (k_1074 S) (by omega) (by decide) (by rw [T.1]) ?_
    refine r_iload_n (q117 (i := 10) rfl) rfl ?_
    refine r_icmp 34 (q117 (i := 11) rfl) (by decide) (fun _ => ?_) (fun zz => absurd (show B a = nI c from (by_c T.2.2.2 hlt hc).mpr q) zz)
    refine r_aload_n (q117 (i := 18) rfl) rfl ?_
    refine r_dup (q117 (i := 19) rfl) rfl ?_
    refine r_getI (x := nI a) (q117 (i := 20) rfl) rfl (by decide) (k_47 S) (fun _ _ _ => rfl) ea ?_
    refine r_iconst (v := 1) (q117 (i := 21) rfl) (by decide) ?_
    refine r_iadd (q117 (i := 22) rfl) ?_
    rw [show ((nI a) + 1 : Int32) = nI (a + 1) from nI_1 a]
    refine r_putI (q117 (i := 23) rfl) rfl (by decide) (k_47 S) rfl rfl ?_
    refine r_iconst (v := 1) (q117 (i := 24) rfl) (by decide) ?_
    exact r_zret (q117 (i := 25) rfl) rfl (by decide) hQ
  · rw [if_neg q]
    obtain ⟨h1, R1, ft1, F1, e1, e2⟩ := sp_fails (d := d) S ft (f := 1) (p := a) (by decide) (by omega)
    refine ⟨h1, ?_, by rw [if_neg q]; exact ⟨e1.trans ea, ft1⟩, F1, e2⟩
    refine Run.of (d := d + 1) (Nat.le_of_ble_eq_true rfl) (fun Q hQ => ?_)
    show Wp (Ex (d + 1)) 117 Q 0 [(0, .ref 47), (1, .int (nI c))] [] h 0 0
    refine r_aload_n (q117 (i := 0) rfl) rfl ?_
    refine r_getI (x := nI a) (q117 (i := 1) rfl) rfl (by decide) (k_47 S) (fun _ _ _ => rfl) ea ?_
    refine r_aload_n (q117 (i := 2) rfl) rfl ?_
    refine r_getI (x := nI z) (q117 (i := 3) rfl) rfl (by decide) (k_47 S) (fun _ _ _ => rfl) T.2.1 ?_
    refine r_icmp 24 (q117 (i := 4) rfl) (by decide) (fun c8 => ?_) (fun c8 => ?_)
    · have c8 : nI z ≤ nI a := c8
      refine r_aload_n (q117 (i := 12) rfl) rfl ?_
      refine r_iconst (v := 1) (q117 (i := 13) rfl) (by decide) ?_
      refine r_aload_n (q117 (i := 14) rfl) rfl ?_
      refine r_getI (x := nI a) (q117 (i := 15) rfl) rfl (by decide) (k_47 S) (fun _ _ _ => rfl) ea ?_
      refine r_cV (d := _) (q117 (i := 16) rfl) rfl rfl rfl (k_47 S) (Nat.le_of_ble_eq_true rfl) (Nat.zero_le _) (Nat.zero_le _) R1 ?_
      show Wp _ _ _ 33 [(0, .ref 47), (1, .int (nI c))] [.int 0] h1 _ _
      exact r_zret (q117 (i := 17) rfl) rfl (by decide) hQ
    · have c8 : ¬ (nI z ≤ nI a) := c8
      have hlt : a < z := by rcases Nat.lt_or_ge a z with y | y; exact y; exact absurd (nI_le y (by omega)) c8
      refine r_aload_n (q117 (i := 5) rfl) rfl ?_
      refine r_getR (b := 1074) (q117 (i := 6) rfl) rfl (by decide) (k_47 S) (fun _ _ _ => rfl) (r_47_24 S) ?_
      refine r_aload_n (q117 (i := 7) rfl) rfl ?_
      refine r_getI (x := nI a) (q117 (i := 8) rfl) rfl (by decide) (k_47 S) (fun _ _ _ => rfl) ea ?_
      refine r_baN (x := B a) (q117 (i := 9) rfl) (k_1074 S) (by omega) (by decide) (by rw [T.1]) ?_
      refine r_iload_n (q117 (i := 10) rfl) rfl ?_
      refine r_icmp 34 (q117 (i := 11) rfl) (by decide) (fun zz => absurd zz (show ¬ (B a = nI c) from fun y => q ((by_c T.2.2.2 hlt hc).mp y))) (fun _ => ?_)
      refine r_aload_n (q117 (i := 12) rfl) rfl ?_
      refine r_iconst (v := 1) (q117 (i := 13) rfl) (by decide) ?_
      refine r_aload_n (q117 (i := 14) rfl) rfl ?_
      refine r_getI (x := nI a) (q117 (i := 15) rfl) rfl (by decide) (k_47 S) (fun _ _ _ => rfl) ea ?_
      refine r_cV (d := _) (q117 (i := 16) rfl) rfl rfl rfl (k_47 S) (Nat.le_of_ble_eq_true rfl) (Nat.zero_le _) (Nat.zero_le _) R1 ?_
      show Wp _ _ _ 33 [(0, .ref 47), (1, .int (nI c))] [.int 0] h1 _ _
      exact r_zret (q117 (i := 17) rfl) rfl (by decide) hQ
def FrNu (h h' : hp) : Prop := h'.2 = h.2 ∧ (∀ k, k ≠ 47 → hI h' k = hI h k) ∧ ∀ j, j ≠ 27 → j ≠ 29 → hI h' 47 j = hI h 47 j
theorem FrNu.rf (h : hp) : FrNu h h := ⟨rfl, fun _ _ => rfl, fun _ _ _ => rfl⟩
theorem FrNu.tr {h h' h'' : hp} (a : FrNu h h') (b : FrNu h' h'') : FrNu h h'' := ⟨b.1.trans a.1, fun k x => (b.2.1 k x).trans (a.2.1 k x), fun j x y => (b.2.2 j x y).trans (a.2.2 j x y)⟩
theorem FrNu.w {h : hp} {j : Nat} (hj : j = 27 ∨ j = 29) (v : Int32) : FrNu h (sI h 47 j v) := ⟨rfl, fun k x => by
  show u2 h.1 47 _ _ k = _
  rw [u2_n x], fun i x y => by
  show u2 h.1 47 _ _ 47 i = _
  rw [u2_s, u1_n (by omega)]⟩
theorem FrNu.T2 {h h' : hp} (F : FrNu h h') : FrT2 h h' := ⟨F.1, F.2.1, fun j x => F.2.2 j (by omega) (by omega)⟩
theorem FrNu.ft {h h' : hp} (F : FrNu h h') {t : Option (Nat × Nat)} (ft : FTM h t) : FTM h' t := by
  cases t with
  | none => exact ⟨(F.2.2 28 (by decide) (by decide)).trans ft.1, (F.2.2 26 (by decide) (by decide)).trans ft.2⟩
  | some e => exact ⟨(F.2.2 28 (by decide) (by decide)).trans ft.1, (F.2.2 26 (by decide) (by decide)).trans ft.2.1, ft.2.2⟩
set_option maxHeartbeats 2000000 in
set_option maxRecDepth 10000 in
theorem lp_mnum {d : Nat} {B : Nat → Int32} {z f0 : Nat} : ∀ (m k a v : Nat) (h : hp), k + m = 9 → a = f0 + k → a ≤ z → (k = 1 → 0 < v) → (k = 0 → cb B z a ≠ 48 ∧ v = 0) → v < 10 ^ k → Sh h → TM h B z → hI h 47 27 = nI a → hI h 47 29 = nI v → ∃ h', hI h' 47 27 = nI (numL B z m a v).2 ∧ hI h' 47 29 = nI (numL B z m a v).1 ∧ FrNu h h' ∧ ∀ (Q : resP) (bc bs : Nat), (∀ ls : List (Nat × Value), ls.lookup 1 = some (.int (nI f0)) → ls.lookup 0 = some (.ref 47) → Wp (Ex d) 118 Q 114 ls [] h' bc bs) → ∀ ls : List (Nat × Value), ls.lookup 1 = some (.int (nI f0)) → ls.lookup 0 = some (.ref 47) → Wp (Ex d) 118 Q 10 ls [] h bc bs := by
  intro m
  induction m with
  | zero =>
    intro k a v h hk ha hz h1 h0 hv S T ea ev
    have hz3 := T.2.2.1
    refine ⟨h, ea, ev, FrNu.rf h, fun Q bc bs k ls l1 l0 => ?_⟩
    refine r_aload_n (q118 (i := 6) rfl) l0 ?_
    refine r_getI (x := nI a) (q118 (i := 7) rfl) rfl (by decide) (k_47 S) (fun _ _ _ => rfl) ea ?_
    refine r_aload_n (q118 (i := 8) rfl) l0 ?_
    refine r_getI (x := nI z) (q118 (i := 9) rfl) rfl (by decide) (k_47 S) (fun _ _ _ => rfl) T.2.1 ?_
    refine r_icmp 114 (q118 (i := 10) rfl) (by decide) (fun c18 => ?_) (fun c18 => ?_)
    · have c18 : nI z ≤ nI a := c18
      exact k ls l1 l0
    · have c18 : ¬ (nI z ≤ nI a) := c18
      have hlt : a < z := by rcases Nat.lt_or_ge a z with y | y; exact y; exact absurd (nI_le y (by omega)) c18
      refine r_aload_n (q118 (i := 11) rfl) l0 ?_
      refine r_getR (b := 1074) (q118 (i := 12) rfl) rfl (by decide) (k_47 S) (fun _ _ _ => rfl) (r_47_24 S) ?_
      refine r_aload_n (q118 (i := 13) rfl) l0 ?_
      refine r_getI (x := nI a) (q118 (i := 14) rfl) rfl (by decide) (k_47 S) (fun _ _ _ => rfl) ea ?_
      refine r_baN (x := B a) (q118 (i := 15) rfl) (k_1074 S) (by omega) (by decide) (by rw [T.1]) ?_
      refine r_bipush (v := 48) (q118 (i := 16) rfl) (by decide) ?_
      refine r_icmp 114 (q118 (i := 17) rfl) (by decide) (fun c32 => ?_) (fun c32 => ?_)
      · have c32 : B a < 48 := c32
        exact k ls l1 l0
      · have c32 : ¬ (B a < 48) := c32
        refine r_aload_n (q118 (i := 18) rfl) l0 ?_
        refine r_getR (b := 1074) (q118 (i := 19) rfl) rfl (by decide) (k_47 S) (fun _ _ _ => rfl) (r_47_24 S) ?_
        refine r_aload_n (q118 (i := 20) rfl) l0 ?_
        refine r_getI (x := nI a) (q118 (i := 21) rfl) rfl (by decide) (k_47 S) (fun _ _ _ => rfl) ea ?_
        refine r_baN (x := B a) (q118 (i := 22) rfl) (k_1074 S) (by omega) (by decide) (by rw [T.1]) ?_
        refine r_bipush (v := 57) (q118 (i := 23) rfl) (by decide) ?_
        refine r_icmp 114 (q118 (i := 24) rfl) (by decide) (fun c46 => ?_) (fun c46 => ?_)
        · have c46 : 57 < B a := c46
          exact k ls l1 l0
        · have c46 : ¬ (57 < B a) := c46
          refine r_aload_n (q118 (i := 25) rfl) l0 ?_
          refine r_getI (x := nI a) (q118 (i := 26) rfl) rfl (by decide) (k_47 S) (fun _ _ _ => rfl) ea ?_
          refine r_iload_n (q118 (i := 27) rfl) l1 ?_
          refine r_isub (q118 (i := 28) rfl) ?_
          rw [show ((nI a) - (nI f0) : Int32) = nI (a - f0) from nI_subN (by omega)]
          refine r_bipush (v := 9) (q118 (i := 29) rfl) (by decide) ?_
          refine r_icmp 114 (q118 (i := 30) rfl) (by decide) (fun _ => ?_) (fun zz => absurd (show 9 ≤ nI (a - f0) from nI_le (a := 9) (by omega) (by omega)) zz)
          exact k ls l1 l0
  | succ m ih =>
    intro k a v h hk ha hz h1 h0 hv S T ea ev
    have hz3 := T.2.2.1
    by_cases g : dg B z a = true
    · obtain ⟨hlt, g1, g2⟩ := dg_lt g
      have bd := by_d T.2.2.2 hlt g
      have p9 : 10 ^ k ≤ 10 ^ 8 := Nat.pow_le_pow_right (by decide) (by omega)
      have F1 : FrNu h (sI (sI h 47 29 (nI (10 * v + (cb B z a - 48)))) 47 27 (nI (a + 1))) := (FrNu.w (by decide) _).tr (FrNu.w (by decide) _)
      have q1 : k + 1 = 1 → 0 < 10 * v + (cb B z a - 48) := fun y => by
        have := h0 (by omega)
        omega
      obtain ⟨h', e1, e2, F2, K⟩ := ih (k + 1) (a + 1) (10 * v + (cb B z a - 48)) (sI (sI h 47 29 (nI (10 * v + (cb B z a - 48)))) 47 27 (nI (a + 1))) (by omega) (by omega) (by omega) q1 (fun y => by omega) (by rw [Nat.pow_succ]; omega) (S.to rfl) (F1.T2.T T) rfl rfl
      have en : numL B z (m + 1) a v = numL B z m (a + 1) (10 * v + (cb B z a - 48)) := if_pos g
      refine ⟨h', by rw [en]; exact e1, by rw [en]; exact e2, F1.tr F2, fun Q bc bs kk ls l1 l0 => ?_⟩
      refine r_aload_n (q118 (i := 6) rfl) l0 ?_
      refine r_getI (x := nI a) (q118 (i := 7) rfl) rfl (by decide) (k_47 S) (fun _ _ _ => rfl) ea ?_
      refine r_aload_n (q118 (i := 8) rfl) l0 ?_
      refine r_getI (x := nI z) (q118 (i := 9) rfl) rfl (by decide) (k_47 S) (fun _ _ _ => rfl) T.2.1 ?_
      refine r_icmp 114 (q118 (i := 10) rfl) (by decide) (fun zz => absurd zz (show ¬ (nI z ≤ nI a) from nI_ge hlt (by omega))) (fun _ => ?_)
      refine r_aload_n (q118 (i := 11) rfl) l0 ?_
      refine r_getR (b := 1074) (q118 (i := 12) rfl) rfl (by decide) (k_47 S) (fun _ _ _ => rfl) (r_47_24 S) ?_
      refine r_aload_n (q118 (i := 13) rfl) l0 ?_
      refine r_getI (x := nI a) (q118 (i := 14) rfl) rfl (by decide) (k_47 S) (fun _ _ _ => rfl) ea ?_
      refine r_baN (x := nI (cb B z a)) (q118 (i := 15) rfl) (k_1074 S) (by omega) (by decide) (by rw [T.1]; exact bd.1) ?_
      refine r_bipush (v := 48) (q118 (i := 16) rfl) (by decide) ?_
      refine r_icmp 114 (q118 (i := 17) rfl) (by decide) (fun zz => absurd zz (show ¬ (nI (cb B z a) < 48) from by rw [← bd.1]; exact bd.2.1)) (fun _ => ?_)
      refine r_aload_n (q118 (i := 18) rfl) l0 ?_
      refine r_getR (b := 1074) (q118 (i := 19) rfl) rfl (by decide) (k_47 S) (fun _ _ _ => rfl) (r_47_24 S) ?_
      refine r_aload_n (q118 (i := 20) rfl) l0 ?_
      refine r_getI (x := nI a) (q118 (i := 21) rfl) rfl (by decide) (k_47 S) (fun _ _ _ => rfl) ea ?_
      refine r_baN (x := nI (cb B z a)) (q118 (i := 22) rfl) (k_1074 S) (by omega) (by decide) (by rw [T.1]; exact bd.1) ?_
      refine r_bipush (v := 57) (q118 (i := 23) rfl) (by decide) ?_
      refine r_icmp 114 (q118 (i := 24) rfl) (by decide) (fun zz => absurd zz (show ¬ (57 < nI (cb B z a)) from by rw [← bd.1]; exact bd.2.2)) (fun _ => ?_)
      refine r_aload_n (q118 (i := 25) rfl) l0 ?_
      refine r_getI (x := nI a) (q118 (i := 26) rfl) rfl (by decide) (k_47 S) (fun _ _ _ => rfl) ea ?_
      refine r_iload_n (q118 (i := 27) rfl) l1 ?_
      refine r_isub (q118 (i := 28) rfl) ?_
      rw [show ((nI a) - (nI f0) : Int32) = nI (a - f0) from nI_subN (by omega)]
      refine r_bipush (v := 9) (q118 (i := 29) rfl) (by decide) ?_
      refine r_icmp 114 (q118 (i := 30) rfl) (by decide) (fun zz => absurd zz (show ¬ (9 ≤ nI (a - f0)) from nI_ge (b := 9) (by omega) (by decide))) (fun _ => ?_)
      refine r_aload_n (q118 (i := 31) rfl) l0 ?_
      refine r_getI (x := nI a) (q118 (i := 32) rfl) rfl (by decide) (k_47 S) (fun _ _ _ => rfl) ea ?_
      refine r_iload_n (q118 (i := 33) rfl) l1 ?_
      refine r_iconst (v := 1) (q118 (i := 34) rfl) (by decide) ?_
      refine r_iadd (q118 (i := 35) rfl) ?_
      rw [show ((nI f0) + 1 : Int32) = nI (f0 + 1) from nI_1 f0]
      refine r_icmp 77 (q118 (i := 36) rfl) (by decide) (fun c67 => ?_) (fun c67 => ?_)
      · have c67 : ¬ nI a = nI (f0 + 1) := c67
        refine r_aload_n (q118 (i := 40) rfl) l0 ?_
        refine r_bipush (v := 10) (q118 (i := 41) rfl) (by decide) ?_
        refine r_aload_n (q118 (i := 42) rfl) l0 ?_
        refine r_getI (x := nI v) (q118 (i := 43) rfl) rfl (by decide) (k_47 S) (fun _ _ _ => rfl) ev ?_
        refine r_imul (q118 (i := 44) rfl) ?_
        rw [show (10 * (nI v) : Int32) = nI (10 * v) from nI_mul 10 v]
        refine r_aload_n (q118 (i := 45) rfl) l0 ?_
        refine r_getR (b := 1074) (q118 (i := 46) rfl) rfl (by decide) (k_47 S) (fun _ _ _ => rfl) (r_47_24 S) ?_
        refine r_aload_n (q118 (i := 47) rfl) l0 ?_
        refine r_getI (x := nI a) (q118 (i := 48) rfl) rfl (by decide) (k_47 S) (fun _ _ _ => rfl) ea ?_
        refine r_baN (x := nI (cb B z a)) (q118 (i := 49) rfl) (k_1074 S) (by omega) (by decide) (by rw [T.1]; exact bd.1) ?_
        refine r_iadd (q118 (i := 50) rfl) ?_
        rw [show ((nI (10 * v)) + (nI (cb B z a)) : Int32) = nI (10 * v + cb B z a) from nI_add _ _]
        refine r_bipush (v := 48) (q118 (i := 51) rfl) (by decide) ?_
        refine r_isub (q118 (i := 52) rfl) ?_
        rw [show ((nI (10 * v + cb B z a)) - 48 : Int32) = nI (10 * v + (cb B z a - 48)) from by rw [show (48 : Int32) = nI 48 from rfl, nI_subN (by omega), show 10 * v + cb B z a - 48 = 10 * v + (cb B z a - 48) by omega]]
        refine r_putI (q118 (i := 53) rfl) rfl (by decide) (k_47 S) rfl rfl ?_
        refine r_aload_n (q118 (i := 54) rfl) l0 ?_
        refine r_dup (q118 (i := 55) rfl) rfl ?_
        refine r_getI (x := nI a) (q118 (i := 56) rfl) rfl (by decide) (k_47 S) (fun _ _ _ => rfl) ea ?_
        refine r_iconst (v := 1) (q118 (i := 57) rfl) (by decide) ?_
        refine r_iadd (q118 (i := 58) rfl) ?_
        rw [show ((nI a) + 1 : Int32) = nI (a + 1) from nI_1 a]
        refine r_putI (q118 (i := 59) rfl) rfl (by decide) (k_47 S) rfl rfl ?_
        refine r_goto 10 (q118 (i := 60) rfl) (by decide) ?_
        exact K Q bc bs kk ls l1 l0
      · have c67 : ¬ (¬ nI a = nI (f0 + 1)) := c67
        have k1 : k = 1 := by have := (nI_eq (by omega) (by omega)).mp (Classical.not_not.mp c67); omega
        have v0 := h1 k1
        refine r_aload_n (q118 (i := 37) rfl) l0 ?_
        refine r_getI (x := nI v) (q118 (i := 38) rfl) rfl (by decide) (k_47 S) (fun _ _ _ => rfl) ev ?_
        refine r_if 114 (q118 (i := 39) rfl) (by decide) (fun zz => absurd zz (show ¬ (nI v = 0) from nI_ne0 v0 (by omega))) (fun _ => ?_)
        refine r_aload_n (q118 (i := 40) rfl) l0 ?_
        refine r_bipush (v := 10) (q118 (i := 41) rfl) (by decide) ?_
        refine r_aload_n (q118 (i := 42) rfl) l0 ?_
        refine r_getI (x := nI v) (q118 (i := 43) rfl) rfl (by decide) (k_47 S) (fun _ _ _ => rfl) ev ?_
        refine r_imul (q118 (i := 44) rfl) ?_
        rw [show (10 * (nI v) : Int32) = nI (10 * v) from nI_mul 10 v]
        refine r_aload_n (q118 (i := 45) rfl) l0 ?_
        refine r_getR (b := 1074) (q118 (i := 46) rfl) rfl (by decide) (k_47 S) (fun _ _ _ => rfl) (r_47_24 S) ?_
        refine r_aload_n (q118 (i := 47) rfl) l0 ?_
        refine r_getI (x := nI a) (q118 (i := 48) rfl) rfl (by decide) (k_47 S) (fun _ _ _ => rfl) ea ?_
        refine r_baN (x := nI (cb B z a)) (q118 (i := 49) rfl) (k_1074 S) (by omega) (by decide) (by rw [T.1]; exact bd.1) ?_
        refine r_iadd (q118 (i := 50) rfl) ?_
        rw [show ((nI (10 * v)) + (nI (cb B z a)) : Int32) = nI (10 * v + cb B z a) from nI_add _ _]
        refine r_bipush (v := 48) (q118 (i := 51) rfl) (by decide) ?_
        refine r_isub (q118 (i := 52) rfl) ?_
        rw [show ((nI (10 * v + cb B z a)) - 48 : Int32) = nI (10 * v + (cb B z a - 48)) from by rw [show (48 : Int32) = nI 48 from rfl, nI_subN (by omega), show 10 * v + cb B z a - 48 = 10 * v + (cb B z a - 48) by omega]]
        refine r_putI (q118 (i := 53) rfl) rfl (by decide) (k_47 S) rfl rfl ?_
        refine r_aload_n (q118 (i := 54) rfl) l0 ?_
        refine r_dup (q118 (i := 55) rfl) rfl ?_
        refine r_getI (x := nI a) (q118 (i := 56) rfl) rfl (by decide) (k_47 S) (fun _ _ _ => rfl) ea ?_
        refine r_iconst (v := 1) (q118 (i := 57) rfl) (by decide) ?_
        refine r_iadd (q118 (i := 58) rfl) ?_
        rw [show ((nI a) + 1 : Int32) = nI (a + 1) from nI_1 a]
        refine r_putI (q118 (i := 59) rfl) rfl (by decide) (k_47 S) rfl rfl ?_
        refine r_goto 10 (q118 (i := 60) rfl) (by decide) ?_
        exact K Q bc bs kk ls l1 l0
    · have en : numL B z (m + 1) a v = (v, a) := if_neg g
      refine ⟨h, by rw [en]; exact ea, by rw [en]; exact ev, FrNu.rf h, fun Q bc bs k ls l1 l0 => ?_⟩
      refine r_aload_n (q118 (i := 6) rfl) l0 ?_
      refine r_getI (x := nI a) (q118 (i := 7) rfl) rfl (by decide) (k_47 S) (fun _ _ _ => rfl) ea ?_
      refine r_aload_n (q118 (i := 8) rfl) l0 ?_
      refine r_getI (x := nI z) (q118 (i := 9) rfl) rfl (by decide) (k_47 S) (fun _ _ _ => rfl) T.2.1 ?_
      refine r_icmp 114 (q118 (i := 10) rfl) (by decide) (fun c18 => ?_) (fun c18 => ?_)
      · have c18 : nI z ≤ nI a := c18
        exact k ls l1 l0
      · have c18 : ¬ (nI z ≤ nI a) := c18
        have hlt : a < z := by rcases Nat.lt_or_ge a z with y | y; exact y; exact absurd (nI_le y (by omega)) c18
        refine r_aload_n (q118 (i := 11) rfl) l0 ?_
        refine r_getR (b := 1074) (q118 (i := 12) rfl) rfl (by decide) (k_47 S) (fun _ _ _ => rfl) (r_47_24 S) ?_
        refine r_aload_n (q118 (i := 13) rfl) l0 ?_
        refine r_getI (x := nI a) (q118 (i := 14) rfl) rfl (by decide) (k_47 S) (fun _ _ _ => rfl) ea ?_
        refine r_baN (x := B a) (q118 (i := 15) rfl) (k_1074 S) (by omega) (by decide) (by rw [T.1]) ?_
        refine r_bipush (v := 48) (q118 (i := 16) rfl) (by decide) ?_
        refine r_icmp 114 (q118 (i := 17) rfl) (by decide) (fun c32 => ?_) (fun c32 => ?_)
        · have c32 : B a < 48 := c32
          exact k ls l1 l0
        · have c32 : ¬ (B a < 48) := c32
          refine r_aload_n (q118 (i := 18) rfl) l0 ?_
          refine r_getR (b := 1074) (q118 (i := 19) rfl) rfl (by decide) (k_47 S) (fun _ _ _ => rfl) (r_47_24 S) ?_
          refine r_aload_n (q118 (i := 20) rfl) l0 ?_
          refine r_getI (x := nI a) (q118 (i := 21) rfl) rfl (by decide) (k_47 S) (fun _ _ _ => rfl) ea ?_
          refine r_baN (x := B a) (q118 (i := 22) rfl) (k_1074 S) (by omega) (by decide) (by rw [T.1]) ?_
          refine r_bipush (v := 57) (q118 (i := 23) rfl) (by decide) ?_
          refine r_icmp 114 (q118 (i := 24) rfl) (by decide) (fun _ => ?_) (fun zz => absurd (show 57 < B a from Classical.not_not.mp (fun y => g (by_n T.2.2.2 hlt c32 y))) zz)
          exact k ls l1 l0
set_option maxHeartbeats 2000000 in
set_option maxRecDepth 10000 in
theorem mnum_z {d : Nat} {B : Nat → Int32} {z f0 : Nat} {a : Nat} {h : hp} (ha : a = f0 + 1) (hz : a ≤ z) (S : Sh h) (T : TM h B z) (ea : hI h 47 27 = nI a) (ev : hI h 47 29 = nI 0) {Q : resP} {bc bs : Nat} (k : ∀ ls : List (Nat × Value), ls.lookup 1 = some (.int (nI f0)) → ls.lookup 0 = some (.ref 47) → Wp (Ex d) 118 Q 114 ls [] h bc bs) (ls : List (Nat × Value)) (l1 : ls.lookup 1 = some (.int (nI f0))) (l0 : ls.lookup 0 = some (.ref 47)) : Wp (Ex d) 118 Q 10 ls [] h bc bs := by
  have hz3 := T.2.2.1
  refine r_aload_n (q118 (i := 6) rfl) l0 ?_
  refine r_getI (x := nI a) (q118 (i := 7) rfl) rfl (by decide) (k_47 S) (fun _ _ _ => rfl) ea ?_
  refine r_aload_n (q118 (i := 8) rfl) l0 ?_
  refine r_getI (x := nI z) (q118 (i := 9) rfl) rfl (by decide) (k_47 S) (fun _ _ _ => rfl) T.2.1 ?_
  refine r_icmp 114 (q118 (i := 10) rfl) (by decide) (fun c18 => ?_) (fun c18 => ?_)
  · have c18 : nI z ≤ nI a := c18
    exact k ls l1 l0
  · have c18 : ¬ (nI z ≤ nI a) := c18
    have hlt : a < z := by rcases Nat.lt_or_ge a z with y | y; exact y; exact absurd (nI_le y (by omega)) c18
    refine r_aload_n (q118 (i := 11) rfl) l0 ?_
    refine r_getR (b := 1074) (q118 (i := 12) rfl) rfl (by decide) (k_47 S) (fun _ _ _ => rfl) (r_47_24 S) ?_
    refine r_aload_n (q118 (i := 13) rfl) l0 ?_
    refine r_getI (x := nI a) (q118 (i := 14) rfl) rfl (by decide) (k_47 S) (fun _ _ _ => rfl) ea ?_
    refine r_baN (x := B a) (q118 (i := 15) rfl) (k_1074 S) (by omega) (by decide) (by rw [T.1]) ?_
    refine r_bipush (v := 48) (q118 (i := 16) rfl) (by decide) ?_
    refine r_icmp 114 (q118 (i := 17) rfl) (by decide) (fun c32 => ?_) (fun c32 => ?_)
    · have c32 : B a < 48 := c32
      exact k ls l1 l0
    · have c32 : ¬ (B a < 48) := c32
      refine r_aload_n (q118 (i := 18) rfl) l0 ?_
      refine r_getR (b := 1074) (q118 (i := 19) rfl) rfl (by decide) (k_47 S) (fun _ _ _ => rfl) (r_47_24 S) ?_
      refine r_aload_n (q118 (i := 20) rfl) l0 ?_
      refine r_getI (x := nI a) (q118 (i := 21) rfl) rfl (by decide) (k_47 S) (fun _ _ _ => rfl) ea ?_
      refine r_baN (x := B a) (q118 (i := 22) rfl) (k_1074 S) (by omega) (by decide) (by rw [T.1]) ?_
      refine r_bipush (v := 57) (q118 (i := 23) rfl) (by decide) ?_
      refine r_icmp 114 (q118 (i := 24) rfl) (by decide) (fun c46 => ?_) (fun c46 => ?_)
      · have c46 : 57 < B a := c46
        exact k ls l1 l0
      · have c46 : ¬ (57 < B a) := c46
        refine r_aload_n (q118 (i := 25) rfl) l0 ?_
        refine r_getI (x := nI a) (q118 (i := 26) rfl) rfl (by decide) (k_47 S) (fun _ _ _ => rfl) ea ?_
        refine r_iload_n (q118 (i := 27) rfl) l1 ?_
        refine r_isub (q118 (i := 28) rfl) ?_
        rw [show ((nI a) - (nI f0) : Int32) = nI (a - f0) from nI_subN (by omega)]
        refine r_bipush (v := 9) (q118 (i := 29) rfl) (by decide) ?_
        refine r_icmp 114 (q118 (i := 30) rfl) (by decide) (fun zz => absurd zz (show ¬ (9 ≤ nI (a - f0)) from nI_ge (b := 9) (by omega) (by decide))) (fun _ => ?_)
        refine r_aload_n (q118 (i := 31) rfl) l0 ?_
        refine r_getI (x := nI a) (q118 (i := 32) rfl) rfl (by decide) (k_47 S) (fun _ _ _ => rfl) ea ?_
        refine r_iload_n (q118 (i := 33) rfl) l1 ?_
        refine r_iconst (v := 1) (q118 (i := 34) rfl) (by decide) ?_
        refine r_iadd (q118 (i := 35) rfl) ?_
        rw [show ((nI f0) + 1 : Int32) = nI (f0 + 1) from nI_1 f0]
        refine r_icmp 77 (q118 (i := 36) rfl) (by decide) (fun zz => absurd zz (show ¬ (¬ nI a = nI (f0 + 1)) from fun y => y (by rw [ha]))) (fun _ => ?_)
        refine r_aload_n (q118 (i := 37) rfl) l0 ?_
        refine r_getI (x := 0) (q118 (i := 38) rfl) rfl (by decide) (k_47 S) (fun _ _ _ => rfl) ev ?_
        refine r_if 114 (q118 (i := 39) rfl) (by decide) (fun _ => ?_) (fun zz => absurd (show (0 : Int32) = 0 from by decide) zz)
        exact k ls l1 l0
set_option maxHeartbeats 2000000 in
set_option maxRecDepth 10000 in
theorem sp_mnum {d : Nat} {h : hp} (S : Sh h) {B : Nat → Int32} {z : Nat} (T : TM h B z) {t : Option (Nat × Nat)} (ft : FTM h t) {a : Nat} (ea : hI h 47 27 = nI a) (ha : a ≤ z) : ∃ h', Run (d + 1 + 1) 118 [.ref 47] h 0 0 (some (.int (if dg B z a then 1 else 0))) h' ∧ (if dg B z a then hI h' 47 27 = nI (numP B z a).2 ∧ hI h' 47 29 = nI (numP B z a).1 ∧ FTM h' t else hI h' 47 27 = nI a ∧ hI h' 47 29 = 0 ∧ FTM h' (ff t 1 a)) ∧ FrT2 h h' := by
  have hz := T.2.2.1
  obtain ⟨hs, es⟩ : ∃ x, x = sI h 47 29 0 := ⟨_, rfl⟩
  have Fs : FrNu h hs := by rw [es]; exact FrNu.w (by decide) _
  have Ss : Sh hs := by rw [es]; exact S.to rfl
  have Ts := Fs.T2.T T
  have eas : hI hs 47 27 = nI a := by rw [es]; exact ea
  have evs : hI hs 47 29 = nI 0 := by rw [es]; rfl
  by_cases g : dg B z a = true
  · rw [if_pos g]
    obtain ⟨n1, n2, n3⟩ := numP_le B z ha
    obtain ⟨hlt, g1, g2⟩ := dg_lt g
    have hgt : a < (numP B z a).2 := by
      unfold numP
      split
      · have e : numL B z 1 a 0 = numL B z 0 (a + 1) (10 * 0 + (cb B z a - 48)) := if_pos g
        rw [e]
        exact Nat.lt_succ_self a
      · have e : numL B z 9 a 0 = numL B z 8 (a + 1) (10 * 0 + (cb B z a - 48)) := if_pos g
        rw [e]
        have := (numL_le B z 8 (a + 1) (10 * 0 + (cb B z a - 48)) (by omega)).1
        omega
    have L : ∃ h', hI h' 47 27 = nI (numP B z a).2 ∧ hI h' 47 29 = nI (numP B z a).1 ∧ FrNu hs h' ∧ ∀ (Q : resP) (bc bs : Nat), (∀ ls : List (Nat × Value), ls.lookup 1 = some (.int (nI a)) → ls.lookup 0 = some (.ref 47) → Wp (Ex (d + 1)) 118 Q 114 ls [] h' bc bs) → ∀ ls : List (Nat × Value), ls.lookup 1 = some (.int (nI a)) → ls.lookup 0 = some (.ref 47) → Wp (Ex (d + 1)) 118 Q 10 ls [] hs bc bs := by
      by_cases c48 : cb B z a = 48
      · have en : numP B z a = (0, a + 1) := by
          unfold numP
          rw [if_pos c48]
          show (if dg B z a then _ else _) = _
          rw [if_pos g, c48]; rfl
        have bd := by_d Ts.2.2.2 hlt g
        have F1 : FrNu hs (sI (sI hs 47 29 (nI 0)) 47 27 (nI (a + 1))) := (FrNu.w (by decide) _).tr (FrNu.w (by decide) _)
        refine ⟨sI (sI hs 47 29 (nI 0)) 47 27 (nI (a + 1)), by rw [en]; rfl, by rw [en]; rfl, F1, fun Q bc bs k ls l1 l0 => ?_⟩
        refine r_aload_n (q118 (i := 6) rfl) l0 ?_
        refine r_getI (x := nI a) (q118 (i := 7) rfl) rfl (by decide) (k_47 Ss) (fun _ _ _ => rfl) eas ?_
        refine r_aload_n (q118 (i := 8) rfl) l0 ?_
        refine r_getI (x := nI z) (q118 (i := 9) rfl) rfl (by decide) (k_47 Ss) (fun _ _ _ => rfl) Ts.2.1 ?_
        refine r_icmp 114 (q118 (i := 10) rfl) (by decide) (fun zz => absurd zz (show ¬ (nI z ≤ nI a) from nI_ge hlt (by omega))) (fun _ => ?_)
        refine r_aload_n (q118 (i := 11) rfl) l0 ?_
        refine r_getR (b := 1074) (q118 (i := 12) rfl) rfl (by decide) (k_47 Ss) (fun _ _ _ => rfl) (r_47_24 Ss) ?_
        refine r_aload_n (q118 (i := 13) rfl) l0 ?_
        refine r_getI (x := nI a) (q118 (i := 14) rfl) rfl (by decide) (k_47 Ss) (fun _ _ _ => rfl) eas ?_
        refine r_baN (x := nI (cb B z a)) (q118 (i := 15) rfl) (k_1074 Ss) (by omega) (by decide) (by rw [Ts.1]; exact bd.1) ?_
        refine r_bipush (v := 48) (q118 (i := 16) rfl) (by decide) ?_
        refine r_icmp 114 (q118 (i := 17) rfl) (by decide) (fun zz => absurd zz (show ¬ (nI (cb B z a) < 48) from by rw [← bd.1]; exact bd.2.1)) (fun _ => ?_)
        refine r_aload_n (q118 (i := 18) rfl) l0 ?_
        refine r_getR (b := 1074) (q118 (i := 19) rfl) rfl (by decide) (k_47 Ss) (fun _ _ _ => rfl) (r_47_24 Ss) ?_
        refine r_aload_n (q118 (i := 20) rfl) l0 ?_
        refine r_getI (x := nI a) (q118 (i := 21) rfl) rfl (by decide) (k_47 Ss) (fun _ _ _ => rfl) eas ?_
        refine r_baN (x := nI (cb B z a)) (q118 (i := 22) rfl) (k_1074 Ss) (by omega) (by decide) (by rw [Ts.1]; exact bd.1) ?_
        refine r_bipush (v := 57) (q118 (i := 23) rfl) (by decide) ?_
        refine r_icmp 114 (q118 (i := 24) rfl) (by decide) (fun zz => absurd zz (show ¬ (57 < nI (cb B z a)) from by rw [← bd.1]; exact bd.2.2)) (fun _ => ?_)
        refine r_aload_n (q118 (i := 25) rfl) l0 ?_
        refine r_getI (x := nI a) (q118 (i := 26) rfl) rfl (by decide) (k_47 Ss) (fun _ _ _ => rfl) eas ?_
        refine r_iload_n (q118 (i := 27) rfl) l1 ?_
        refine r_isub (q118 (i := 28) rfl) ?_
        rw [show ((nI a) - (nI a) : Int32) = nI (a - a) from nI_subN (by omega)]
        refine r_bipush (v := 9) (q118 (i := 29) rfl) (by decide) ?_
        refine r_icmp 114 (q118 (i := 30) rfl) (by decide) (fun zz => absurd zz (show ¬ (9 ≤ nI (a - a)) from nI_ge (b := 9) (by omega) (by decide))) (fun _ => ?_)
        refine r_aload_n (q118 (i := 31) rfl) l0 ?_
        refine r_getI (x := nI a) (q118 (i := 32) rfl) rfl (by decide) (k_47 Ss) (fun _ _ _ => rfl) eas ?_
        refine r_iload_n (q118 (i := 33) rfl) l1 ?_
        refine r_iconst (v := 1) (q118 (i := 34) rfl) (by decide) ?_
        refine r_iadd (q118 (i := 35) rfl) ?_
        rw [show ((nI a) + 1 : Int32) = nI (a + 1) from nI_1 a]
        refine r_icmp 77 (q118 (i := 36) rfl) (by decide) (fun _ => ?_) (fun zz => absurd (show ¬ nI a = nI (a + 1) from neN (by omega) (by omega) (by omega)) zz)
        refine r_aload_n (q118 (i := 40) rfl) l0 ?_
        refine r_bipush (v := 10) (q118 (i := 41) rfl) (by decide) ?_
        refine r_aload_n (q118 (i := 42) rfl) l0 ?_
        refine r_getI (x := nI 0) (q118 (i := 43) rfl) rfl (by decide) (k_47 Ss) (fun _ _ _ => rfl) evs ?_
        refine r_imul (q118 (i := 44) rfl) ?_
        rw [show (10 * (nI 0) : Int32) = nI (10 * 0) from nI_mul 10 0]
        refine r_aload_n (q118 (i := 45) rfl) l0 ?_
        refine r_getR (b := 1074) (q118 (i := 46) rfl) rfl (by decide) (k_47 Ss) (fun _ _ _ => rfl) (r_47_24 Ss) ?_
        refine r_aload_n (q118 (i := 47) rfl) l0 ?_
        refine r_getI (x := nI a) (q118 (i := 48) rfl) rfl (by decide) (k_47 Ss) (fun _ _ _ => rfl) eas ?_
        refine r_baN (x := nI (cb B z a)) (q118 (i := 49) rfl) (k_1074 Ss) (by omega) (by decide) (by rw [Ts.1]; exact bd.1) ?_
        refine r_iadd (q118 (i := 50) rfl) ?_
        rw [show ((nI (10 * 0)) + (nI (cb B z a)) : Int32) = nI (10 * 0 + cb B z a) from nI_add _ _]
        refine r_bipush (v := 48) (q118 (i := 51) rfl) (by decide) ?_
        refine r_isub (q118 (i := 52) rfl) ?_
        rw [show ((nI (10 * 0 + cb B z a)) - 48 : Int32) = nI 0 from by rw [c48]; rfl]
        refine r_putI (q118 (i := 53) rfl) rfl (by decide) (k_47 Ss) rfl rfl ?_
        refine r_aload_n (q118 (i := 54) rfl) l0 ?_
        refine r_dup (q118 (i := 55) rfl) rfl ?_
        refine r_getI (x := nI a) (q118 (i := 56) rfl) rfl (by decide) (k_47 Ss) (fun _ _ _ => rfl) eas ?_
        refine r_iconst (v := 1) (q118 (i := 57) rfl) (by decide) ?_
        refine r_iadd (q118 (i := 58) rfl) ?_
        rw [show ((nI a) + 1 : Int32) = nI (a + 1) from nI_1 a]
        refine r_putI (q118 (i := 59) rfl) rfl (by decide) (k_47 Ss) rfl rfl ?_
        refine r_goto 10 (q118 (i := 60) rfl) (by decide) ?_
        exact mnum_z (a := a + 1) (h := sI (sI hs 47 29 (nI 0)) 47 27 (nI (a + 1))) rfl (by omega) (Ss.to rfl) (F1.T2.T Ts) rfl rfl k ls l1 l0
      · have en : numP B z a = numL B z 9 a 0 := if_neg c48
        rw [en]
        exact lp_mnum 9 0 a 0 hs rfl rfl ha (fun y => absurd y (by decide)) (fun _ => ⟨c48, rfl⟩) (by decide) Ss Ts eas evs
    obtain ⟨h', e1, e2, F1, K⟩ := L
    have S1 : Sh h' := Ss.to (by rw [F1.1])
    refine ⟨h', ?_, by rw [if_pos g]; exact ⟨e1, e2, F1.ft (Fs.ft ft)⟩, (Fs.tr F1).T2⟩
    refine Run.of (d := d + 1) (Nat.le_of_ble_eq_true rfl) (fun Q hQ => ?_)
    show Wp (Ex (d + 1)) 118 Q 0 [(0, .ref 47)] [] h 0 0
    have T1 : ∀ ls : List (Nat × Value), ls.lookup 1 = some (.int (nI a)) → ls.lookup 0 = some (.ref 47) → Wp (Ex (d + 1)) 118 Q 114 ls [] h' 0 0 := fun ls l1 l0 => by
      refine r_aload_n (q118 (i := 61) rfl) l0 ?_
      refine r_getI (x := nI (numP B z a).2) (q118 (i := 62) rfl) rfl (by decide) (k_47 S1) (fun _ _ _ => rfl) e1 ?_
      refine r_iload_n (q118 (i := 63) rfl) l1 ?_
      refine r_icmp 134 (q118 (i := 64) rfl) (by decide) (fun _ => ?_) (fun zz => absurd (show nI a < nI (numP B z a).2 from nI_lt hgt (by omega)) zz)
      refine r_iconst (v := 1) (q118 (i := 71) rfl) (by decide) ?_
      refine r_goto 139 (q118 (i := 72) rfl) (by decide) ?_
      exact r_zret (q118 (i := 74) rfl) rfl (by decide) hQ
    refine r_aload_n (q118 (i := 0) rfl) rfl ?_
    refine r_getI (x := nI a) (q118 (i := 1) rfl) rfl (by decide) (k_47 S) (fun _ _ _ => rfl) ea ?_
    refine r_istore_n (ls' := [(1, .int (nI a)), (0, .ref 47)]) (q118 (i := 2) rfl) (Nat.le_of_ble_eq_true rfl) rfl ?_
    refine r_aload_n (q118 (i := 3) rfl) rfl ?_
    refine r_iconst (v := 0) (q118 (i := 4) rfl) (by decide) ?_
    refine r_putI (q118 (i := 5) rfl) rfl (by decide) (k_47 S) rfl rfl ?_
    rw [← es]
    exact K Q 0 0 T1 _ rfl rfl
  · rw [if_neg g]
    obtain ⟨h1, R1, ft1, F1, x1, x2⟩ := sp_fails (d := d) Ss (Fs.ft ft) (f := 1) (p := a) (by decide) (by omega)
    refine ⟨h1, ?_, by rw [if_neg g]; exact ⟨x1.trans eas, x2.trans evs, ft1⟩, Fs.T2.tr F1⟩
    refine Run.of (d := d + 1) (Nat.le_of_ble_eq_true rfl) (fun Q hQ => ?_)
    show Wp (Ex (d + 1)) 118 Q 0 [(0, .ref 47)] [] h 0 0
    have T1 : ∀ ls : List (Nat × Value), ls.lookup 1 = some (.int (nI a)) → ls.lookup 0 = some (.ref 47) → Wp (Ex (d + 1)) 118 Q 114 ls [] hs 0 0 := fun ls l1 l0 => by
      refine r_aload_n (q118 (i := 61) rfl) l0 ?_
      refine r_getI (x := nI a) (q118 (i := 62) rfl) rfl (by decide) (k_47 Ss) (fun _ _ _ => rfl) eas ?_
      refine r_iload_n (q118 (i := 63) rfl) l1 ?_
      refine r_icmp 134 (q118 (i := 64) rfl) (by decide) (fun zz => absurd zz (show ¬ (nI a < nI a) from nI_nlt (Nat.le_refl _) (by omega))) (fun _ => ?_)
      refine r_aload_n (q118 (i := 65) rfl) l0 ?_
      refine r_iconst (v := 1) (q118 (i := 66) rfl) (by decide) ?_
      refine r_aload_n (q118 (i := 67) rfl) l0 ?_
      refine r_getI (x := nI a) (q118 (i := 68) rfl) rfl (by decide) (k_47 Ss) (fun _ _ _ => rfl) eas ?_
      refine r_cV (d := _) (q118 (i := 69) rfl) rfl rfl rfl (k_47 Ss) (Nat.le_of_ble_eq_true rfl) (Nat.zero_le _) (Nat.zero_le _) R1 ?_
      show Wp _ _ _ 131 ls [.int 0] h1 _ _
      refine r_if 138 (q118 (i := 70) rfl) (by decide) (fun _ => ?_) (fun zz => absurd (show (0 : Int32) = 0 from by decide) zz)
      refine r_iconst (v := 0) (q118 (i := 73) rfl) (by decide) ?_
      exact r_zret (q118 (i := 74) rfl) rfl (by decide) hQ
    have T0 : ∀ ls : List (Nat × Value), ls.lookup 1 = some (.int (nI a)) → ls.lookup 0 = some (.ref 47) → Wp (Ex (d + 1)) 118 Q 10 ls [] hs 0 0 := fun ls l1 l0 => by
      refine r_aload_n (q118 (i := 6) rfl) l0 ?_
      refine r_getI (x := nI a) (q118 (i := 7) rfl) rfl (by decide) (k_47 Ss) (fun _ _ _ => rfl) eas ?_
      refine r_aload_n (q118 (i := 8) rfl) l0 ?_
      refine r_getI (x := nI z) (q118 (i := 9) rfl) rfl (by decide) (k_47 Ss) (fun _ _ _ => rfl) Ts.2.1 ?_
      refine r_icmp 114 (q118 (i := 10) rfl) (by decide) (fun c18 => ?_) (fun c18 => ?_)
      · have c18 : nI z ≤ nI a := c18
        exact T1 ls l1 l0
      · have c18 : ¬ (nI z ≤ nI a) := c18
        have hlt : a < z := by rcases Nat.lt_or_ge a z with y | y; exact y; exact absurd (nI_le y (by omega)) c18
        refine r_aload_n (q118 (i := 11) rfl) l0 ?_
        refine r_getR (b := 1074) (q118 (i := 12) rfl) rfl (by decide) (k_47 Ss) (fun _ _ _ => rfl) (r_47_24 Ss) ?_
        refine r_aload_n (q118 (i := 13) rfl) l0 ?_
        refine r_getI (x := nI a) (q118 (i := 14) rfl) rfl (by decide) (k_47 Ss) (fun _ _ _ => rfl) eas ?_
        refine r_baN (x := B a) (q118 (i := 15) rfl) (k_1074 Ss) (by omega) (by decide) (by rw [Ts.1]) ?_
        refine r_bipush (v := 48) (q118 (i := 16) rfl) (by decide) ?_
        refine r_icmp 114 (q118 (i := 17) rfl) (by decide) (fun c32 => ?_) (fun c32 => ?_)
        · have c32 : B a < 48 := c32
          exact T1 ls l1 l0
        · have c32 : ¬ (B a < 48) := c32
          refine r_aload_n (q118 (i := 18) rfl) l0 ?_
          refine r_getR (b := 1074) (q118 (i := 19) rfl) rfl (by decide) (k_47 Ss) (fun _ _ _ => rfl) (r_47_24 Ss) ?_
          refine r_aload_n (q118 (i := 20) rfl) l0 ?_
          refine r_getI (x := nI a) (q118 (i := 21) rfl) rfl (by decide) (k_47 Ss) (fun _ _ _ => rfl) eas ?_
          refine r_baN (x := B a) (q118 (i := 22) rfl) (k_1074 Ss) (by omega) (by decide) (by rw [Ts.1]) ?_
          refine r_bipush (v := 57) (q118 (i := 23) rfl) (by decide) ?_
          refine r_icmp 114 (q118 (i := 24) rfl) (by decide) (fun _ => ?_) (fun zz => absurd (show 57 < B a from Classical.not_not.mp (fun y => g (by_n Ts.2.2.2 hlt c32 y))) zz)
          exact T1 ls l1 l0
    refine r_aload_n (q118 (i := 0) rfl) rfl ?_
    refine r_getI (x := nI a) (q118 (i := 1) rfl) rfl (by decide) (k_47 S) (fun _ _ _ => rfl) ea ?_
    refine r_istore_n (ls' := [(1, .int (nI a)), (0, .ref 47)]) (q118 (i := 2) rfl) (Nat.le_of_ble_eq_true rfl) rfl ?_
    refine r_aload_n (q118 (i := 3) rfl) rfl ?_
    refine r_iconst (v := 0) (q118 (i := 4) rfl) (by decide) ?_
    refine r_putI (q118 (i := 5) rfl) rfl (by decide) (k_47 S) rfl rfl ?_
    rw [← es]
    exact T0 _ rfl rfl
