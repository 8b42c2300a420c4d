/-! ===== the reference: its cells hold the same pure state ===== -/
def cirA (h : hp) : cir := (hI h 51, hI h 54, hI h 57, hI h 60)
def cirB (h : hp) : cir := (hI h 52, hI h 55, hI h 58, hI h 61)
def MA (h : hp) (k : ck) : Prop := cirA h = k.1 ∧ hI h 48 0 = nI k.2.1 ∧ hI h 63 = k.2.2.1 ∧ hI h 49 0 = nI k.2.2.2
def MB (h : hp) (k : ck) : Prop := cirB h = k.1 ∧ hI h 48 1 = nI k.2.1 ∧ hI h 64 = k.2.2.1 ∧ hI h 49 1 = nI k.2.2.2
def MV (h : hp) (v : vs) : Prop := hJ h 1071 = v.1 ∧ hI h 1072 = v.2.1 ∧ hI h 47 17 = nI v.2.2
/-- a graph in the reference's cells -/
def MG (h : hp) (n : Nat) (γ : gs) : Prop := hI h 47 11 = nI (gC γ) ∧ (∀ k, k ≤ n → hI h 68 k = -1 ∧ hI h 69 k = -1) ∧ (∀ k, n < k → k < gC γ → hI h 68 k = nI (gL γ k) ∧ hI h 69 k = nI (gR γ k)) ∧ ∀ k, k < gC γ → ∀ w, w < 64 → hJ h (71 + k) w = gW γ k w
def MGr (h : hp) (σ : st8) : Prop := hI h 47 10 = 1 ∧ MG h (zn σ) (zG σ) ∧ (∀ g, g < (za σ).2.1 → hI h 66 g = nI (z0 σ g)) ∧ ∀ g, g < (zb σ).2.1 → hI h 67 g = nI (z1 σ g)
def MSs (h : hp) (σ : st8) : Prop := match zs σ with
  | none => hI h 47 18 = 0
  | some q => hI h 47 18 = 1 ∧ MGr h σ ∧ hI h 47 20 = nI q.1 ∧ hI h 47 21 = nI q.2.1 ∧ hI h 47 22 = nI q.2.2.2 ∧ hI h 47 23 = nI (gC (zG σ)) - nI q.2.2.1
def MI (h : hp) (σ : st8) : Prop := (Sh h ∧ hI h 47 1 = nI (zn σ)) ∧ MA h (za σ) ∧ MB h (zb σ) ∧ MV h (zv σ) ∧ (hI h 1074 = (zt σ).1 ∧ hI h 47 25 = nI (zt σ).2 ∧ hI h 47 26 = zp σ) ∧ (hI h 1073 = fun k => nI (zr σ k)) ∧ (hI h 47 10 = 0 ∨ MGr h σ) ∧ MSs h σ
/-- the reference leaves the class alone -/
def FM (h h' : hp) : Prop := h'.2.2 = h.2.2 ∧ ∀ k, (k < 47 ∨ 1327 ≤ k) → hI h' k = hI h k ∧ hJ h' k = hJ h k
theorem FM.rf (h : hp) : FM h h := ⟨rfl, fun _ _ => ⟨rfl, rfl⟩⟩
theorem FM.tr {h h' h'' : hp} (a : FM h h') (b : FM h' h'') : FM h h'' := ⟨b.1.trans a.1, fun k x => ⟨(b.2 k x).1.trans (a.2 k x).1, (b.2 k x).2.trans (a.2 k x).2⟩⟩
theorem FM.w {h : hp} {a : Nat} (ha : 47 ≤ a ∧ a < 1327) (i : Nat) (v : Int32) : FM h (sI h a i v) := ⟨rfl, fun k x => ⟨by
  show u2 h.1 a _ _ k = _
  rw [u2_n (by omega)], rfl⟩⟩
theorem FM.wj {h : hp} {a : Nat} (ha : 47 ≤ a ∧ a < 1327) (i : Nat) (v : Int64) : FM h (sJ h a i v) := ⟨rfl, fun k x => ⟨rfl, by
  show u2 h.2.1 a _ _ k = _
  rw [u2_n (by omega)]⟩⟩
theorem FM.r {h : hp} {a : Nat} (ha : 47 ≤ a ∧ a < 1327) (f : Nat → Int32) : FM h (rI h a f) := ⟨rfl, fun k x => ⟨by
  show u1 h.1 a _ k = _
  rw [u1_n (by omega)], rfl⟩⟩
theorem FM.rj {h : hp} {a : Nat} (ha : 47 ≤ a ∧ a < 1327) (f : Nat → Int64) : FM h (rJ h a f) := ⟨rfl, fun k x => ⟨rfl, by
  show u1 h.2.1 a _ k = _
  rw [u1_n (by omega)]⟩⟩
theorem FM.S {h h' : hp} (F : FM h h') (S : Sh h) : Sh h' := S.to F.1
def MStep (j : Nat) (as : List Value) (h : hp) (v : Int32) (σ' : st8) : Prop := ∃ h', Run 8 j as h 0 0 (some (.int v)) h' ∧ MI h' σ' ∧ FM h h'
def chg (h : hp) : hp := sI (sI h 47 10 0) 47 18 0
theorem FM.chg (h : hp) : FM h (chg h) := (FM.w (by decide) _ _).tr (FM.w (by decide) _ _)
set_option maxHeartbeats 2000000 in
set_option maxRecDepth 10000 in
theorem sp_words {d : Nat} {h : hp} (S : Sh h) {n : Nat} (hn : n ≤ 12) (e1 : hI h 47 1 = nI n) : Run (d + 1) 104 [.ref 47] h 0 0 (some (.int (nI (2 ^ n)))) h := by
  refine Run.of (Nat.le_of_ble_eq_true rfl) (fun Q hQ => ?_)
  show Wp (Ex (d)) 104 Q 0 [(0, .ref 47)] [] h 0 0
  refine r_iconst (v := 1) (q104 (i := 0) rfl) (by decide) ?_
  refine r_aload_n (q104 (i := 1) rfl) rfl ?_
  refine r_getI (x := nI n) (q104 (i := 2) rfl) rfl (by decide) (k_47 S) (fun _ _ _ => rfl) e1 ?_
  refine r_ishl (q104 (i := 3) rfl) ?_
  rw [show (1 <<< ((nI n) &&& 31) : Int32) = nI (2 ^ n) from shl_n hn]
  exact r_iret (q104 (i := 4) rfl) rfl hQ
set_option maxHeartbeats 2000000 in
set_option maxRecDepth 10000 in
theorem sp_isC0 {d : Nat} {h : hp} : Run (d + 1) 105 [.int 0] h 0 0 (some (.int 1)) h := by
  refine Run.of (Nat.le_of_ble_eq_true rfl) (fun Q hQ => ?_)
  show Wp (Ex (d)) 105 Q 0 [(0, .int 0)] [] h 0 0
  refine r_iload_n (q105 (i := 0) rfl) rfl ?_
  refine r_if 9 (q105 (i := 1) rfl) (by decide) (fun _ => ?_) (fun zz => absurd (show (0 : Int32) = 0 from by decide) zz)
  refine r_iconst (v := 1) (q105 (i := 5) rfl) (by decide) ?_
  refine r_goto 14 (q105 (i := 6) rfl) (by decide) ?_
  exact r_zret (q105 (i := 8) rfl) rfl (by decide) hQ
set_option maxHeartbeats 2000000 in
set_option maxRecDepth 10000 in
theorem sp_isC1 {d : Nat} {h : hp} : Run (d + 1) 105 [.int 1] h 0 0 (some (.int 1)) h := by
  refine Run.of (Nat.le_of_ble_eq_true rfl) (fun Q hQ => ?_)
  show Wp (Ex (d)) 105 Q 0 [(0, .int 1)] [] h 0 0
  refine r_iload_n (q105 (i := 0) rfl) rfl ?_
  refine r_if 9 (q105 (i := 1) rfl) (by decide) (fun zz => absurd zz (show ¬ ((1 : Int32) = 0) from by decide)) (fun _ => ?_)
  refine r_iload_n (q105 (i := 2) rfl) rfl ?_
  refine r_iconst (v := 1) (q105 (i := 3) rfl) (by decide) ?_
  refine r_icmp 13 (q105 (i := 4) rfl) (by decide) (fun zz => absurd zz (show ¬ (¬ (1 : Int32) = 1) from by decide)) (fun _ => ?_)
  refine r_iconst (v := 1) (q105 (i := 5) rfl) (by decide) ?_
  refine r_goto 14 (q105 (i := 6) rfl) (by decide) ?_
  exact r_zret (q105 (i := 8) rfl) rfl (by decide) hQ
set_option maxHeartbeats 2000000 in
set_option maxRecDepth 10000 in
theorem sp_isCN {d : Nat} {h : hp} {x : Int32} (x0 : ¬ x = 0) (x1 : ¬ x = 1) : Run (d + 1) 105 [.int x] h 0 0 (some (.int 0)) h := by
  refine Run.of (Nat.le_of_ble_eq_true rfl) (fun Q hQ => ?_)
  show Wp (Ex (d)) 105 Q 0 [(0, .int x)] [] h 0 0
  refine r_iload_n (q105 (i := 0) rfl) rfl ?_
  refine r_if 9 (q105 (i := 1) rfl) (by decide) (fun zz => absurd zz (show ¬ (x = 0) from x0)) (fun _ => ?_)
  refine r_iload_n (q105 (i := 2) rfl) rfl ?_
  refine r_iconst (v := 1) (q105 (i := 3) rfl) (by decide) ?_
  refine r_icmp 13 (q105 (i := 4) rfl) (by decide) (fun _ => ?_) (fun zz => absurd (show ¬ x = 1 from x1) zz)
  refine r_iconst (v := 0) (q105 (i := 7) rfl) (by decide) ?_
  exact r_zret (q105 (i := 8) rfl) rfl (by decide) hQ
set_option maxHeartbeats 2000000 in
set_option maxRecDepth 10000 in
theorem sp_chg {d : Nat} {h : hp} (S : Sh h) : Run (d + 1) 106 [.ref 47] h 0 0 none (chg h) := by
  refine Run.of (Nat.le_of_ble_eq_true rfl) (fun Q hQ => ?_)
  show Wp (Ex (d)) 106 Q 0 [(0, .ref 47)] [] h 0 0
  refine r_aload_n (q106 (i := 0) rfl) rfl ?_
  refine r_iconst (v := 0) (q106 (i := 1) rfl) (by decide) ?_
  refine r_putZ (q106 (i := 2) rfl) rfl (by decide) (k_47 S) rfl rfl (by decide) ?_
  refine r_aload_n (q106 (i := 3) rfl) rfl ?_
  refine r_iconst (v := 0) (q106 (i := 4) rfl) (by decide) ?_
  refine r_putZ (q106 (i := 5) rfl) rfl (by decide) (k_47 S) rfl rfl (by decide) ?_
  exact r_vret (q106 (i := 6) rfl) rfl hQ
set_option maxHeartbeats 2000000 in
set_option maxRecDepth 10000 in
theorem sp_emp0 {d : Nat} {h : hp} (S : Sh h) : Run (d + 1 + 1) 107 [.ref 47, .int 0] h 0 0 none (chg (sI (sI h 48 0 0) 49 0 0)) := by
  refine Run.of (Nat.le_of_ble_eq_true rfl) (fun Q hQ => ?_)
  show Wp (Ex (d + 1)) 107 Q 0 [(0, .ref 47), (1, .int 0)] [] h 0 0
  refine r_aload_n (q107 (i := 0) rfl) rfl ?_
  refine r_getR (b := 48) (q107 (i := 1) rfl) rfl (by decide) (k_47 S) (fun _ _ _ => rfl) (r_47_2 S) ?_
  refine r_iload_n (q107 (i := 2) rfl) rfl ?_
  refine r_iconst (v := 0) (q107 (i := 3) rfl) (by decide) ?_
  refine r_iastore (q107 (i := 4) rfl) (k_48 S) (vp_in_nI (n := 0) (by decide) (by decide)) ?_
  show Wp _ _ _ _ _ _ (sI h 48 0 0) _ _
  refine r_aload_n (q107 (i := 5) rfl) rfl ?_
  refine r_getR (b := 49) (q107 (i := 6) rfl) rfl (by decide) (k_47 S) (fun _ _ _ => rfl) (r_47_3 S) ?_
  refine r_iload_n (q107 (i := 7) rfl) rfl ?_
  refine r_iconst (v := 0) (q107 (i := 8) rfl) (by decide) ?_
  refine r_iastore (q107 (i := 9) rfl) (k_49 S) (vp_in_nI (n := 0) (by decide) (by decide)) ?_
  show Wp _ _ _ _ _ _ (sI (sI h 48 0 0) 49 0 0) _ _
  refine r_aload_n (q107 (i := 10) rfl) rfl ?_
  refine r_cV (d := _) (q107 (i := 11) rfl) rfl rfl rfl (k_47 S) (Nat.le_of_ble_eq_true rfl) (Nat.zero_le _) (Nat.zero_le _) (sp_chg (d := d) (h := sI (sI h 48 0 0) 49 0 0) (S.to rfl)) ?_
  show Wp _ _ _ 18 [(0, .ref 47), (1, .int 0)] [] (chg (sI (sI h 48 0 0) 49 0 0)) _ _
  exact r_vret (q107 (i := 12) rfl) rfl hQ
set_option maxHeartbeats 2000000 in
set_option maxRecDepth 10000 in
theorem sp_mhas0 {d : Nat} {h : hp} (S : Sh h) {n g : Nat} (e1 : hI h 47 1 = nI n) (e2 : hI h 48 0 = nI g) (s : Int32) : Run (d + 1) 109 [.ref 47, .int 0, .int s] h 0 0 (some (.int (hasS (nI (n + g)) s))) h := by
  refine Run.of (Nat.le_of_ble_eq_true rfl) (fun Q hQ => ?_)
  show Wp (Ex (d)) 109 Q 0 [(0, .ref 47), (1, .int 0), (2, .int s)] [] h 0 0
  refine r_iload_n (q109 (i := 0) rfl) rfl ?_
  refine r_if 10 (q109 (i := 1) rfl) (by decide) (fun c1 => ?_) (fun c1 => ?_)
  · have c1 : 0 ≤ s := c1
    have zpl : pl s = s := pl_pos c1
    refine r_iload_n (q109 (i := 6) rfl) rfl ?_
    refine r_istore_n (ls' := [(3, .int s), (0, .ref 47), (1, .int 0), (2, .int s)]) (q109 (i := 7) rfl) (Nat.le_of_ble_eq_true rfl) rfl ?_
    refine r_iload_n (q109 (i := 8) rfl) rfl ?_
    refine r_aload_n (q109 (i := 9) rfl) rfl ?_
    refine r_getI (x := nI n) (q109 (i := 10) rfl) rfl (by decide) (k_47 S) (fun _ _ _ => rfl) e1 ?_
    refine r_aload_n (q109 (i := 11) rfl) rfl ?_
    refine r_getR (b := 48) (q109 (i := 12) rfl) rfl (by decide) (k_47 S) (fun _ _ _ => rfl) (r_47_2 S) ?_
    refine r_iload_n (q109 (i := 13) rfl) rfl ?_
    refine r_iaload (x := nI g) (q109 (i := 14) rfl) (k_48 S) (vp_in_nI (n := 0) (by decide) (by decide)) e2 ?_
    refine r_iadd (q109 (i := 15) rfl) ?_
    rw [show ((nI n) + (nI g) : Int32) = nI (n + g) from nI_add _ _]
    refine r_icmp 31 (q109 (i := 16) rfl) (by decide) (fun c24 => ?_) (fun c24 => ?_)
    · have c24 : nI (n + g) ≤ s := c24
      have z0 : hasS (nI (n + g)) s = 0 := if_neg (by rw [zpl]; exact nlt0 c24)
      rw [z0] at hQ
      refine r_iconst (v := 0) (q109 (i := 19) rfl) (by decide) ?_
      exact r_zret (q109 (i := 20) rfl) rfl (by decide) hQ
    · have c24 : ¬ (nI (n + g) ≤ s) := c24
      have z0 : hasS (nI (n + g)) s = 1 := if_pos (by rw [zpl]; exact lt0 c24)
      rw [z0] at hQ
      refine r_iconst (v := 1) (q109 (i := 17) rfl) (by decide) ?_
      refine r_goto 32 (q109 (i := 18) rfl) (by decide) ?_
      exact r_zret (q109 (i := 20) rfl) rfl (by decide) hQ
  · have c1 : ¬ (0 ≤ s) := c1
    have zpl : pl s = s ^^^ (-1) := if_pos (lt0 c1)
    refine r_iload_n (q109 (i := 2) rfl) rfl ?_
    refine r_iconst (v := (-1)) (q109 (i := 3) rfl) (by decide) ?_
    refine r_ixor (q109 (i := 4) rfl) ?_
    refine r_goto 11 (q109 (i := 5) rfl) (by decide) ?_
    refine r_istore_n (ls' := [(3, .int (s ^^^ (-1))), (0, .ref 47), (1, .int 0), (2, .int s)]) (q109 (i := 7) rfl) (Nat.le_of_ble_eq_true rfl) rfl ?_
    refine r_iload_n (q109 (i := 8) rfl) rfl ?_
    refine r_aload_n (q109 (i := 9) rfl) rfl ?_
    refine r_getI (x := nI n) (q109 (i := 10) rfl) rfl (by decide) (k_47 S) (fun _ _ _ => rfl) e1 ?_
    refine r_aload_n (q109 (i := 11) rfl) rfl ?_
    refine r_getR (b := 48) (q109 (i := 12) rfl) rfl (by decide) (k_47 S) (fun _ _ _ => rfl) (r_47_2 S) ?_
    refine r_iload_n (q109 (i := 13) rfl) rfl ?_
    refine r_iaload (x := nI g) (q109 (i := 14) rfl) (k_48 S) (vp_in_nI (n := 0) (by decide) (by decide)) e2 ?_
    refine r_iadd (q109 (i := 15) rfl) ?_
    rw [show ((nI n) + (nI g) : Int32) = nI (n + g) from nI_add _ _]
    refine r_icmp 31 (q109 (i := 16) rfl) (by decide) (fun c24 => ?_) (fun c24 => ?_)
    · have c24 : nI (n + g) ≤ s ^^^ (-1) := c24
      have z0 : hasS (nI (n + g)) s = 0 := if_neg (by rw [zpl]; exact nlt0 c24)
      rw [z0] at hQ
      refine r_iconst (v := 0) (q109 (i := 19) rfl) (by decide) ?_
      exact r_zret (q109 (i := 20) rfl) rfl (by decide) hQ
    · have c24 : ¬ (nI (n + g) ≤ s ^^^ (-1)) := c24
      have z0 : hasS (nI (n + g)) s = 1 := if_pos (by rw [zpl]; exact lt0 c24)
      rw [z0] at hQ
      refine r_iconst (v := 1) (q109 (i := 17) rfl) (by decide) ?_
      refine r_goto 32 (q109 (i := 18) rfl) (by decide) ?_
      exact r_zret (q109 (i := 20) rfl) rfl (by decide) hQ
set_option maxHeartbeats 2000000 in
set_option maxRecDepth 10000 in
theorem sp_emp1 {d : Nat} {h : hp} (S : Sh h) : Run (d + 1 + 1) 107 [.ref 47, .int 1] h 0 0 none (chg (sI (sI h 48 1 0) 49 1 0)) := by
  refine Run.of (Nat.le_of_ble_eq_true rfl) (fun Q hQ => ?_)
  show Wp (Ex (d + 1)) 107 Q 0 [(0, .ref 47), (1, .int 1)] [] h 0 0
  refine r_aload_n (q107 (i := 0) rfl) rfl ?_
  refine r_getR (b := 48) (q107 (i := 1) rfl) rfl (by decide) (k_47 S) (fun _ _ _ => rfl) (r_47_2 S) ?_
  refine r_iload_n (q107 (i := 2) rfl) rfl ?_
  refine r_iconst (v := 0) (q107 (i := 3) rfl) (by decide) ?_
  refine r_iastore (q107 (i := 4) rfl) (k_48 S) (vp_in_nI (n := 1) (by decide) (by decide)) ?_
  show Wp _ _ _ _ _ _ (sI h 48 1 0) _ _
  refine r_aload_n (q107 (i := 5) rfl) rfl ?_
  refine r_getR (b := 49) (q107 (i := 6) rfl) rfl (by decide) (k_47 S) (fun _ _ _ => rfl) (r_47_3 S) ?_
  refine r_iload_n (q107 (i := 7) rfl) rfl ?_
  refine r_iconst (v := 0) (q107 (i := 8) rfl) (by decide) ?_
  refine r_iastore (q107 (i := 9) rfl) (k_49 S) (vp_in_nI (n := 1) (by decide) (by decide)) ?_
  show Wp _ _ _ _ _ _ (sI (sI h 48 1 0) 49 1 0) _ _
  refine r_aload_n (q107 (i := 10) rfl) rfl ?_
  refine r_cV (d := _) (q107 (i := 11) rfl) rfl rfl rfl (k_47 S) (Nat.le_of_ble_eq_true rfl) (Nat.zero_le _) (Nat.zero_le _) (sp_chg (d := d) (h := sI (sI h 48 1 0) 49 1 0) (S.to rfl)) ?_
  show Wp _ _ _ 18 [(0, .ref 47), (1, .int 1)] [] (chg (sI (sI h 48 1 0) 49 1 0)) _ _
  exact r_vret (q107 (i := 12) rfl) rfl hQ
set_option maxHeartbeats 2000000 in
set_option maxRecDepth 10000 in
theorem sp_mhas1 {d : Nat} {h : hp} (S : Sh h) {n g : Nat} (e1 : hI h 47 1 = nI n) (e2 : hI h 48 1 = nI g) (s : Int32) : Run (d + 1) 109 [.ref 47, .int 1, .int s] h 0 0 (some (.int (hasS (nI (n + g)) s))) h := by
  refine Run.of (Nat.le_of_ble_eq_true rfl) (fun Q hQ => ?_)
  show Wp (Ex (d)) 109 Q 0 [(0, .ref 47), (1, .int 1), (2, .int s)] [] h 0 0
  refine r_iload_n (q109 (i := 0) rfl) rfl ?_
  refine r_if 10 (q109 (i := 1) rfl) (by decide) (fun c1 => ?_) (fun c1 => ?_)
  · have c1 : 0 ≤ s := c1
    have zpl : pl s = s := pl_pos c1
    refine r_iload_n (q109 (i := 6) rfl) rfl ?_
    refine r_istore_n (ls' := [(3, .int s), (0, .ref 47), (1, .int 1), (2, .int s)]) (q109 (i := 7) rfl) (Nat.le_of_ble_eq_true rfl) rfl ?_
    refine r_iload_n (q109 (i := 8) rfl) rfl ?_
    refine r_aload_n (q109 (i := 9) rfl) rfl ?_
    refine r_getI (x := nI n) (q109 (i := 10) rfl) rfl (by decide) (k_47 S) (fun _ _ _ => rfl) e1 ?_
    refine r_aload_n (q109 (i := 11) rfl) rfl ?_
    refine r_getR (b := 48) (q109 (i := 12) rfl) rfl (by decide) (k_47 S) (fun _ _ _ => rfl) (r_47_2 S) ?_
    refine r_iload_n (q109 (i := 13) rfl) rfl ?_
    refine r_iaload (x := nI g) (q109 (i := 14) rfl) (k_48 S) (vp_in_nI (n := 1) (by decide) (by decide)) e2 ?_
    refine r_iadd (q109 (i := 15) rfl) ?_
    rw [show ((nI n) + (nI g) : Int32) = nI (n + g) from nI_add _ _]
    refine r_icmp 31 (q109 (i := 16) rfl) (by decide) (fun c24 => ?_) (fun c24 => ?_)
    · have c24 : nI (n + g) ≤ s := c24
      have z0 : hasS (nI (n + g)) s = 0 := if_neg (by rw [zpl]; exact nlt0 c24)
      rw [z0] at hQ
      refine r_iconst (v := 0) (q109 (i := 19) rfl) (by decide) ?_
      exact r_zret (q109 (i := 20) rfl) rfl (by decide) hQ
    · have c24 : ¬ (nI (n + g) ≤ s) := c24
      have z0 : hasS (nI (n + g)) s = 1 := if_pos (by rw [zpl]; exact lt0 c24)
      rw [z0] at hQ
      refine r_iconst (v := 1) (q109 (i := 17) rfl) (by decide) ?_
      refine r_goto 32 (q109 (i := 18) rfl) (by decide) ?_
      exact r_zret (q109 (i := 20) rfl) rfl (by decide) hQ
  · have c1 : ¬ (0 ≤ s) := c1
    have zpl : pl s = s ^^^ (-1) := if_pos (lt0 c1)
    refine r_iload_n (q109 (i := 2) rfl) rfl ?_
    refine r_iconst (v := (-1)) (q109 (i := 3) rfl) (by decide) ?_
    refine r_ixor (q109 (i := 4) rfl) ?_
    refine r_goto 11 (q109 (i := 5) rfl) (by decide) ?_
    refine r_istore_n (ls' := [(3, .int (s ^^^ (-1))), (0, .ref 47), (1, .int 1), (2, .int s)]) (q109 (i := 7) rfl) (Nat.le_of_ble_eq_true rfl) rfl ?_
    refine r_iload_n (q109 (i := 8) rfl) rfl ?_
    refine r_aload_n (q109 (i := 9) rfl) rfl ?_
    refine r_getI (x := nI n) (q109 (i := 10) rfl) rfl (by decide) (k_47 S) (fun _ _ _ => rfl) e1 ?_
    refine r_aload_n (q109 (i := 11) rfl) rfl ?_
    refine r_getR (b := 48) (q109 (i := 12) rfl) rfl (by decide) (k_47 S) (fun _ _ _ => rfl) (r_47_2 S) ?_
    refine r_iload_n (q109 (i := 13) rfl) rfl ?_
    refine r_iaload (x := nI g) (q109 (i := 14) rfl) (k_48 S) (vp_in_nI (n := 1) (by decide) (by decide)) e2 ?_
    refine r_iadd (q109 (i := 15) rfl) ?_
    rw [show ((nI n) + (nI g) : Int32) = nI (n + g) from nI_add _ _]
    refine r_icmp 31 (q109 (i := 16) rfl) (by decide) (fun c24 => ?_) (fun c24 => ?_)
    · have c24 : nI (n + g) ≤ s ^^^ (-1) := c24
      have z0 : hasS (nI (n + g)) s = 0 := if_neg (by rw [zpl]; exact nlt0 c24)
      rw [z0] at hQ
      refine r_iconst (v := 0) (q109 (i := 19) rfl) (by decide) ?_
      exact r_zret (q109 (i := 20) rfl) rfl (by decide) hQ
    · have c24 : ¬ (nI (n + g) ≤ s ^^^ (-1)) := c24
      have z0 : hasS (nI (n + g)) s = 1 := if_pos (by rw [zpl]; exact lt0 c24)
      rw [z0] at hQ
      refine r_iconst (v := 1) (q109 (i := 17) rfl) (by decide) ?_
      refine r_goto 32 (q109 (i := 18) rfl) (by decide) ?_
      exact r_zret (q109 (i := 20) rfl) rfl (by decide) hQ
theorem canT_0 {n g kd a b c : Int32} (h : canT n g kd a b c = 0) (h0 : ¬ kd < 0) (h8 : ¬ 8 < kd) (k : kd = 8 ∨ (¬ hasS n a = 0 ∧ ¬ hasS n b = 0 ∧ (kd < 6 ∨ ¬ hasS n c = 0))) : 120 ≤ g := by
  unfold canT at h
  rw [if_neg h0, if_neg h8] at h
  by_cases q : 120 ≤ g
  · exact q
  · rw [if_neg q] at h
    rcases k with k | ⟨k1, k2, k3⟩
    · rw [if_pos k] at h
      exact absurd h (by decide)
    · by_cases e8 : kd = 8
      · rw [if_pos e8] at h
        exact absurd h (by decide)
      · rw [if_neg e8, if_neg k1, if_neg k2] at h
        rw [if_neg] at h
        · exact absurd h (by decide)
        · intro y
          rcases k3 with k3 | k3
          · rcases y.1 with y | y <;> rw [y] at k3 <;> exact absurd k3 (by decide)
          · exact k3 y.2
theorem MI.ch {h : hp} {σ σ' : st8} (M : MI h σ) {h' : hp} (e2 : h'.2 = h.2) (i : ∀ k, k ≠ 47 → k ≠ 48 → k ≠ 49 → k ≠ 51 → k ≠ 52 → k ≠ 54 → k ≠ 55 → k ≠ 57 → k ≠ 58 → k ≠ 60 → k ≠ 61 → k ≠ 63 → k ≠ 64 → hI h' k = hI h k) (i47 : hI h' 47 = hI h 47) (ec : zn σ' = zn σ) (ev : zv σ' = zv σ) (et : zt σ' = zt σ) (ep : zp σ' = zp σ) (er : zr σ' = zr σ) (es : zs σ' = none) (a : MA h' (za σ')) (b : MB h' (zb σ')) : MI (chg h') σ' := by
  obtain ⟨m1, m2, m3, m4, m5, m6, m7, m8⟩ := M
  have S' : Sh h' := m1.1.to (by rw [e2])
  have j : ∀ k, k ≠ 47 → hI (chg h') k = hI h' k := fun k hk => by
    show u2 (u2 h'.1 47 _ _) 47 _ _ k = _
    rw [u2_n hk, u2_n hk]
  refine ⟨⟨S'.to rfl, ?_⟩, a, b, ?_, ⟨?_, ?_, ?_⟩, ?_, Or.inl rfl, ?_⟩
  · show hI h' 47 1 = _
    rw [i47, ec]; exact m1.2
  · rw [ev]
    refine ⟨?_, ?_, ?_⟩
    · show h'.2.1 1071 = _
      rw [e2]; exact m4.1
    · show hI h' 1072 = _
      rw [i 1072 (by decide) (by decide) (by decide) (by decide) (by decide) (by decide) (by decide) (by decide) (by decide) (by decide) (by decide) (by decide) (by decide)]; exact m4.2.1
    · show hI h' 47 17 = _
      rw [i47]; exact m4.2.2
  · rw [et]
    show hI h' 1074 = _
    rw [i 1074 (by decide) (by decide) (by decide) (by decide) (by decide) (by decide) (by decide) (by decide) (by decide) (by decide) (by decide) (by decide) (by decide)]; exact m5.1
  · rw [et]
    show hI h' 47 25 = _
    rw [i47]; exact m5.2.1
  · rw [ep]
    show hI h' 47 26 = _
    rw [i47]; exact m5.2.2
  · rw [er]
    show hI h' 1073 = _
    rw [i 1073 (by decide) (by decide) (by decide) (by decide) (by decide) (by decide) (by decide) (by decide) (by decide) (by decide) (by decide) (by decide) (by decide)]; exact m6
  · unfold MSs
    rw [es]
    exact rfl
theorem kd67 {kd : Int32} (h : ¬ kd = 8) (h8 : kd ≤ 8) (h6 : 6 ≤ kd) : kd = 6 ∨ kd = 7 := by
  obtain ⟨k, hk, e⟩ := nI_of2 (x := kd) (M := 8) (n := 8) (by decide) (fun y => absurd (Int32.lt_of_lt_of_le y (by decide : (0 : Int32) ≤ 6)) (nlt0 h6)) h8
  rw [e] at h h6 ⊢
  have h6 := (nI_leI (a := 6) (b := k) (by decide) (by omega)).mp h6
  rcases (show k = 6 ∨ k = 7 ∨ k = 8 by omega) with y | y | y
  · rw [y]; exact Or.inl rfl
  · rw [y]; exact Or.inr rfl
  · rw [y] at h; exact absurd rfl h
set_option maxHeartbeats 2000000 in
set_option maxRecDepth 10000 in
theorem ms_gate {h : hp} {σ : st8} (M : MI h σ) (Z : zok σ) (x kd a b t : Int32) : MStep 110 [.ref 47, .int x, .int kd, .int a, .int b, .int t] h (aGate σ x kd a b t) (nGate σ x kd a b t) := by
  have S := M.1.1
  have hn := Z.1.2
  have kA := Z.2.1.1
  have kB := Z.2.2.1.1
  have oA := Z.2.1.2.1
  have oB := Z.2.2.1.2.1
  unfold aGate nGate
  by_cases x0 : x = 0
  · rw [if_pos x0, if_pos x0]
    subst x0
    have R0 := sp_isC0 (d := 6) (h := h)
    have Ra := sp_mhas0 (d := 6) S M.1.2 M.2.1.2.1 a
    have Rb := sp_mhas0 (d := 6) S M.1.2 M.2.1.2.1 b
    have Rt := sp_mhas0 (d := 6) S M.1.2 M.2.1.2.1 t
    by_cases q : canT (nI (zn σ + (za σ).2.1)) (nI (za σ).2.1) kd a b t = 0
    · rw [if_pos q, if_pos q]
      refine ⟨h, ?_, M, FM.rf h⟩
      refine Run.of (d := 7) (Nat.le_of_ble_eq_true rfl) (fun Q hQ => ?_)
      show Wp (Ex 7) 110 Q 0 [(0, .ref 47), (1, .int 0), (2, .int kd), (3, .int a), (4, .int b), (5, .int t)] [] h 0 0
      have k120 : ¬ kd < 0 → kd ≤ 8 → (kd = 8 ∨ (¬ hasS (nI (zn σ + (za σ).2.1)) a = 0 ∧ ¬ hasS (nI (zn σ + (za σ).2.1)) b = 0 ∧ (kd < 6 ∨ ¬ hasS (nI (zn σ + (za σ).2.1)) t = 0))) → ¬ (¬ nI (za σ).2.1 = 120) := fun c8 c14 k => by
        have g1 := canT_0 q c8 (fun y => absurd c14 (Int32.not_le.mpr y)) k
        have g2 : (za σ).2.1 = 120 := by
          have g3 := (nI_leI (a := 120) (b := (za σ).2.1) (by decide) (by omega)).mp g1
          omega
        exact fun y => y (by rw [g2]; rfl)
      refine r_iload_n (q110 (i := 0) rfl) rfl ?_
      refine r_cS (d := _) (q110 (i := 1) rfl) rfl (Nat.le_of_ble_eq_true rfl) rfl rfl (Nat.le_of_ble_eq_true rfl) (Nat.zero_le _) (Nat.zero_le _) R0 ?_
      show Wp _ _ _ 4 [(0, .ref 47), (1, .int 0), (2, .int kd), (3, .int a), (4, .int b), (5, .int t)] [.int 1] h _ _
      refine r_if 17 (q110 (i := 2) rfl) (by decide) (fun zz => absurd zz (show ¬ ((1 : Int32) = 0) from by decide)) (fun _ => ?_)
      refine r_iload_n (q110 (i := 3) rfl) rfl ?_
      refine r_if 17 (q110 (i := 4) rfl) (by decide) (fun c8 => ?_) (fun c8 => ?_)
      · have c8 : kd < 0 := c8
        refine r_iconst (v := (-1)) (q110 (i := 8) rfl) (by decide) ?_
        exact r_iret (q110 (i := 9) rfl) rfl hQ
      · have c8 : ¬ (kd < 0) := c8
        refine r_iload_n (q110 (i := 5) rfl) rfl ?_
        refine r_bipush (v := 8) (q110 (i := 6) rfl) (by decide) ?_
        refine r_icmp 19 (q110 (i := 7) rfl) (by decide) (fun c14 => ?_) (fun c14 => ?_)
        · have c14 : kd ≤ 8 := c14
          refine r_iload_n (q110 (i := 10) rfl) rfl ?_
          refine r_bipush (v := 8) (q110 (i := 11) rfl) (by decide) ?_
          refine r_icmp 60 (q110 (i := 12) rfl) (by decide) (fun c22 => ?_) (fun c22 => ?_)
          · have c22 : kd = 8 := c22
            have K120 := k120 c8 c14 (Or.inl c22)
            refine r_iconst (v := 1) (q110 (i := 31) rfl) (by decide) ?_
            refine r_goto 65 (q110 (i := 32) rfl) (by decide) ?_
            refine r_istore (ls' := [(6, .int 1), (0, .ref 47), (1, .int 0), (2, .int kd), (3, .int a), (4, .int b), (5, .int t)]) (q110 (i := 34) rfl) (Nat.le_of_ble_eq_true rfl) rfl ?_
            refine r_iload (q110 (i := 35) rfl) rfl ?_
            refine r_if 83 (q110 (i := 36) rfl) (by decide) (fun zz => absurd zz (show ¬ ((1 : Int32) = 0) from by decide)) (fun _ => ?_)
            refine r_aload_n (q110 (i := 37) rfl) rfl ?_
            refine r_getR (b := 48) (q110 (i := 38) rfl) rfl (by decide) (k_47 S) (fun _ _ _ => rfl) (r_47_2 S) ?_
            refine r_iload_n (q110 (i := 39) rfl) rfl ?_
            refine r_iaload (x := nI (za σ).2.1) (q110 (i := 40) rfl) (k_48 S) (vp_in_nI (n := 0) (by decide) (by decide)) M.2.1.2.1 ?_
            refine r_bipush (v := 120) (q110 (i := 41) rfl) (by decide) ?_
            refine r_icmp 85 (q110 (i := 42) rfl) (by decide) (fun zz => absurd zz (show ¬ (¬ nI (za σ).2.1 = 120) from K120)) (fun _ => ?_)
            refine r_iconst (v := (-1)) (q110 (i := 43) rfl) (by decide) ?_
            exact r_iret (q110 (i := 44) rfl) rfl hQ
          · have c22 : ¬ (kd = 8) := c22
            refine r_aload_n (q110 (i := 13) rfl) rfl ?_
            refine r_iload_n (q110 (i := 14) rfl) rfl ?_
            refine r_iload_n (q110 (i := 15) rfl) rfl ?_
            refine r_cV (d := _) (q110 (i := 16) rfl) rfl rfl rfl (k_47 S) (Nat.le_of_ble_eq_true rfl) (Nat.zero_le _) (Nat.zero_le _) Ra ?_
            show Wp _ _ _ 31 [(0, .ref 47), (1, .int 0), (2, .int kd), (3, .int a), (4, .int b), (5, .int t)] [.int (hasS (nI (zn σ + (za σ).2.1)) a)] h _ _
            refine r_if 64 (q110 (i := 17) rfl) (by decide) (fun c31 => ?_) (fun c31 => ?_)
            · have c31 : hasS (nI (zn σ + (za σ).2.1)) a = 0 := c31
              refine r_iconst (v := 0) (q110 (i := 33) rfl) (by decide) ?_
              refine r_istore (ls' := [(6, .int 0), (0, .ref 47), (1, .int 0), (2, .int kd), (3, .int a), (4, .int b), (5, .int t)]) (q110 (i := 34) rfl) (Nat.le_of_ble_eq_true rfl) rfl ?_
              refine r_iload (q110 (i := 35) rfl) rfl ?_
              refine r_if 83 (q110 (i := 36) rfl) (by decide) (fun _ => ?_) (fun zz => absurd (show (0 : Int32) = 0 from by decide) zz)
              refine r_iconst (v := (-1)) (q110 (i := 43) rfl) (by decide) ?_
              exact r_iret (q110 (i := 44) rfl) rfl hQ
            · have c31 : ¬ (hasS (nI (zn σ + (za σ).2.1)) a = 0) := c31
              refine r_aload_n (q110 (i := 18) rfl) rfl ?_
              refine r_iload_n (q110 (i := 19) rfl) rfl ?_
              refine r_iload (q110 (i := 20) rfl) rfl ?_
              refine r_cV (d := _) (q110 (i := 21) rfl) rfl rfl rfl (k_47 S) (Nat.le_of_ble_eq_true rfl) (Nat.zero_le _) (Nat.zero_le _) Rb ?_
              show Wp _ _ _ 41 [(0, .ref 47), (1, .int 0), (2, .int kd), (3, .int a), (4, .int b), (5, .int t)] [.int (hasS (nI (zn σ + (za σ).2.1)) b)] h _ _
              refine r_if 64 (q110 (i := 22) rfl) (by decide) (fun c41 => ?_) (fun c41 => ?_)
              · have c41 : hasS (nI (zn σ + (za σ).2.1)) b = 0 := c41
                refine r_iconst (v := 0) (q110 (i := 33) rfl) (by decide) ?_
                refine r_istore (ls' := [(6, .int 0), (0, .ref 47), (1, .int 0), (2, .int kd), (3, .int a), (4, .int b), (5, .int t)]) (q110 (i := 34) rfl) (Nat.le_of_ble_eq_true rfl) rfl ?_
                refine r_iload (q110 (i := 35) rfl) rfl ?_
                refine r_if 83 (q110 (i := 36) rfl) (by decide) (fun _ => ?_) (fun zz => absurd (show (0 : Int32) = 0 from by decide) zz)
                refine r_iconst (v := (-1)) (q110 (i := 43) rfl) (by decide) ?_
                exact r_iret (q110 (i := 44) rfl) rfl hQ
              · have c41 : ¬ (hasS (nI (zn σ + (za σ).2.1)) b = 0) := c41
                refine r_iload_n (q110 (i := 23) rfl) rfl ?_
                refine r_bipush (v := 6) (q110 (i := 24) rfl) (by decide) ?_
                refine r_icmp 60 (q110 (i := 25) rfl) (by decide) (fun c47 => ?_) (fun c47 => ?_)
                · have c47 : kd < 6 := c47
                  have K120 := k120 c8 c14 (Or.inr ⟨c31, c41, Or.inl c47⟩)
                  refine r_iconst (v := 1) (q110 (i := 31) rfl) (by decide) ?_
                  refine r_goto 65 (q110 (i := 32) rfl) (by decide) ?_
                  refine r_istore (ls' := [(6, .int 1), (0, .ref 47), (1, .int 0), (2, .int kd), (3, .int a), (4, .int b), (5, .int t)]) (q110 (i := 34) rfl) (Nat.le_of_ble_eq_true rfl) rfl ?_
                  refine r_iload (q110 (i := 35) rfl) rfl ?_
                  refine r_if 83 (q110 (i := 36) rfl) (by decide) (fun zz => absurd zz (show ¬ ((1 : Int32) = 0) from by decide)) (fun _ => ?_)
                  refine r_aload_n (q110 (i := 37) rfl) rfl ?_
                  refine r_getR (b := 48) (q110 (i := 38) rfl) rfl (by decide) (k_47 S) (fun _ _ _ => rfl) (r_47_2 S) ?_
                  refine r_iload_n (q110 (i := 39) rfl) rfl ?_
                  refine r_iaload (x := nI (za σ).2.1) (q110 (i := 40) rfl) (k_48 S) (vp_in_nI (n := 0) (by decide) (by decide)) M.2.1.2.1 ?_
                  refine r_bipush (v := 120) (q110 (i := 41) rfl) (by decide) ?_
                  refine r_icmp 85 (q110 (i := 42) rfl) (by decide) (fun zz => absurd zz (show ¬ (¬ nI (za σ).2.1 = 120) from K120)) (fun _ => ?_)
                  refine r_iconst (v := (-1)) (q110 (i := 43) rfl) (by decide) ?_
                  exact r_iret (q110 (i := 44) rfl) rfl hQ
                · have c47 : ¬ (kd < 6) := c47
                  refine r_aload_n (q110 (i := 26) rfl) rfl ?_
                  refine r_iload_n (q110 (i := 27) rfl) rfl ?_
                  refine r_iload (q110 (i := 28) rfl) rfl ?_
                  refine r_cV (d := _) (q110 (i := 29) rfl) rfl rfl rfl (k_47 S) (Nat.le_of_ble_eq_true rfl) (Nat.zero_le _) (Nat.zero_le _) Rt ?_
                  show Wp _ _ _ 57 [(0, .ref 47), (1, .int 0), (2, .int kd), (3, .int a), (4, .int b), (5, .int t)] [.int (hasS (nI (zn σ + (za σ).2.1)) t)] h _ _
                  refine r_if 64 (q110 (i := 30) rfl) (by decide) (fun c57 => ?_) (fun c57 => ?_)
                  · have c57 : hasS (nI (zn σ + (za σ).2.1)) t = 0 := c57
                    refine r_iconst (v := 0) (q110 (i := 33) rfl) (by decide) ?_
                    refine r_istore (ls' := [(6, .int 0), (0, .ref 47), (1, .int 0), (2, .int kd), (3, .int a), (4, .int b), (5, .int t)]) (q110 (i := 34) rfl) (Nat.le_of_ble_eq_true rfl) rfl ?_
                    refine r_iload (q110 (i := 35) rfl) rfl ?_
                    refine r_if 83 (q110 (i := 36) rfl) (by decide) (fun _ => ?_) (fun zz => absurd (show (0 : Int32) = 0 from by decide) zz)
                    refine r_iconst (v := (-1)) (q110 (i := 43) rfl) (by decide) ?_
                    exact r_iret (q110 (i := 44) rfl) rfl hQ
                  · have c57 : ¬ (hasS (nI (zn σ + (za σ).2.1)) t = 0) := c57
                    have K120 := k120 c8 c14 (Or.inr ⟨c31, c41, Or.inr c57⟩)
                    refine r_iconst (v := 1) (q110 (i := 31) rfl) (by decide) ?_
                    refine r_goto 65 (q110 (i := 32) rfl) (by decide) ?_
                    refine r_istore (ls' := [(6, .int 1), (0, .ref 47), (1, .int 0), (2, .int kd), (3, .int a), (4, .int b), (5, .int t)]) (q110 (i := 34) rfl) (Nat.le_of_ble_eq_true rfl) rfl ?_
                    refine r_iload (q110 (i := 35) rfl) rfl ?_
                    refine r_if 83 (q110 (i := 36) rfl) (by decide) (fun zz => absurd zz (show ¬ ((1 : Int32) = 0) from by decide)) (fun _ => ?_)
                    refine r_aload_n (q110 (i := 37) rfl) rfl ?_
                    refine r_getR (b := 48) (q110 (i := 38) rfl) rfl (by decide) (k_47 S) (fun _ _ _ => rfl) (r_47_2 S) ?_
                    refine r_iload_n (q110 (i := 39) rfl) rfl ?_
                    refine r_iaload (x := nI (za σ).2.1) (q110 (i := 40) rfl) (k_48 S) (vp_in_nI (n := 0) (by decide) (by decide)) M.2.1.2.1 ?_
                    refine r_bipush (v := 120) (q110 (i := 41) rfl) (by decide) ?_
                    refine r_icmp 85 (q110 (i := 42) rfl) (by decide) (fun zz => absurd zz (show ¬ (¬ nI (za σ).2.1 = 120) from K120)) (fun _ => ?_)
                    refine r_iconst (v := (-1)) (q110 (i := 43) rfl) (by decide) ?_
                    exact r_iret (q110 (i := 44) rfl) rfl hQ
        · have c14 : ¬ (kd ≤ 8) := c14
          refine r_iconst (v := (-1)) (q110 (i := 8) rfl) (by decide) ?_
          exact r_iret (q110 (i := 9) rfl) rfl hQ
    · have q1 : canT (nI (zn σ + (za σ).2.1)) (nI (za σ).2.1) kd a b t = 1 := (canT01 _ _ _ _ _ _).resolve_left q
      obtain ⟨⟨g1, g2, g3⟩, g4, g5⟩ := canT_g q1
      have g6 := (kok_add hn Z.2.1 q1).2
      rw [if_neg q, if_neg q]
      have S2 : Sh (sI (sI (sI (sI (sI h 51 (za σ).2.1 kd) 54 (za σ).2.1 a) 57 (za σ).2.1 b) 60 (za σ).2.1 t) 48 0 (nI ((za σ).2.1 + 1))) := S.to rfl
      have R9 := sp_chg (d := 6) S2
      refine ⟨chg (sI (sI (sI (sI (sI h 51 (za σ).2.1 kd) 54 (za σ).2.1 a) 57 (za σ).2.1 b) 60 (za σ).2.1 t) 48 0 (nI ((za σ).2.1 + 1))), ?_, M.ch (h' := sI (sI (sI (sI (sI h 51 (za σ).2.1 kd) 54 (za σ).2.1 a) 57 (za σ).2.1 b) 60 (za σ).2.1 t) 48 0 (nI ((za σ).2.1 + 1))) rfl (fun k h47 h48 h49 h51 h52 h54 h55 h57 h58 h60 h61 h63 h64 => ?_) rfl rfl rfl rfl rfl rfl rfl ⟨by rw [← M.2.1.1]; rfl, rfl, M.2.1.2.2.1, M.2.1.2.2.2⟩ M.2.2.1, (((((FM.w (by decide) _ _).tr (FM.w (by decide) _ _)).tr (FM.w (by decide) _ _)).tr (FM.w (by decide) _ _)).tr (FM.w (by decide) _ _)).tr (FM.chg _)⟩
      rotate_left
      · show u2 (u2 (u2 (u2 (u2 h.1 51 _ _) 54 _ _) 57 _ _) 60 _ _) 48 _ _ k = _
        rw [u2_n h48, u2_n h60, u2_n h57, u2_n h54, u2_n h51]
      refine Run.of (d := 7) (Nat.le_of_ble_eq_true rfl) (fun Q hQ => ?_)
      have T60 : Wp (Ex 7) 110 Q 60 [(0, .ref 47), (1, .int 0), (2, .int kd), (3, .int a), (4, .int b), (5, .int t)] [] h 0 0 := by
        refine r_iconst (v := 1) (q110 (i := 31) rfl) (by decide) ?_
        refine r_goto 65 (q110 (i := 32) rfl) (by decide) ?_
        refine r_istore (ls' := [(6, .int 1), (0, .ref 47), (1, .int 0), (2, .int kd), (3, .int a), (4, .int b), (5, .int t)]) (q110 (i := 34) rfl) (Nat.le_of_ble_eq_true rfl) rfl ?_
        refine r_iload (q110 (i := 35) rfl) rfl ?_
        refine r_if 83 (q110 (i := 36) rfl) (by decide) (fun zz => absurd zz (show ¬ ((1 : Int32) = 0) from by decide)) (fun _ => ?_)
        refine r_aload_n (q110 (i := 37) rfl) rfl ?_
        refine r_getR (b := 48) (q110 (i := 38) rfl) rfl (by decide) (k_47 S) (fun _ _ _ => rfl) (r_47_2 S) ?_
        refine r_iload_n (q110 (i := 39) rfl) rfl ?_
        refine r_iaload (x := nI (za σ).2.1) (q110 (i := 40) rfl) (k_48 S) (vp_in_nI (n := 0) (by decide) (by decide)) M.2.1.2.1 ?_
        refine r_bipush (v := 120) (q110 (i := 41) rfl) (by decide) ?_
        refine r_icmp 85 (q110 (i := 42) rfl) (by decide) (fun _ => ?_) (fun zz => absurd (show ¬ nI (za σ).2.1 = 120 from neN (b := 120) (by omega) (by decide) (by omega)) zz)
        refine r_aload_n (q110 (i := 45) rfl) rfl ?_
        refine r_getR (b := 48) (q110 (i := 46) rfl) rfl (by decide) (k_47 S) (fun _ _ _ => rfl) (r_47_2 S) ?_
        refine r_iload_n (q110 (i := 47) rfl) rfl ?_
        refine r_iaload (x := nI (za σ).2.1) (q110 (i := 48) rfl) (k_48 S) (vp_in_nI (n := 0) (by decide) (by decide)) M.2.1.2.1 ?_
        refine r_istore (ls' := [(7, .int (nI (za σ).2.1)), (6, .int 1), (0, .ref 47), (1, .int 0), (2, .int kd), (3, .int a), (4, .int b), (5, .int t)]) (q110 (i := 49) rfl) (Nat.le_of_ble_eq_true rfl) rfl ?_
        refine r_aload_n (q110 (i := 50) rfl) rfl ?_
        refine r_getR (b := 50) (q110 (i := 51) rfl) rfl (by decide) (k_47 S) (fun _ _ _ => rfl) (r_47_4 S) ?_
        refine r_iload_n (q110 (i := 52) rfl) rfl ?_
        refine r_aaload5 (q110 (i := 53) rfl) (k_50 S) (vp_in_nI (n := 0) (by decide) (by decide)) (r_50_0 S) ?_
        refine r_iload (q110 (i := 54) rfl) rfl ?_
        refine r_iload_n (q110 (i := 55) rfl) rfl ?_
        refine r_iasN (q110 (i := 56) rfl) (k_51 S) (by omega) (by decide) ?_
        refine r_aload_n (q110 (i := 57) rfl) rfl ?_
        refine r_getR (b := 53) (q110 (i := 58) rfl) rfl (by decide) (k_47 S) (fun _ _ _ => rfl) (r_47_5 S) ?_
        refine r_iload_n (q110 (i := 59) rfl) rfl ?_
        refine r_aaload5 (q110 (i := 60) rfl) (k_53 S) (vp_in_nI (n := 0) (by decide) (by decide)) (r_53_0 S) ?_
        refine r_iload (q110 (i := 61) rfl) rfl ?_
        refine r_iload_n (q110 (i := 62) rfl) rfl ?_
        refine r_iasN (q110 (i := 63) rfl) (k_54 S) (by omega) (by decide) ?_
        refine r_aload_n (q110 (i := 64) rfl) rfl ?_
        refine r_getR (b := 56) (q110 (i := 65) rfl) rfl (by decide) (k_47 S) (fun _ _ _ => rfl) (r_47_6 S) ?_
        refine r_iload_n (q110 (i := 66) rfl) rfl ?_
        refine r_aaload5 (q110 (i := 67) rfl) (k_56 S) (vp_in_nI (n := 0) (by decide) (by decide)) (r_56_0 S) ?_
        refine r_iload (q110 (i := 68) rfl) rfl ?_
        refine r_iload (q110 (i := 69) rfl) rfl ?_
        refine r_iasN (q110 (i := 70) rfl) (k_57 S) (by omega) (by decide) ?_
        refine r_aload_n (q110 (i := 71) rfl) rfl ?_
        refine r_getR (b := 59) (q110 (i := 72) rfl) rfl (by decide) (k_47 S) (fun _ _ _ => rfl) (r_47_7 S) ?_
        refine r_iload_n (q110 (i := 73) rfl) rfl ?_
        refine r_aaload5 (q110 (i := 74) rfl) (k_59 S) (vp_in_nI (n := 0) (by decide) (by decide)) (r_59_0 S) ?_
        refine r_iload (q110 (i := 75) rfl) rfl ?_
        refine r_iload (q110 (i := 76) rfl) rfl ?_
        refine r_iasN (q110 (i := 77) rfl) (k_60 S) (by omega) (by decide) ?_
        refine r_aload_n (q110 (i := 78) rfl) rfl ?_
        refine r_getR (b := 48) (q110 (i := 79) rfl) rfl (by decide) (k_47 S) (fun _ _ _ => rfl) (r_47_2 S) ?_
        refine r_iload_n (q110 (i := 80) rfl) rfl ?_
        refine r_dup2 (q110 (i := 81) rfl) rfl rfl ?_
        refine r_iaload (x := nI (za σ).2.1) (q110 (i := 82) rfl) (k_48 S) (vp_in_nI (n := 0) (by decide) (by decide)) M.2.1.2.1 ?_
        refine r_iconst (v := 1) (q110 (i := 83) rfl) (by decide) ?_
        refine r_iadd (q110 (i := 84) rfl) ?_
        rw [show ((nI (za σ).2.1) + 1 : Int32) = nI ((za σ).2.1 + 1) from nI_1 _]
        refine r_iastore (q110 (i := 85) rfl) (k_48 S) (vp_in_nI (n := 0) (by decide) (by decide)) ?_
        show Wp _ _ _ _ _ _ (sI (sI (sI (sI (sI h 51 ((za σ).2.1) kd) 54 ((za σ).2.1) a) 57 ((za σ).2.1) b) 60 ((za σ).2.1) t) 48 0 (nI ((za σ).2.1 + 1))) _ _
        refine r_aload_n (q110 (i := 86) rfl) rfl ?_
        refine r_cV (d := _) (q110 (i := 87) rfl) rfl rfl rfl (k_47 S) (Nat.le_of_ble_eq_true rfl) (Nat.zero_le _) (Nat.zero_le _) R9 ?_
        show Wp _ _ _ 149 [(7, .int (nI (za σ).2.1)), (6, .int 1), (0, .ref 47), (1, .int 0), (2, .int kd), (3, .int a), (4, .int b), (5, .int t)] [] (chg (sI (sI (sI (sI (sI h 51 (za σ).2.1 kd) 54 (za σ).2.1 a) 57 (za σ).2.1 b) 60 (za σ).2.1 t) 48 0 (nI ((za σ).2.1 + 1)))) _ _
        refine r_aload_n (q110 (i := 88) rfl) rfl ?_
        refine r_getI (x := nI (zn σ)) (q110 (i := 89) rfl) rfl (by decide) (k_47 S) (fun _ _ _ => rfl) M.1.2 ?_
        refine r_iload (q110 (i := 90) rfl) rfl ?_
        refine r_iadd (q110 (i := 91) rfl) ?_
        rw [show ((nI (zn σ)) + (nI (za σ).2.1) : Int32) = nI (zn σ + (za σ).2.1) from nI_add _ _]
        exact r_iret (q110 (i := 92) rfl) rfl hQ
      show Wp (Ex 7) 110 Q 0 [(0, .ref 47), (1, .int 0), (2, .int kd), (3, .int a), (4, .int b), (5, .int t)] [] h 0 0
      refine r_iload_n (q110 (i := 0) rfl) rfl ?_
      refine r_cS (d := _) (q110 (i := 1) rfl) rfl (Nat.le_of_ble_eq_true rfl) rfl rfl (Nat.le_of_ble_eq_true rfl) (Nat.zero_le _) (Nat.zero_le _) R0 ?_
      show Wp _ _ _ 4 [(0, .ref 47), (1, .int 0), (2, .int kd), (3, .int a), (4, .int b), (5, .int t)] [.int 1] h _ _
      refine r_if 17 (q110 (i := 2) rfl) (by decide) (fun zz => absurd zz (show ¬ ((1 : Int32) = 0) from by decide)) (fun _ => ?_)
      refine r_iload_n (q110 (i := 3) rfl) rfl ?_
      refine r_if 17 (q110 (i := 4) rfl) (by decide) (fun zz => absurd zz (show ¬ (kd < 0) from g1)) (fun _ => ?_)
      refine r_iload_n (q110 (i := 5) rfl) rfl ?_
      refine r_bipush (v := 8) (q110 (i := 6) rfl) (by decide) ?_
      refine r_icmp 19 (q110 (i := 7) rfl) (by decide) (fun _ => ?_) (fun zz => absurd (show kd ≤ 8 from Int32.not_lt.mp g2) zz)
      refine r_iload_n (q110 (i := 10) rfl) rfl ?_
      refine r_bipush (v := 8) (q110 (i := 11) rfl) (by decide) ?_
      refine r_icmp 60 (q110 (i := 12) rfl) (by decide) (fun c22 => ?_) (fun c22 => ?_)
      · have c22 : kd = 8 := c22
        exact T60
      · have c22 : ¬ (kd = 8) := c22
        rw [hasS_1 (g4 c22).1] at Ra
        rw [hasS_1 (g4 c22).2] at Rb
        refine r_aload_n (q110 (i := 13) rfl) rfl ?_
        refine r_iload_n (q110 (i := 14) rfl) rfl ?_
        refine r_iload_n (q110 (i := 15) rfl) rfl ?_
        refine r_cV (d := _) (q110 (i := 16) rfl) rfl rfl rfl (k_47 S) (Nat.le_of_ble_eq_true rfl) (Nat.zero_le _) (Nat.zero_le _) Ra ?_
        show Wp _ _ _ 31 [(0, .ref 47), (1, .int 0), (2, .int kd), (3, .int a), (4, .int b), (5, .int t)] [.int 1] h _ _
        refine r_if 64 (q110 (i := 17) rfl) (by decide) (fun zz => absurd zz (show ¬ ((1 : Int32) = 0) from by decide)) (fun _ => ?_)
        refine r_aload_n (q110 (i := 18) rfl) rfl ?_
        refine r_iload_n (q110 (i := 19) rfl) rfl ?_
        refine r_iload (q110 (i := 20) rfl) rfl ?_
        refine r_cV (d := _) (q110 (i := 21) rfl) rfl rfl rfl (k_47 S) (Nat.le_of_ble_eq_true rfl) (Nat.zero_le _) (Nat.zero_le _) Rb ?_
        show Wp _ _ _ 41 [(0, .ref 47), (1, .int 0), (2, .int kd), (3, .int a), (4, .int b), (5, .int t)] [.int 1] h _ _
        refine r_if 64 (q110 (i := 22) rfl) (by decide) (fun zz => absurd zz (show ¬ ((1 : Int32) = 0) from by decide)) (fun _ => ?_)
        refine r_iload_n (q110 (i := 23) rfl) rfl ?_
        refine r_bipush (v := 6) (q110 (i := 24) rfl) (by decide) ?_
        refine r_icmp 60 (q110 (i := 25) rfl) (by decide) (fun c47 => ?_) (fun c47 => ?_)
        · have c47 : kd < 6 := c47
          exact T60
        · have c47 : ¬ (kd < 6) := c47
          rw [hasS_1 (g5 (kd67 c22 (Int32.not_lt.mp g2) (Int32.not_lt.mp c47)))] at Rt
          refine r_aload_n (q110 (i := 26) rfl) rfl ?_
          refine r_iload_n (q110 (i := 27) rfl) rfl ?_
          refine r_iload (q110 (i := 28) rfl) rfl ?_
          refine r_cV (d := _) (q110 (i := 29) rfl) rfl rfl rfl (k_47 S) (Nat.le_of_ble_eq_true rfl) (Nat.zero_le _) (Nat.zero_le _) Rt ?_
          show Wp _ _ _ 57 [(0, .ref 47), (1, .int 0), (2, .int kd), (3, .int a), (4, .int b), (5, .int t)] [.int 1] h _ _
          refine r_if 64 (q110 (i := 30) rfl) (by decide) (fun zz => absurd zz (show ¬ ((1 : Int32) = 0) from by decide)) (fun _ => ?_)
          exact T60
  · rw [if_neg x0, if_neg x0]
    by_cases x1 : x = 1
    · rw [if_pos x1, if_pos x1]
      subst x1
      have R0 := sp_isC1 (d := 6) (h := h)
      have Ra := sp_mhas1 (d := 6) S M.1.2 M.2.2.1.2.1 a
      have Rb := sp_mhas1 (d := 6) S M.1.2 M.2.2.1.2.1 b
      have Rt := sp_mhas1 (d := 6) S M.1.2 M.2.2.1.2.1 t
      by_cases q : canT (nI (zn σ + (zb σ).2.1)) (nI (zb σ).2.1) kd a b t = 0
      · rw [if_pos q, if_pos q]
        refine ⟨h, ?_, M, FM.rf h⟩
        refine Run.of (d := 7) (Nat.le_of_ble_eq_true rfl) (fun Q hQ => ?_)
        show Wp (Ex 7) 110 Q 0 [(0, .ref 47), (1, .int 1), (2, .int kd), (3, .int a), (4, .int b), (5, .int t)] [] h 0 0
        have k120 : ¬ kd < 0 → kd ≤ 8 → (kd = 8 ∨ (¬ hasS (nI (zn σ + (zb σ).2.1)) a = 0 ∧ ¬ hasS (nI (zn σ + (zb σ).2.1)) b = 0 ∧ (kd < 6 ∨ ¬ hasS (nI (zn σ + (zb σ).2.1)) t = 0))) → ¬ (¬ nI (zb σ).2.1 = 120) := fun c8 c14 k => by
          have g1 := canT_0 q c8 (fun y => absurd c14 (Int32.not_le.mpr y)) k
          have g2 : (zb σ).2.1 = 120 := by
            have g3 := (nI_leI (a := 120) (b := (zb σ).2.1) (by decide) (by omega)).mp g1
            omega
          exact fun y => y (by rw [g2]; rfl)
        refine r_iload_n (q110 (i := 0) rfl) rfl ?_
        refine r_cS (d := _) (q110 (i := 1) rfl) rfl (Nat.le_of_ble_eq_true rfl) rfl rfl (Nat.le_of_ble_eq_true rfl) (Nat.zero_le _) (Nat.zero_le _) R0 ?_
        show Wp _ _ _ 4 [(0, .ref 47), (1, .int 1), (2, .int kd), (3, .int a), (4, .int b), (5, .int t)] [.int 1] h _ _
        refine r_if 17 (q110 (i := 2) rfl) (by decide) (fun zz => absurd zz (show ¬ ((1 : Int32) = 0) from by decide)) (fun _ => ?_)
        refine r_iload_n (q110 (i := 3) rfl) rfl ?_
        refine r_if 17 (q110 (i := 4) rfl) (by decide) (fun c8 => ?_) (fun c8 => ?_)
        · have c8 : kd < 0 := c8
          refine r_iconst (v := (-1)) (q110 (i := 8) rfl) (by decide) ?_
          exact r_iret (q110 (i := 9) rfl) rfl hQ
        · have c8 : ¬ (kd < 0) := c8
          refine r_iload_n (q110 (i := 5) rfl) rfl ?_
          refine r_bipush (v := 8) (q110 (i := 6) rfl) (by decide) ?_
          refine r_icmp 19 (q110 (i := 7) rfl) (by decide) (fun c14 => ?_) (fun c14 => ?_)
          · have c14 : kd ≤ 8 := c14
            refine r_iload_n (q110 (i := 10) rfl) rfl ?_
            refine r_bipush (v := 8) (q110 (i := 11) rfl) (by decide) ?_
            refine r_icmp 60 (q110 (i := 12) rfl) (by decide) (fun c22 => ?_) (fun c22 => ?_)
            · have c22 : kd = 8 := c22
              have K120 := k120 c8 c14 (Or.inl c22)
              refine r_iconst (v := 1) (q110 (i := 31) rfl) (by decide) ?_
              refine r_goto 65 (q110 (i := 32) rfl) (by decide) ?_
              refine r_istore (ls' := [(6, .int 1), (0, .ref 47), (1, .int 1), (2, .int kd), (3, .int a), (4, .int b), (5, .int t)]) (q110 (i := 34) rfl) (Nat.le_of_ble_eq_true rfl) rfl ?_
              refine r_iload (q110 (i := 35) rfl) rfl ?_
              refine r_if 83 (q110 (i := 36) rfl) (by decide) (fun zz => absurd zz (show ¬ ((1 : Int32) = 0) from by decide)) (fun _ => ?_)
              refine r_aload_n (q110 (i := 37) rfl) rfl ?_
              refine r_getR (b := 48) (q110 (i := 38) rfl) rfl (by decide) (k_47 S) (fun _ _ _ => rfl) (r_47_2 S) ?_
              refine r_iload_n (q110 (i := 39) rfl) rfl ?_
              refine r_iaload (x := nI (zb σ).2.1) (q110 (i := 40) rfl) (k_48 S) (vp_in_nI (n := 1) (by decide) (by decide)) M.2.2.1.2.1 ?_
              refine r_bipush (v := 120) (q110 (i := 41) rfl) (by decide) ?_
              refine r_icmp 85 (q110 (i := 42) rfl) (by decide) (fun zz => absurd zz (show ¬ (¬ nI (zb σ).2.1 = 120) from K120)) (fun _ => ?_)
              refine r_iconst (v := (-1)) (q110 (i := 43) rfl) (by decide) ?_
              exact r_iret (q110 (i := 44) rfl) rfl hQ
            · have c22 : ¬ (kd = 8) := c22
              refine r_aload_n (q110 (i := 13) rfl) rfl ?_
              refine r_iload_n (q110 (i := 14) rfl) rfl ?_
              refine r_iload_n (q110 (i := 15) rfl) rfl ?_
              refine r_cV (d := _) (q110 (i := 16) rfl) rfl rfl rfl (k_47 S) (Nat.le_of_ble_eq_true rfl) (Nat.zero_le _) (Nat.zero_le _) Ra ?_
              show Wp _ _ _ 31 [(0, .ref 47), (1, .int 1), (2, .int kd), (3, .int a), (4, .int b), (5, .int t)] [.int (hasS (nI (zn σ + (zb σ).2.1)) a)] h _ _
              refine r_if 64 (q110 (i := 17) rfl) (by decide) (fun c31 => ?_) (fun c31 => ?_)
              · have c31 : hasS (nI (zn σ + (zb σ).2.1)) a = 0 := c31
                refine r_iconst (v := 0) (q110 (i := 33) rfl) (by decide) ?_
                refine r_istore (ls' := [(6, .int 0), (0, .ref 47), (1, .int 1), (2, .int kd), (3, .int a), (4, .int b), (5, .int t)]) (q110 (i := 34) rfl) (Nat.le_of_ble_eq_true rfl) rfl ?_
                refine r_iload (q110 (i := 35) rfl) rfl ?_
                refine r_if 83 (q110 (i := 36) rfl) (by decide) (fun _ => ?_) (fun zz => absurd (show (0 : Int32) = 0 from by decide) zz)
                refine r_iconst (v := (-1)) (q110 (i := 43) rfl) (by decide) ?_
                exact r_iret (q110 (i := 44) rfl) rfl hQ
              · have c31 : ¬ (hasS (nI (zn σ + (zb σ).2.1)) a = 0) := c31
                refine r_aload_n (q110 (i := 18) rfl) rfl ?_
                refine r_iload_n (q110 (i := 19) rfl) rfl ?_
                refine r_iload (q110 (i := 20) rfl) rfl ?_
                refine r_cV (d := _) (q110 (i := 21) rfl) rfl rfl rfl (k_47 S) (Nat.le_of_ble_eq_true rfl) (Nat.zero_le _) (Nat.zero_le _) Rb ?_
                show Wp _ _ _ 41 [(0, .ref 47), (1, .int 1), (2, .int kd), (3, .int a), (4, .int b), (5, .int t)] [.int (hasS (nI (zn σ + (zb σ).2.1)) b)] h _ _
                refine r_if 64 (q110 (i := 22) rfl) (by decide) (fun c41 => ?_) (fun c41 => ?_)
                · have c41 : hasS (nI (zn σ + (zb σ).2.1)) b = 0 := c41
                  refine r_iconst (v := 0) (q110 (i := 33) rfl) (by decide) ?_
                  refine r_istore (ls' := [(6, .int 0), (0, .ref 47), (1, .int 1), (2, .int kd), (3, .int a), (4, .int b), (5, .int t)]) (q110 (i := 34) rfl) (Nat.le_of_ble_eq_true rfl) rfl ?_
                  refine r_iload (q110 (i := 35) rfl) rfl ?_
                  refine r_if 83 (q110 (i := 36) rfl) (by decide) (fun _ => ?_) (fun zz => absurd (show (0 : Int32) = 0 from by decide) zz)
                  refine r_iconst (v := (-1)) (q110 (i := 43) rfl) (by decide) ?_
                  exact r_iret (q110 (i := 44) rfl) rfl hQ
                · have c41 : ¬ (hasS (nI (zn σ + (zb σ).2.1)) b = 0) := c41
                  refine r_iload_n (q110 (i := 23) rfl) rfl ?_
                  refine r_bipush (v := 6) (q110 (i := 24) rfl) (by decide) ?_
                  refine r_icmp 60 (q110 (i := 25) rfl) (by decide) (fun c47 => ?_) (fun c47 => ?_)
                  · have c47 : kd < 6 := c47
                    have K120 := k120 c8 c14 (Or.inr ⟨c31, c41, Or.inl c47⟩)
                    refine r_iconst (v := 1) (q110 (i := 31) rfl) (by decide) ?_
                    refine r_goto 65 (q110 (i := 32) rfl) (by decide) ?_
                    refine r_istore (ls' := [(6, .int 1), (0, .ref 47), (1, .int 1), (2, .int kd), (3, .int a), (4, .int b), (5, .int t)]) (q110 (i := 34) rfl) (Nat.le_of_ble_eq_true rfl) rfl ?_
                    refine r_iload (q110 (i := 35) rfl) rfl ?_
                    refine r_if 83 (q110 (i := 36) rfl) (by decide) (fun zz => absurd zz (show ¬ ((1 : Int32) = 0) from by decide)) (fun _ => ?_)
                    refine r_aload_n (q110 (i := 37) rfl) rfl ?_
                    refine r_getR (b := 48) (q110 (i := 38) rfl) rfl (by decide) (k_47 S) (fun _ _ _ => rfl) (r_47_2 S) ?_
                    refine r_iload_n (q110 (i := 39) rfl) rfl ?_
                    refine r_iaload (x := nI (zb σ).2.1) (q110 (i := 40) rfl) (k_48 S) (vp_in_nI (n := 1) (by decide) (by decide)) M.2.2.1.2.1 ?_
                    refine r_bipush (v := 120) (q110 (i := 41) rfl) (by decide) ?_
                    refine r_icmp 85 (q110 (i := 42) rfl) (by decide) (fun zz => absurd zz (show ¬ (¬ nI (zb σ).2.1 = 120) from K120)) (fun _ => ?_)
                    refine r_iconst (v := (-1)) (q110 (i := 43) rfl) (by decide) ?_
                    exact r_iret (q110 (i := 44) rfl) rfl hQ
                  · have c47 : ¬ (kd < 6) := c47
                    refine r_aload_n (q110 (i := 26) rfl) rfl ?_
                    refine r_iload_n (q110 (i := 27) rfl) rfl ?_
                    refine r_iload (q110 (i := 28) rfl) rfl ?_
                    refine r_cV (d := _) (q110 (i := 29) rfl) rfl rfl rfl (k_47 S) (Nat.le_of_ble_eq_true rfl) (Nat.zero_le _) (Nat.zero_le _) Rt ?_
                    show Wp _ _ _ 57 [(0, .ref 47), (1, .int 1), (2, .int kd), (3, .int a), (4, .int b), (5, .int t)] [.int (hasS (nI (zn σ + (zb σ).2.1)) t)] h _ _
                    refine r_if 64 (q110 (i := 30) rfl) (by decide) (fun c57 => ?_) (fun c57 => ?_)
                    · have c57 : hasS (nI (zn σ + (zb σ).2.1)) t = 0 := c57
                      refine r_iconst (v := 0) (q110 (i := 33) rfl) (by decide) ?_
                      refine r_istore (ls' := [(6, .int 0), (0, .ref 47), (1, .int 1), (2, .int kd), (3, .int a), (4, .int b), (5, .int t)]) (q110 (i := 34) rfl) (Nat.le_of_ble_eq_true rfl) rfl ?_
                      refine r_iload (q110 (i := 35) rfl) rfl ?_
                      refine r_if 83 (q110 (i := 36) rfl) (by decide) (fun _ => ?_) (fun zz => absurd (show (0 : Int32) = 0 from by decide) zz)
                      refine r_iconst (v := (-1)) (q110 (i := 43) rfl) (by decide) ?_
                      exact r_iret (q110 (i := 44) rfl) rfl hQ
                    · have c57 : ¬ (hasS (nI (zn σ + (zb σ).2.1)) t = 0) := c57
                      have K120 := k120 c8 c14 (Or.inr ⟨c31, c41, Or.inr c57⟩)
                      refine r_iconst (v := 1) (q110 (i := 31) rfl) (by decide) ?_
                      refine r_goto 65 (q110 (i := 32) rfl) (by decide) ?_
                      refine r_istore (ls' := [(6, .int 1), (0, .ref 47), (1, .int 1), (2, .int kd), (3, .int a), (4, .int b), (5, .int t)]) (q110 (i := 34) rfl) (Nat.le_of_ble_eq_true rfl) rfl ?_
                      refine r_iload (q110 (i := 35) rfl) rfl ?_
                      refine r_if 83 (q110 (i := 36) rfl) (by decide) (fun zz => absurd zz (show ¬ ((1 : Int32) = 0) from by decide)) (fun _ => ?_)
                      refine r_aload_n (q110 (i := 37) rfl) rfl ?_
                      refine r_getR (b := 48) (q110 (i := 38) rfl) rfl (by decide) (k_47 S) (fun _ _ _ => rfl) (r_47_2 S) ?_
                      refine r_iload_n (q110 (i := 39) rfl) rfl ?_
                      refine r_iaload (x := nI (zb σ).2.1) (q110 (i := 40) rfl) (k_48 S) (vp_in_nI (n := 1) (by decide) (by decide)) M.2.2.1.2.1 ?_
                      refine r_bipush (v := 120) (q110 (i := 41) rfl) (by decide) ?_
                      refine r_icmp 85 (q110 (i := 42) rfl) (by decide) (fun zz => absurd zz (show ¬ (¬ nI (zb σ).2.1 = 120) from K120)) (fun _ => ?_)
                      refine r_iconst (v := (-1)) (q110 (i := 43) rfl) (by decide) ?_
                      exact r_iret (q110 (i := 44) rfl) rfl hQ
          · have c14 : ¬ (kd ≤ 8) := c14
            refine r_iconst (v := (-1)) (q110 (i := 8) rfl) (by decide) ?_
            exact r_iret (q110 (i := 9) rfl) rfl hQ
      · have q1 : canT (nI (zn σ + (zb σ).2.1)) (nI (zb σ).2.1) kd a b t = 1 := (canT01 _ _ _ _ _ _).resolve_left q
        obtain ⟨⟨g1, g2, g3⟩, g4, g5⟩ := canT_g q1
        have g6 := (kok_add hn Z.2.2.1 q1).2
        rw [if_neg q, if_neg q]
        have S2 : Sh (sI (sI (sI (sI (sI h 52 (zb σ).2.1 kd) 55 (zb σ).2.1 a) 58 (zb σ).2.1 b) 61 (zb σ).2.1 t) 48 1 (nI ((zb σ).2.1 + 1))) := S.to rfl
        have R9 := sp_chg (d := 6) S2
        refine ⟨chg (sI (sI (sI (sI (sI h 52 (zb σ).2.1 kd) 55 (zb σ).2.1 a) 58 (zb σ).2.1 b) 61 (zb σ).2.1 t) 48 1 (nI ((zb σ).2.1 + 1))), ?_, M.ch (h' := sI (sI (sI (sI (sI h 52 (zb σ).2.1 kd) 55 (zb σ).2.1 a) 58 (zb σ).2.1 b) 61 (zb σ).2.1 t) 48 1 (nI ((zb σ).2.1 + 1))) rfl (fun k h47 h48 h49 h51 h52 h54 h55 h57 h58 h60 h61 h63 h64 => ?_) rfl rfl rfl rfl rfl rfl rfl M.2.1 ⟨by rw [← M.2.2.1.1]; rfl, rfl, M.2.2.1.2.2.1, M.2.2.1.2.2.2⟩, (((((FM.w (by decide) _ _).tr (FM.w (by decide) _ _)).tr (FM.w (by decide) _ _)).tr (FM.w (by decide) _ _)).tr (FM.w (by decide) _ _)).tr (FM.chg _)⟩
        rotate_left
        · show u2 (u2 (u2 (u2 (u2 h.1 52 _ _) 55 _ _) 58 _ _) 61 _ _) 48 _ _ k = _
          rw [u2_n h48, u2_n h61, u2_n h58, u2_n h55, u2_n h52]
        refine Run.of (d := 7) (Nat.le_of_ble_eq_true rfl) (fun Q hQ => ?_)
        have T60 : Wp (Ex 7) 110 Q 60 [(0, .ref 47), (1, .int 1), (2, .int kd), (3, .int a), (4, .int b), (5, .int t)] [] h 0 0 := by
          refine r_iconst (v := 1) (q110 (i := 31) rfl) (by decide) ?_
          refine r_goto 65 (q110 (i := 32) rfl) (by decide) ?_
          refine r_istore (ls' := [(6, .int 1), (0, .ref 47), (1, .int 1), (2, .int kd), (3, .int a), (4, .int b), (5, .int t)]) (q110 (i := 34) rfl) (Nat.le_of_ble_eq_true rfl) rfl ?_
          refine r_iload (q110 (i := 35) rfl) rfl ?_
          refine r_if 83 (q110 (i := 36) rfl) (by decide) (fun zz => absurd zz (show ¬ ((1 : Int32) = 0) from by decide)) (fun _ => ?_)
          refine r_aload_n (q110 (i := 37) rfl) rfl ?_
          refine r_getR (b := 48) (q110 (i := 38) rfl) rfl (by decide) (k_47 S) (fun _ _ _ => rfl) (r_47_2 S) ?_
          refine r_iload_n (q110 (i := 39) rfl) rfl ?_
          refine r_iaload (x := nI (zb σ).2.1) (q110 (i := 40) rfl) (k_48 S) (vp_in_nI (n := 1) (by decide) (by decide)) M.2.2.1.2.1 ?_
          refine r_bipush (v := 120) (q110 (i := 41) rfl) (by decide) ?_
          refine r_icmp 85 (q110 (i := 42) rfl) (by decide) (fun _ => ?_) (fun zz => absurd (show ¬ nI (zb σ).2.1 = 120 from neN (b := 120) (by omega) (by decide) (by omega)) zz)
          refine r_aload_n (q110 (i := 45) rfl) rfl ?_
          refine r_getR (b := 48) (q110 (i := 46) rfl) rfl (by decide) (k_47 S) (fun _ _ _ => rfl) (r_47_2 S) ?_
          refine r_iload_n (q110 (i := 47) rfl) rfl ?_
          refine r_iaload (x := nI (zb σ).2.1) (q110 (i := 48) rfl) (k_48 S) (vp_in_nI (n := 1) (by decide) (by decide)) M.2.2.1.2.1 ?_
          refine r_istore (ls' := [(7, .int (nI (zb σ).2.1)), (6, .int 1), (0, .ref 47), (1, .int 1), (2, .int kd), (3, .int a), (4, .int b), (5, .int t)]) (q110 (i := 49) rfl) (Nat.le_of_ble_eq_true rfl) rfl ?_
          refine r_aload_n (q110 (i := 50) rfl) rfl ?_
          refine r_getR (b := 50) (q110 (i := 51) rfl) rfl (by decide) (k_47 S) (fun _ _ _ => rfl) (r_47_4 S) ?_
          refine r_iload_n (q110 (i := 52) rfl) rfl ?_
          refine r_aaload5 (q110 (i := 53) rfl) (k_50 S) (vp_in_nI (n := 1) (by decide) (by decide)) (r_50_1 S) ?_
          refine r_iload (q110 (i := 54) rfl) rfl ?_
          refine r_iload_n (q110 (i := 55) rfl) rfl ?_
          refine r_iasN (q110 (i := 56) rfl) (k_52 S) (by omega) (by decide) ?_
          refine r_aload_n (q110 (i := 57) rfl) rfl ?_
          refine r_getR (b := 53) (q110 (i := 58) rfl) rfl (by decide) (k_47 S) (fun _ _ _ => rfl) (r_47_5 S) ?_
          refine r_iload_n (q110 (i := 59) rfl) rfl ?_
          refine r_aaload5 (q110 (i := 60) rfl) (k_53 S) (vp_in_nI (n := 1) (by decide) (by decide)) (r_53_1 S) ?_
          refine r_iload (q110 (i := 61) rfl) rfl ?_
          refine r_iload_n (q110 (i := 62) rfl) rfl ?_
          refine r_iasN (q110 (i := 63) rfl) (k_55 S) (by omega) (by decide) ?_
          refine r_aload_n (q110 (i := 64) rfl) rfl ?_
          refine r_getR (b := 56) (q110 (i := 65) rfl) rfl (by decide) (k_47 S) (fun _ _ _ => rfl) (r_47_6 S) ?_
          refine r_iload_n (q110 (i := 66) rfl) rfl ?_
          refine r_aaload5 (q110 (i := 67) rfl) (k_56 S) (vp_in_nI (n := 1) (by decide) (by decide)) (r_56_1 S) ?_
          refine r_iload (q110 (i := 68) rfl) rfl ?_
          refine r_iload (q110 (i := 69) rfl) rfl ?_
          refine r_iasN (q110 (i := 70) rfl) (k_58 S) (by omega) (by decide) ?_
          refine r_aload_n (q110 (i := 71) rfl) rfl ?_
          refine r_getR (b := 59) (q110 (i := 72) rfl) rfl (by decide) (k_47 S) (fun _ _ _ => rfl) (r_47_7 S) ?_
          refine r_iload_n (q110 (i := 73) rfl) rfl ?_
          refine r_aaload5 (q110 (i := 74) rfl) (k_59 S) (vp_in_nI (n := 1) (by decide) (by decide)) (r_59_1 S) ?_
          refine r_iload (q110 (i := 75) rfl) rfl ?_
          refine r_iload (q110 (i := 76) rfl) rfl ?_
          refine r_iasN (q110 (i := 77) rfl) (k_61 S) (by omega) (by decide) ?_
          refine r_aload_n (q110 (i := 78) rfl) rfl ?_
          refine r_getR (b := 48) (q110 (i := 79) rfl) rfl (by decide) (k_47 S) (fun _ _ _ => rfl) (r_47_2 S) ?_
          refine r_iload_n (q110 (i := 80) rfl) rfl ?_
          refine r_dup2 (q110 (i := 81) rfl) rfl rfl ?_
          refine r_iaload (x := nI (zb σ).2.1) (q110 (i := 82) rfl) (k_48 S) (vp_in_nI (n := 1) (by decide) (by decide)) M.2.2.1.2.1 ?_
          refine r_iconst (v := 1) (q110 (i := 83) rfl) (by decide) ?_
          refine r_iadd (q110 (i := 84) rfl) ?_
          rw [show ((nI (zb σ).2.1) + 1 : Int32) = nI ((zb σ).2.1 + 1) from nI_1 _]
          refine r_iastore (q110 (i := 85) rfl) (k_48 S) (vp_in_nI (n := 1) (by decide) (by decide)) ?_
          show Wp _ _ _ _ _ _ (sI (sI (sI (sI (sI h 52 ((zb σ).2.1) kd) 55 ((zb σ).2.1) a) 58 ((zb σ).2.1) b) 61 ((zb σ).2.1) t) 48 1 (nI ((zb σ).2.1 + 1))) _ _
          refine r_aload_n (q110 (i := 86) rfl) rfl ?_
          refine r_cV (d := _) (q110 (i := 87) rfl) rfl rfl rfl (k_47 S) (Nat.le_of_ble_eq_true rfl) (Nat.zero_le _) (Nat.zero_le _) R9 ?_
          show Wp _ _ _ 149 [(7, .int (nI (zb σ).2.1)), (6, .int 1), (0, .ref 47), (1, .int 1), (2, .int kd), (3, .int a), (4, .int b), (5, .int t)] [] (chg (sI (sI (sI (sI (sI h 52 (zb σ).2.1 kd) 55 (zb σ).2.1 a) 58 (zb σ).2.1 b) 61 (zb σ).2.1 t) 48 1 (nI ((zb σ).2.1 + 1)))) _ _
          refine r_aload_n (q110 (i := 88) rfl) rfl ?_
          refine r_getI (x := nI (zn σ)) (q110 (i := 89) rfl) rfl (by decide) (k_47 S) (fun _ _ _ => rfl) M.1.2 ?_
          refine r_iload (q110 (i := 90) rfl) rfl ?_
          refine r_iadd (q110 (i := 91) rfl) ?_
          rw [show ((nI (zn σ)) + (nI (zb σ).2.1) : Int32) = nI (zn σ + (zb σ).2.1) from nI_add _ _]
          exact r_iret (q110 (i := 92) rfl) rfl hQ
        show Wp (Ex 7) 110 Q 0 [(0, .ref 47), (1, .int 1), (2, .int kd), (3, .int a), (4, .int b), (5, .int t)] [] h 0 0
        refine r_iload_n (q110 (i := 0) rfl) rfl ?_
        refine r_cS (d := _) (q110 (i := 1) rfl) rfl (Nat.le_of_ble_eq_true rfl) rfl rfl (Nat.le_of_ble_eq_true rfl) (Nat.zero_le _) (Nat.zero_le _) R0 ?_
        show Wp _ _ _ 4 [(0, .ref 47), (1, .int 1), (2, .int kd), (3, .int a), (4, .int b), (5, .int t)] [.int 1] h _ _
        refine r_if 17 (q110 (i := 2) rfl) (by decide) (fun zz => absurd zz (show ¬ ((1 : Int32) = 0) from by decide)) (fun _ => ?_)
        refine r_iload_n (q110 (i := 3) rfl) rfl ?_
        refine r_if 17 (q110 (i := 4) rfl) (by decide) (fun zz => absurd zz (show ¬ (kd < 0) from g1)) (fun _ => ?_)
        refine r_iload_n (q110 (i := 5) rfl) rfl ?_
        refine r_bipush (v := 8) (q110 (i := 6) rfl) (by decide) ?_
        refine r_icmp 19 (q110 (i := 7) rfl) (by decide) (fun _ => ?_) (fun zz => absurd (show kd ≤ 8 from Int32.not_lt.mp g2) zz)
        refine r_iload_n (q110 (i := 10) rfl) rfl ?_
        refine r_bipush (v := 8) (q110 (i := 11) rfl) (by decide) ?_
        refine r_icmp 60 (q110 (i := 12) rfl) (by decide) (fun c22 => ?_) (fun c22 => ?_)
        · have c22 : kd = 8 := c22
          exact T60
        · have c22 : ¬ (kd = 8) := c22
          rw [hasS_1 (g4 c22).1] at Ra
          rw [hasS_1 (g4 c22).2] at Rb
          refine r_aload_n (q110 (i := 13) rfl) rfl ?_
          refine r_iload_n (q110 (i := 14) rfl) rfl ?_
          refine r_iload_n (q110 (i := 15) rfl) rfl ?_
          refine r_cV (d := _) (q110 (i := 16) rfl) rfl rfl rfl (k_47 S) (Nat.le_of_ble_eq_true rfl) (Nat.zero_le _) (Nat.zero_le _) Ra ?_
          show Wp _ _ _ 31 [(0, .ref 47), (1, .int 1), (2, .int kd), (3, .int a), (4, .int b), (5, .int t)] [.int 1] h _ _
          refine r_if 64 (q110 (i := 17) rfl) (by decide) (fun zz => absurd zz (show ¬ ((1 : Int32) = 0) from by decide)) (fun _ => ?_)
          refine r_aload_n (q110 (i := 18) rfl) rfl ?_
          refine r_iload_n (q110 (i := 19) rfl) rfl ?_
          refine r_iload (q110 (i := 20) rfl) rfl ?_
          refine r_cV (d := _) (q110 (i := 21) rfl) rfl rfl rfl (k_47 S) (Nat.le_of_ble_eq_true rfl) (Nat.zero_le _) (Nat.zero_le _) Rb ?_
          show Wp _ _ _ 41 [(0, .ref 47), (1, .int 1), (2, .int kd), (3, .int a), (4, .int b), (5, .int t)] [.int 1] h _ _
          refine r_if 64 (q110 (i := 22) rfl) (by decide) (fun zz => absurd zz (show ¬ ((1 : Int32) = 0) from by decide)) (fun _ => ?_)
          refine r_iload_n (q110 (i := 23) rfl) rfl ?_
          refine r_bipush (v := 6) (q110 (i := 24) rfl) (by decide) ?_
          refine r_icmp 60 (q110 (i := 25) rfl) (by decide) (fun c47 => ?_) (fun c47 => ?_)
          · have c47 : kd < 6 := c47
            exact T60
          · have c47 : ¬ (kd < 6) := c47
            rw [hasS_1 (g5 (kd67 c22 (Int32.not_lt.mp g2) (Int32.not_lt.mp c47)))] at Rt
            refine r_aload_n (q110 (i := 26) rfl) rfl ?_
            refine r_iload_n (q110 (i := 27) rfl) rfl ?_
            refine r_iload (q110 (i := 28) rfl) rfl ?_
            refine r_cV (d := _) (q110 (i := 29) rfl) rfl rfl rfl (k_47 S) (Nat.le_of_ble_eq_true rfl) (Nat.zero_le _) (Nat.zero_le _) Rt ?_
            show Wp _ _ _ 57 [(0, .ref 47), (1, .int 1), (2, .int kd), (3, .int a), (4, .int b), (5, .int t)] [.int 1] h _ _
            refine r_if 64 (q110 (i := 30) rfl) (by decide) (fun zz => absurd zz (show ¬ ((1 : Int32) = 0) from by decide)) (fun _ => ?_)
            exact T60
    · rw [if_neg x1, if_neg x1]
      refine ⟨h, ?_, M, FM.rf h⟩
      have R0 := sp_isCN (d := 6) (h := h) x0 x1
      refine Run.of (d := 7) (Nat.le_of_ble_eq_true rfl) (fun Q hQ => ?_)
      show Wp (Ex 7) 110 Q 0 [(0, .ref 47), (1, .int x), (2, .int kd), (3, .int a), (4, .int b), (5, .int t)] [] h 0 0
      refine r_iload_n (q110 (i := 0) rfl) rfl ?_
      refine r_cS (d := _) (q110 (i := 1) rfl) rfl (Nat.le_of_ble_eq_true rfl) rfl rfl (Nat.le_of_ble_eq_true rfl) (Nat.zero_le _) (Nat.zero_le _) R0 ?_
      show Wp _ _ _ 4 [(0, .ref 47), (1, .int x), (2, .int kd), (3, .int a), (4, .int b), (5, .int t)] [.int 0] h _ _
      refine r_if 17 (q110 (i := 2) rfl) (by decide) (fun _ => ?_) (fun zz => absurd (show (0 : Int32) = 0 from by decide) zz)
      refine r_iconst (v := (-1)) (q110 (i := 8) rfl) (by decide) ?_
      exact r_iret (q110 (i := 9) rfl) rfl hQ
set_option maxHeartbeats 2000000 in
set_option maxRecDepth 10000 in
theorem ms_output {h : hp} {σ : st8} (M : MI h σ) (Z : zok σ) (x s : Int32) : MStep 111 [.ref 47, .int x, .int s] h (aOut σ x s) (nOut σ x s) := by
  have S := M.1.1
  have hn := Z.1.2
  have kA := Z.2.1.1
  have kB := Z.2.2.1.1
  have oA := Z.2.1.2.1
  have oB := Z.2.2.1.2.1
  unfold aOut nOut
  by_cases x0 : x = 0
  · rw [if_pos x0, if_pos x0]
    subst x0
    have R0 := sp_isC0 (d := 6) (h := h)
    have Ra := sp_mhas0 (d := 6) S M.1.2 M.2.1.2.1 s
    by_cases q : (za σ).2.2.2 < 10 ∧ pl s < nI (zn σ + (za σ).2.1)
    · rw [if_pos q, if_pos q]
      obtain ⟨q1, q2⟩ := q
      rw [hasS_1 q2] at Ra
      have S2 : Sh (sI (sI h 63 (za σ).2.2.2 s) 49 0 (nI ((za σ).2.2.2 + 1))) := S.to rfl
      have R9 := sp_chg (d := 6) S2
      refine ⟨chg (sI (sI h 63 (za σ).2.2.2 s) 49 0 (nI ((za σ).2.2.2 + 1))), ?_, M.ch (h' := sI (sI h 63 (za σ).2.2.2 s) 49 0 (nI ((za σ).2.2.2 + 1))) rfl (fun k h47 h48 h49 h51 h52 h54 h55 h57 h58 h60 h61 h63 h64 => ?_) rfl rfl rfl rfl rfl rfl rfl ⟨M.2.1.1, M.2.1.2.1, by rw [← M.2.1.2.2.1]; rfl, rfl⟩ M.2.2.1, ((FM.w (by decide) _ _).tr (FM.w (by decide) _ _)).tr (FM.chg _)⟩
      rotate_left
      · show u2 (u2 h.1 63 _ _) 49 _ _ k = _
        rw [u2_n h49, u2_n h63]
      refine Run.of (d := 7) (Nat.le_of_ble_eq_true rfl) (fun Q hQ => ?_)
      show Wp (Ex 7) 111 Q 0 [(0, .ref 47), (1, .int 0), (2, .int s)] [] h 0 0
      refine r_iload_n (q111 (i := 0) rfl) rfl ?_
      refine r_cS (d := _) (q111 (i := 1) rfl) rfl (Nat.le_of_ble_eq_true rfl) rfl rfl (Nat.le_of_ble_eq_true rfl) (Nat.zero_le _) (Nat.zero_le _) R0 ?_
      show Wp _ _ _ 4 [(0, .ref 47), (1, .int 0), (2, .int s)] [.int 1] h _ _
      refine r_if 27 (q111 (i := 2) rfl) (by decide) (fun zz => absurd zz (show ¬ ((1 : Int32) = 0) from by decide)) (fun _ => ?_)
      refine r_aload_n (q111 (i := 3) rfl) rfl ?_
      refine r_iload_n (q111 (i := 4) rfl) rfl ?_
      refine r_iload_n (q111 (i := 5) rfl) rfl ?_
      refine r_cV (d := _) (q111 (i := 6) rfl) rfl rfl rfl (k_47 S) (Nat.le_of_ble_eq_true rfl) (Nat.zero_le _) (Nat.zero_le _) Ra ?_
      show Wp _ _ _ 13 [(0, .ref 47), (1, .int 0), (2, .int s)] [.int 1] h _ _
      refine r_if 27 (q111 (i := 7) rfl) (by decide) (fun zz => absurd zz (show ¬ ((1 : Int32) = 0) from by decide)) (fun _ => ?_)
      refine r_aload_n (q111 (i := 8) rfl) rfl ?_
      refine r_getR (b := 49) (q111 (i := 9) rfl) rfl (by decide) (k_47 S) (fun _ _ _ => rfl) (r_47_3 S) ?_
      refine r_iload_n (q111 (i := 10) rfl) rfl ?_
      refine r_iaload (x := nI (za σ).2.2.2) (q111 (i := 11) rfl) (k_49 S) (vp_in_nI (n := 0) (by decide) (by decide)) M.2.1.2.2.2 ?_
      refine r_bipush (v := 10) (q111 (i := 12) rfl) (by decide) ?_
      refine r_icmp 29 (q111 (i := 13) rfl) (by decide) (fun _ => ?_) (fun zz => absurd (show ¬ nI (za σ).2.2.2 = 10 from neN (b := 10) (by omega) (by decide) (by omega)) zz)
      refine r_aload_n (q111 (i := 16) rfl) rfl ?_
      refine r_getR (b := 62) (q111 (i := 17) rfl) rfl (by decide) (k_47 S) (fun _ _ _ => rfl) (r_47_8 S) ?_
      refine r_iload_n (q111 (i := 18) rfl) rfl ?_
      refine r_aaload5 (q111 (i := 19) rfl) (k_62 S) (vp_in_nI (n := 0) (by decide) (by decide)) (r_62_0 S) ?_
      refine r_aload_n (q111 (i := 20) rfl) rfl ?_
      refine r_getR (b := 49) (q111 (i := 21) rfl) rfl (by decide) (k_47 S) (fun _ _ _ => rfl) (r_47_3 S) ?_
      refine r_iload_n (q111 (i := 22) rfl) rfl ?_
      refine r_iaload (x := nI (za σ).2.2.2) (q111 (i := 23) rfl) (k_49 S) (vp_in_nI (n := 0) (by decide) (by decide)) M.2.1.2.2.2 ?_
      refine r_iload_n (q111 (i := 24) rfl) rfl ?_
      refine r_iasN (q111 (i := 25) rfl) (k_63 S) (by omega) (by decide) ?_
      refine r_aload_n (q111 (i := 26) rfl) rfl ?_
      refine r_getR (b := 49) (q111 (i := 27) rfl) rfl (by decide) (k_47 S) (fun _ _ _ => rfl) (r_47_3 S) ?_
      refine r_iload_n (q111 (i := 28) rfl) rfl ?_
      refine r_dup2 (q111 (i := 29) rfl) rfl rfl ?_
      refine r_iaload (x := nI (za σ).2.2.2) (q111 (i := 30) rfl) (k_49 S) (vp_in_nI (n := 0) (by decide) (by decide)) M.2.1.2.2.2 ?_
      refine r_iconst (v := 1) (q111 (i := 31) rfl) (by decide) ?_
      refine r_iadd (q111 (i := 32) rfl) ?_
      rw [show ((nI (za σ).2.2.2) + 1 : Int32) = nI ((za σ).2.2.2 + 1) from nI_1 _]
      refine r_iastore (q111 (i := 33) rfl) (k_49 S) (vp_in_nI (n := 0) (by decide) (by decide)) ?_
      show Wp _ _ _ _ _ _ (sI (sI h 63 ((za σ).2.2.2) s) 49 0 (nI ((za σ).2.2.2 + 1))) _ _
      refine r_aload_n (q111 (i := 34) rfl) rfl ?_
      refine r_cV (d := _) (q111 (i := 35) rfl) rfl rfl rfl (k_47 S) (Nat.le_of_ble_eq_true rfl) (Nat.zero_le _) (Nat.zero_le _) R9 ?_
      show Wp _ _ _ 57 [(0, .ref 47), (1, .int 0), (2, .int s)] [] (chg (sI (sI h 63 (za σ).2.2.2 s) 49 0 (nI ((za σ).2.2.2 + 1)))) _ _
      refine r_aload_n (q111 (i := 36) rfl) rfl ?_
      refine r_getR (b := 49) (q111 (i := 37) rfl) rfl (by decide) (k_47 S) (fun _ _ _ => rfl) (r_47_3 S) ?_
      refine r_iload_n (q111 (i := 38) rfl) rfl ?_
      refine r_iaload (x := nI ((za σ).2.2.2 + 1)) (q111 (i := 39) rfl) (k_49 S) (vp_in_nI (n := 0) (by decide) (by decide)) rfl ?_
      refine r_iconst (v := 1) (q111 (i := 40) rfl) (by decide) ?_
      refine r_isub (q111 (i := 41) rfl) ?_
      rw [show ((nI ((za σ).2.2.2 + 1)) - 1 : Int32) = nI (za σ).2.2.2 from nI_pred _]
      exact r_iret (q111 (i := 42) rfl) rfl hQ
    · rw [if_neg q, if_neg q]
      refine ⟨h, ?_, M, FM.rf h⟩
      refine Run.of (d := 7) (Nat.le_of_ble_eq_true rfl) (fun Q hQ => ?_)
      show Wp (Ex 7) 111 Q 0 [(0, .ref 47), (1, .int 0), (2, .int s)] [] h 0 0
      refine r_iload_n (q111 (i := 0) rfl) rfl ?_
      refine r_cS (d := _) (q111 (i := 1) rfl) rfl (Nat.le_of_ble_eq_true rfl) rfl rfl (Nat.le_of_ble_eq_true rfl) (Nat.zero_le _) (Nat.zero_le _) R0 ?_
      show Wp _ _ _ 4 [(0, .ref 47), (1, .int 0), (2, .int s)] [.int 1] h _ _
      refine r_if 27 (q111 (i := 2) rfl) (by decide) (fun zz => absurd zz (show ¬ ((1 : Int32) = 0) from by decide)) (fun _ => ?_)
      refine r_aload_n (q111 (i := 3) rfl) rfl ?_
      refine r_iload_n (q111 (i := 4) rfl) rfl ?_
      refine r_iload_n (q111 (i := 5) rfl) rfl ?_
      refine r_cV (d := _) (q111 (i := 6) rfl) rfl rfl rfl (k_47 S) (Nat.le_of_ble_eq_true rfl) (Nat.zero_le _) (Nat.zero_le _) Ra ?_
      show Wp _ _ _ 13 [(0, .ref 47), (1, .int 0), (2, .int s)] [.int (hasS (nI (zn σ + (za σ).2.1)) s)] h _ _
      refine r_if 27 (q111 (i := 7) rfl) (by decide) (fun c13 => ?_) (fun c13 => ?_)
      · have c13 : hasS (nI (zn σ + (za σ).2.1)) s = 0 := c13
        refine r_iconst (v := (-1)) (q111 (i := 14) rfl) (by decide) ?_
        exact r_iret (q111 (i := 15) rfl) rfl hQ
      · have c13 : ¬ (hasS (nI (zn σ + (za σ).2.1)) s = 0) := c13
        refine r_aload_n (q111 (i := 8) rfl) rfl ?_
        refine r_getR (b := 49) (q111 (i := 9) rfl) rfl (by decide) (k_47 S) (fun _ _ _ => rfl) (r_47_3 S) ?_
        refine r_iload_n (q111 (i := 10) rfl) rfl ?_
        refine r_iaload (x := nI (za σ).2.2.2) (q111 (i := 11) rfl) (k_49 S) (vp_in_nI (n := 0) (by decide) (by decide)) M.2.1.2.2.2 ?_
        refine r_bipush (v := 10) (q111 (i := 12) rfl) (by decide) ?_
        refine r_icmp 29 (q111 (i := 13) rfl) (by decide) (fun zz => absurd zz (show ¬ (¬ nI (za σ).2.2.2 = 10) from fun y => y (by have g : (za σ).2.2.2 = 10 := by { rcases Nat.lt_or_ge (za σ).2.2.2 10 with w | w; exact absurd ⟨w, hasS_ne c13⟩ q; omega }; rw [g]; rfl))) (fun _ => ?_)
        refine r_iconst (v := (-1)) (q111 (i := 14) rfl) (by decide) ?_
        exact r_iret (q111 (i := 15) rfl) rfl hQ
  · rw [if_neg x0, if_neg x0]
    by_cases x1 : x = 1
    · rw [if_pos x1, if_pos x1]
      subst x1
      have R0 := sp_isC1 (d := 6) (h := h)
      have Ra := sp_mhas1 (d := 6) S M.1.2 M.2.2.1.2.1 s
      by_cases q : (zb σ).2.2.2 < 10 ∧ pl s < nI (zn σ + (zb σ).2.1)
      · rw [if_pos q, if_pos q]
        obtain ⟨q1, q2⟩ := q
        rw [hasS_1 q2] at Ra
        have S2 : Sh (sI (sI h 64 (zb σ).2.2.2 s) 49 1 (nI ((zb σ).2.2.2 + 1))) := S.to rfl
        have R9 := sp_chg (d := 6) S2
        refine ⟨chg (sI (sI h 64 (zb σ).2.2.2 s) 49 1 (nI ((zb σ).2.2.2 + 1))), ?_, M.ch (h' := sI (sI h 64 (zb σ).2.2.2 s) 49 1 (nI ((zb σ).2.2.2 + 1))) rfl (fun k h47 h48 h49 h51 h52 h54 h55 h57 h58 h60 h61 h63 h64 => ?_) rfl rfl rfl rfl rfl rfl rfl M.2.1 ⟨M.2.2.1.1, M.2.2.1.2.1, by rw [← M.2.2.1.2.2.1]; rfl, rfl⟩, ((FM.w (by decide) _ _).tr (FM.w (by decide) _ _)).tr (FM.chg _)⟩
        rotate_left
        · show u2 (u2 h.1 64 _ _) 49 _ _ k = _
          rw [u2_n h49, u2_n h64]
        refine Run.of (d := 7) (Nat.le_of_ble_eq_true rfl) (fun Q hQ => ?_)
        show Wp (Ex 7) 111 Q 0 [(0, .ref 47), (1, .int 1), (2, .int s)] [] h 0 0
        refine r_iload_n (q111 (i := 0) rfl) rfl ?_
        refine r_cS (d := _) (q111 (i := 1) rfl) rfl (Nat.le_of_ble_eq_true rfl) rfl rfl (Nat.le_of_ble_eq_true rfl) (Nat.zero_le _) (Nat.zero_le _) R0 ?_
        show Wp _ _ _ 4 [(0, .ref 47), (1, .int 1), (2, .int s)] [.int 1] h _ _
        refine r_if 27 (q111 (i := 2) rfl) (by decide) (fun zz => absurd zz (show ¬ ((1 : Int32) = 0) from by decide)) (fun _ => ?_)
        refine r_aload_n (q111 (i := 3) rfl) rfl ?_
        refine r_iload_n (q111 (i := 4) rfl) rfl ?_
        refine r_iload_n (q111 (i := 5) rfl) rfl ?_
        refine r_cV (d := _) (q111 (i := 6) rfl) rfl rfl rfl (k_47 S) (Nat.le_of_ble_eq_true rfl) (Nat.zero_le _) (Nat.zero_le _) Ra ?_
        show Wp _ _ _ 13 [(0, .ref 47), (1, .int 1), (2, .int s)] [.int 1] h _ _
        refine r_if 27 (q111 (i := 7) rfl) (by decide) (fun zz => absurd zz (show ¬ ((1 : Int32) = 0) from by decide)) (fun _ => ?_)
        refine r_aload_n (q111 (i := 8) rfl) rfl ?_
        refine r_getR (b := 49) (q111 (i := 9) rfl) rfl (by decide) (k_47 S) (fun _ _ _ => rfl) (r_47_3 S) ?_
        refine r_iload_n (q111 (i := 10) rfl) rfl ?_
        refine r_iaload (x := nI (zb σ).2.2.2) (q111 (i := 11) rfl) (k_49 S) (vp_in_nI (n := 1) (by decide) (by decide)) M.2.2.1.2.2.2 ?_
        refine r_bipush (v := 10) (q111 (i := 12) rfl) (by decide) ?_
        refine r_icmp 29 (q111 (i := 13) rfl) (by decide) (fun _ => ?_) (fun zz => absurd (show ¬ nI (zb σ).2.2.2 = 10 from neN (b := 10) (by omega) (by decide) (by omega)) zz)
        refine r_aload_n (q111 (i := 16) rfl) rfl ?_
        refine r_getR (b := 62) (q111 (i := 17) rfl) rfl (by decide) (k_47 S) (fun _ _ _ => rfl) (r_47_8 S) ?_
        refine r_iload_n (q111 (i := 18) rfl) rfl ?_
        refine r_aaload5 (q111 (i := 19) rfl) (k_62 S) (vp_in_nI (n := 1) (by decide) (by decide)) (r_62_1 S) ?_
        refine r_aload_n (q111 (i := 20) rfl) rfl ?_
        refine r_getR (b := 49) (q111 (i := 21) rfl) rfl (by decide) (k_47 S) (fun _ _ _ => rfl) (r_47_3 S) ?_
        refine r_iload_n (q111 (i := 22) rfl) rfl ?_
        refine r_iaload (x := nI (zb σ).2.2.2) (q111 (i := 23) rfl) (k_49 S) (vp_in_nI (n := 1) (by decide) (by decide)) M.2.2.1.2.2.2 ?_
        refine r_iload_n (q111 (i := 24) rfl) rfl ?_
        refine r_iasN (q111 (i := 25) rfl) (k_64 S) (by omega) (by decide) ?_
        refine r_aload_n (q111 (i := 26) rfl) rfl ?_
        refine r_getR (b := 49) (q111 (i := 27) rfl) rfl (by decide) (k_47 S) (fun _ _ _ => rfl) (r_47_3 S) ?_
        refine r_iload_n (q111 (i := 28) rfl) rfl ?_
        refine r_dup2 (q111 (i := 29) rfl) rfl rfl ?_
        refine r_iaload (x := nI (zb σ).2.2.2) (q111 (i := 30) rfl) (k_49 S) (vp_in_nI (n := 1) (by decide) (by decide)) M.2.2.1.2.2.2 ?_
        refine r_iconst (v := 1) (q111 (i := 31) rfl) (by decide) ?_
        refine r_iadd (q111 (i := 32) rfl) ?_
        rw [show ((nI (zb σ).2.2.2) + 1 : Int32) = nI ((zb σ).2.2.2 + 1) from nI_1 _]
        refine r_iastore (q111 (i := 33) rfl) (k_49 S) (vp_in_nI (n := 1) (by decide) (by decide)) ?_
        show Wp _ _ _ _ _ _ (sI (sI h 64 ((zb σ).2.2.2) s) 49 1 (nI ((zb σ).2.2.2 + 1))) _ _
        refine r_aload_n (q111 (i := 34) rfl) rfl ?_
        refine r_cV (d := _) (q111 (i := 35) rfl) rfl rfl rfl (k_47 S) (Nat.le_of_ble_eq_true rfl) (Nat.zero_le _) (Nat.zero_le _) R9 ?_
        show Wp _ _ _ 57 [(0, .ref 47), (1, .int 1), (2, .int s)] [] (chg (sI (sI h 64 (zb σ).2.2.2 s) 49 1 (nI ((zb σ).2.2.2 + 1)))) _ _
        refine r_aload_n (q111 (i := 36) rfl) rfl ?_
        refine r_getR (b := 49) (q111 (i := 37) rfl) rfl (by decide) (k_47 S) (fun _ _ _ => rfl) (r_47_3 S) ?_
        refine r_iload_n (q111 (i := 38) rfl) rfl ?_
        refine r_iaload (x := nI ((zb σ).2.2.2 + 1)) (q111 (i := 39) rfl) (k_49 S) (vp_in_nI (n := 1) (by decide) (by decide)) rfl ?_
        refine r_iconst (v := 1) (q111 (i := 40) rfl) (by decide) ?_
        refine r_isub (q111 (i := 41) rfl) ?_
        rw [show ((nI ((zb σ).2.2.2 + 1)) - 1 : Int32) = nI (zb σ).2.2.2 from nI_pred _]
        exact r_iret (q111 (i := 42) rfl) rfl hQ
      · rw [if_neg q, if_neg q]
        refine ⟨h, ?_, M, FM.rf h⟩
        refine Run.of (d := 7) (Nat.le_of_ble_eq_true rfl) (fun Q hQ => ?_)
        show Wp (Ex 7) 111 Q 0 [(0, .ref 47), (1, .int 1), (2, .int s)] [] h 0 0
        refine r_iload_n (q111 (i := 0) rfl) rfl ?_
        refine r_cS (d := _) (q111 (i := 1) rfl) rfl (Nat.le_of_ble_eq_true rfl) rfl rfl (Nat.le_of_ble_eq_true rfl) (Nat.zero_le _) (Nat.zero_le _) R0 ?_
        show Wp _ _ _ 4 [(0, .ref 47), (1, .int 1), (2, .int s)] [.int 1] h _ _
        refine r_if 27 (q111 (i := 2) rfl) (by decide) (fun zz => absurd zz (show ¬ ((1 : Int32) = 0) from by decide)) (fun _ => ?_)
        refine r_aload_n (q111 (i := 3) rfl) rfl ?_
        refine r_iload_n (q111 (i := 4) rfl) rfl ?_
        refine r_iload_n (q111 (i := 5) rfl) rfl ?_
        refine r_cV (d := _) (q111 (i := 6) rfl) rfl rfl rfl (k_47 S) (Nat.le_of_ble_eq_true rfl) (Nat.zero_le _) (Nat.zero_le _) Ra ?_
        show Wp _ _ _ 13 [(0, .ref 47), (1, .int 1), (2, .int s)] [.int (hasS (nI (zn σ + (zb σ).2.1)) s)] h _ _
        refine r_if 27 (q111 (i := 7) rfl) (by decide) (fun c13 => ?_) (fun c13 => ?_)
        · have c13 : hasS (nI (zn σ + (zb σ).2.1)) s = 0 := c13
          refine r_iconst (v := (-1)) (q111 (i := 14) rfl) (by decide) ?_
          exact r_iret (q111 (i := 15) rfl) rfl hQ
        · have c13 : ¬ (hasS (nI (zn σ + (zb σ).2.1)) s = 0) := c13
          refine r_aload_n (q111 (i := 8) rfl) rfl ?_
          refine r_getR (b := 49) (q111 (i := 9) rfl) rfl (by decide) (k_47 S) (fun _ _ _ => rfl) (r_47_3 S) ?_
          refine r_iload_n (q111 (i := 10) rfl) rfl ?_
          refine r_iaload (x := nI (zb σ).2.2.2) (q111 (i := 11) rfl) (k_49 S) (vp_in_nI (n := 1) (by decide) (by decide)) M.2.2.1.2.2.2 ?_
          refine r_bipush (v := 10) (q111 (i := 12) rfl) (by decide) ?_
          refine r_icmp 29 (q111 (i := 13) rfl) (by decide) (fun zz => absurd zz (show ¬ (¬ nI (zb σ).2.2.2 = 10) from fun y => y (by have g : (zb σ).2.2.2 = 10 := by { rcases Nat.lt_or_ge (zb σ).2.2.2 10 with w | w; exact absurd ⟨w, hasS_ne c13⟩ q; omega }; rw [g]; rfl))) (fun _ => ?_)
          refine r_iconst (v := (-1)) (q111 (i := 14) rfl) (by decide) ?_
          exact r_iret (q111 (i := 15) rfl) rfl hQ
    · rw [if_neg x1, if_neg x1]
      refine ⟨h, ?_, M, FM.rf h⟩
      have R0 := sp_isCN (d := 6) (h := h) x0 x1
      refine Run.of (d := 7) (Nat.le_of_ble_eq_true rfl) (fun Q hQ => ?_)
      show Wp (Ex 7) 111 Q 0 [(0, .ref 47), (1, .int x), (2, .int s)] [] h 0 0
      refine r_iload_n (q111 (i := 0) rfl) rfl ?_
      refine r_cS (d := _) (q111 (i := 1) rfl) rfl (Nat.le_of_ble_eq_true rfl) rfl rfl (Nat.le_of_ble_eq_true rfl) (Nat.zero_le _) (Nat.zero_le _) R0 ?_
      show Wp _ _ _ 4 [(0, .ref 47), (1, .int x), (2, .int s)] [.int 0] h _ _
      refine r_if 27 (q111 (i := 2) rfl) (by decide) (fun _ => ?_) (fun zz => absurd (show (0 : Int32) = 0 from by decide) zz)
      refine r_iconst (v := (-1)) (q111 (i := 14) rfl) (by decide) ?_
      exact r_iret (q111 (i := 15) rfl) rfl hQ
set_option maxHeartbeats 2000000 in
set_option maxRecDepth 10000 in
theorem ms_clear {h : hp} {σ : st8} (M : MI h σ) (Z : zok σ) (x : Int32) : MStep 112 [.ref 47, .int x] h (aClr σ x) (nClr σ x) := by
  have S := M.1.1
  have hn := Z.1.2
  have kA := Z.2.1.1
  have kB := Z.2.2.1.1
  have oA := Z.2.1.2.1
  have oB := Z.2.2.1.2.1
  unfold aClr nClr
  by_cases x0 : x = 0
  · rw [if_pos x0, if_pos x0]
    subst x0
    have R0 := sp_isC0 (d := 6) (h := h)
    have R1 := sp_emp0 (d := 5) S
    refine ⟨chg (sI (sI h 48 0 0) 49 0 0), ?_, M.ch (h' := sI (sI h 48 0 0) 49 0 0) rfl (fun k h47 h48 h49 h51 h52 h54 h55 h57 h58 h60 h61 h63 h64 => ?_) rfl rfl rfl rfl rfl rfl rfl ⟨M.2.1.1, rfl, M.2.1.2.2.1, rfl⟩ M.2.2.1, ((FM.w (by decide) _ _).tr (FM.w (by decide) _ _)).tr (FM.chg _)⟩
    rotate_left
    · show u2 (u2 h.1 48 _ _) 49 _ _ k = _
      rw [u2_n h49, u2_n h48]
    refine Run.of (d := 7) (Nat.le_of_ble_eq_true rfl) (fun Q hQ => ?_)
    show Wp (Ex 7) 112 Q 0 [(0, .ref 47), (1, .int 0)] [] h 0 0
    refine r_iload_n (q112 (i := 0) rfl) rfl ?_
    refine r_cS (d := _) (q112 (i := 1) rfl) rfl (Nat.le_of_ble_eq_true rfl) rfl rfl (Nat.le_of_ble_eq_true rfl) (Nat.zero_le _) (Nat.zero_le _) R0 ?_
    show Wp _ _ _ 4 [(0, .ref 47), (1, .int 0)] [.int 1] h _ _
    refine r_if 9 (q112 (i := 2) rfl) (by decide) (fun _ => ?_) (fun zz => absurd (show ¬ (1 : Int32) = 0 from by decide) zz)
    refine r_aload_n (q112 (i := 5) rfl) rfl ?_
    refine r_getR (b := 48) (q112 (i := 6) rfl) rfl (by decide) (k_47 S) (fun _ _ _ => rfl) (r_47_2 S) ?_
    refine r_iload_n (q112 (i := 7) rfl) rfl ?_
    refine r_iaload (x := nI (za σ).2.1) (q112 (i := 8) rfl) (k_48 S) (vp_in_nI (n := 0) (by decide) (by decide)) M.2.1.2.1 ?_
    refine r_istore_n (ls' := [(2, .int (nI (za σ).2.1)), (0, .ref 47), (1, .int 0)]) (q112 (i := 9) rfl) (Nat.le_of_ble_eq_true rfl) rfl ?_
    refine r_aload_n (q112 (i := 10) rfl) rfl ?_
    refine r_iload_n (q112 (i := 11) rfl) rfl ?_
    refine r_cV (d := _) (q112 (i := 12) rfl) rfl rfl rfl (k_47 S) (Nat.le_of_ble_eq_true rfl) (Nat.zero_le _) (Nat.zero_le _) R1 ?_
    show Wp _ _ _ 21 [(2, .int (nI (za σ).2.1)), (0, .ref 47), (1, .int 0)] [] (chg (sI (sI h 48 0 0) 49 0 0)) _ _
    refine r_iload_n (q112 (i := 13) rfl) rfl ?_
    exact r_iret (q112 (i := 14) rfl) rfl hQ
  · rw [if_neg x0, if_neg x0]
    by_cases x1 : x = 1
    · rw [if_pos x1, if_pos x1]
      subst x1
      have R0 := sp_isC1 (d := 6) (h := h)
      have R1 := sp_emp1 (d := 5) S
      refine ⟨chg (sI (sI h 48 1 0) 49 1 0), ?_, M.ch (h' := sI (sI h 48 1 0) 49 1 0) rfl (fun k h47 h48 h49 h51 h52 h54 h55 h57 h58 h60 h61 h63 h64 => ?_) rfl rfl rfl rfl rfl rfl rfl M.2.1 ⟨M.2.2.1.1, rfl, M.2.2.1.2.2.1, rfl⟩, ((FM.w (by decide) _ _).tr (FM.w (by decide) _ _)).tr (FM.chg _)⟩
      rotate_left
      · show u2 (u2 h.1 48 _ _) 49 _ _ k = _
        rw [u2_n h49, u2_n h48]
      refine Run.of (d := 7) (Nat.le_of_ble_eq_true rfl) (fun Q hQ => ?_)
      show Wp (Ex 7) 112 Q 0 [(0, .ref 47), (1, .int 1)] [] h 0 0
      refine r_iload_n (q112 (i := 0) rfl) rfl ?_
      refine r_cS (d := _) (q112 (i := 1) rfl) rfl (Nat.le_of_ble_eq_true rfl) rfl rfl (Nat.le_of_ble_eq_true rfl) (Nat.zero_le _) (Nat.zero_le _) R0 ?_
      show Wp _ _ _ 4 [(0, .ref 47), (1, .int 1)] [.int 1] h _ _
      refine r_if 9 (q112 (i := 2) rfl) (by decide) (fun _ => ?_) (fun zz => absurd (show ¬ (1 : Int32) = 0 from by decide) zz)
      refine r_aload_n (q112 (i := 5) rfl) rfl ?_
      refine r_getR (b := 48) (q112 (i := 6) rfl) rfl (by decide) (k_47 S) (fun _ _ _ => rfl) (r_47_2 S) ?_
      refine r_iload_n (q112 (i := 7) rfl) rfl ?_
      refine r_iaload (x := nI (zb σ).2.1) (q112 (i := 8) rfl) (k_48 S) (vp_in_nI (n := 1) (by decide) (by decide)) M.2.2.1.2.1 ?_
      refine r_istore_n (ls' := [(2, .int (nI (zb σ).2.1)), (0, .ref 47), (1, .int 1)]) (q112 (i := 9) rfl) (Nat.le_of_ble_eq_true rfl) rfl ?_
      refine r_aload_n (q112 (i := 10) rfl) rfl ?_
      refine r_iload_n (q112 (i := 11) rfl) rfl ?_
      refine r_cV (d := _) (q112 (i := 12) rfl) rfl rfl rfl (k_47 S) (Nat.le_of_ble_eq_true rfl) (Nat.zero_le _) (Nat.zero_le _) R1 ?_
      show Wp _ _ _ 21 [(2, .int (nI (zb σ).2.1)), (0, .ref 47), (1, .int 1)] [] (chg (sI (sI h 48 1 0) 49 1 0)) _ _
      refine r_iload_n (q112 (i := 13) rfl) rfl ?_
      exact r_iret (q112 (i := 14) rfl) rfl hQ
    · rw [if_neg x1, if_neg x1]
      refine ⟨h, ?_, M, FM.rf h⟩
      have R0 := sp_isCN (d := 6) (h := h) x0 x1
      refine Run.of (d := 7) (Nat.le_of_ble_eq_true rfl) (fun Q hQ => ?_)
      show Wp (Ex 7) 112 Q 0 [(0, .ref 47), (1, .int x)] [] h 0 0
      refine r_iload_n (q112 (i := 0) rfl) rfl ?_
      refine r_cS (d := _) (q112 (i := 1) rfl) rfl (Nat.le_of_ble_eq_true rfl) rfl rfl (Nat.le_of_ble_eq_true rfl) (Nat.zero_le _) (Nat.zero_le _) R0 ?_
      show Wp _ _ _ 4 [(0, .ref 47), (1, .int x)] [.int 0] h _ _
      refine r_if 9 (q112 (i := 2) rfl) (by decide) (fun zz => absurd zz (show ¬ (¬ (0 : Int32) = 0) from by decide)) (fun _ => ?_)
      refine r_iconst (v := (-1)) (q112 (i := 3) rfl) (by decide) ?_
      exact r_iret (q112 (i := 4) rfl) rfl hQ
