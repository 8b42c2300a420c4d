/-! ===== the reference's lines ===== -/
def DM (h : hp) (n : Nat) (D : Nat → Nat) : Prop := ∀ v, v < 1002 → hI h 1077 v = nI (if D v = 0 then 0 else if D v ≤ n then 1 else 2) ∧ (D v ≠ 0 → hI h 1078 v = nI (if D v ≤ n then D v - 1 else D v - n - 1))
def OMs (h : hp) (k : Nat) (s : pst) : Prop := ∀ i, i < k → hI h 1321 i = nI (s.2.2.1.1 i) ∧ hI h 1322 i = nI (s.2.2.1.2.1 i) ∧ s.2.2.1.1 i ≤ 2001 ∧ s.2.2.1.2.1 i ≤ 3000
def AMs (h : hp) (n O k : Nat) (s : pst) : Prop := ∀ i, i < k → (∃ v, 0 < v ∧ v < 1001 ∧ hI h (1080 + i) 0 = nI (2 * v) ∧ s.2.1 v = n + 1 + i) ∧ (hI h (1201 + i) 0 = nI (s.2.2.2.2.1 i) ∧ s.2.2.2.2.1 i ≤ 3000) ∧ ∀ j, j < 2 → hI h (1080 + i) (1 + j) = nI (s.2.2.1.1 (O + 2 * i + j)) ∧ hI h (1201 + i) (1 + j) = nI (s.2.2.1.2.1 (O + 2 * i + j)) ∧ s.2.2.1.1 (O + 2 * i + j) ≤ 2001 ∧ s.2.2.1.2.1 (O + 2 * i + j) ≤ 3000
def LSt (h : hp) (B : Nat → Int32) (z n M O o k : Nat) (s : pst) : Prop := (Sh h ∧ TM h B z ∧ hI h 1075 0 = nI M ∧ M ≤ 1000) ∧ (FTM h none ∧ hI h 47 27 = nI s.1 ∧ s.1 ≤ z) ∧ DM h n s.2.1 ∧ OMs h o s ∧ AMs h n O k s
def FrLn (h h' : hp) : Prop := h'.2 = h.2 ∧ (∀ k, k < 1077 → k ≠ 47 → hI h' k = hI h k) ∧ (∀ k, 1323 ≤ k → hI h' k = hI h k) ∧ ∀ j, (j < 26 ∨ 29 < j) → hI h' 47 j = hI h 47 j
theorem FrLn.rf (h : hp) : FrLn h h := ⟨rfl, fun _ _ _ => rfl, fun _ _ => rfl, fun _ _ => rfl⟩
theorem FrLn.tr {h h' h'' : hp} (a : FrLn h h') (b : FrLn h' h'') : FrLn h h'' := ⟨b.1.trans a.1, fun k x y => (b.2.1 k x y).trans (a.2.1 k x y), fun k x => (b.2.2.1 k x).trans (a.2.2.1 k x), fun j x => (b.2.2.2 j x).trans (a.2.2.2 j x)⟩
theorem FrLn.S {h h' : hp} (F : FrLn h h') (S : Sh h) : Sh h' := S.to (by rw [F.1])
theorem FrT2.L {h h' : hp} (F : FrT2 h h') : FrLn h h' := ⟨F.1, fun k _ y => F.2.1 k y, fun k x => F.2.1 k (by omega), F.2.2⟩
theorem FrLn.w {h : hp} {a : Nat} (ha : 1077 ≤ a ∧ a < 1323) (i : Nat) (v : Int32) : FrLn h (sI h a i v) := ⟨rfl, fun k x y => by
  show u2 h.1 a _ _ k = _
  rw [u2_n (by omega)], fun k x => by
  show u2 h.1 a _ _ k = _
  rw [u2_n (by omega)], fun j _ => by
  show u2 h.1 a _ _ 47 j = _
  rw [u2_n (by omega)]⟩
/-- what a stretch of the walk does: it goes on with the state, or answers false with the FAULT noted -/
def LRes (r : pres) (h : hp) (OK : hp → pst → Prop) (en : resP → Nat → Nat → Prop) (ex : hp → resP → Nat → Nat → Prop) : Prop := match r with
  | .ok s => ∃ h', OK h' s ∧ FrLn h h' ∧ ∀ Q bc bs, ex h' Q bc bs → en Q bc bs
  | .error e => ∃ h', (FTM h' (some e) ∧ Sh h') ∧ FrLn h h' ∧ ∀ Q bc bs, Q (some (.int 0)) h' → en Q bc bs
theorem LRes.bind {r : pres} {f : pst → pres} {h : hp} {OK1 OK2 : hp → pst → Prop} {en : resP → Nat → Nat → Prop} {mid ex : hp → resP → Nat → Nat → Prop} (a : LRes r h OK1 en mid) (b : ∀ s h1, OK1 h1 s → LRes (f s) h1 OK2 (mid h1) ex) : LRes (r.bind f) h OK2 en ex := by
  cases r with
  | error e => exact a
  | ok s =>
    obtain ⟨h1, o, F, k⟩ := a
    have b := b s h1 o
    show LRes (f s) h OK2 en ex
    unfold LRes at b ⊢
    cases q : f s with
    | error e =>
      rw [q] at b
      obtain ⟨h2, o2, F2, k2⟩ := b
      exact ⟨h2, o2, F.tr F2, fun Q bc bs y => k Q bc bs (k2 Q bc bs y)⟩
    | ok s2 =>
      rw [q] at b
      obtain ⟨h2, o2, F2, k2⟩ := b
      exact ⟨h2, o2, F.tr F2, fun Q bc bs y => k Q bc bs (k2 Q bc bs y)⟩
theorem LRes.en {r : pres} {h : hp} {OK : hp → pst → Prop} {en en' : resP → Nat → Nat → Prop} {ex : hp → resP → Nat → Nat → Prop} (a : LRes r h OK en ex) (b : ∀ Q bc bs, en Q bc bs → en' Q bc bs) : LRes r h OK en' ex := by
  unfold LRes at *
  cases r with
  | error e =>
    obtain ⟨h2, o2, F2, k2⟩ := a
    exact ⟨h2, o2, F2, fun Q bc bs y => b Q bc bs (k2 Q bc bs y)⟩
  | ok s =>
    obtain ⟨h2, o2, F2, k2⟩ := a
    exact ⟨h2, o2, F2, fun Q bc bs y => b Q bc bs (k2 Q bc bs y)⟩
theorem LRes.pre {r : pres} {h h0 : hp} {OK : hp → pst → Prop} {en : resP → Nat → Nat → Prop} {ex : hp → resP → Nat → Nat → Prop} (F : FrLn h0 h) (a : LRes r h OK en ex) : LRes r h0 OK en ex := by
  unfold LRes at *
  cases r with
  | error e =>
    obtain ⟨h2, o2, F2, k2⟩ := a
    exact ⟨h2, o2, F.tr F2, k2⟩
  | ok s =>
    obtain ⟨h2, o2, F2, k2⟩ := a
    exact ⟨h2, o2, F.tr F2, k2⟩
/-- the state on other heaps -/
theorem LSt.to {h h' : hp} {B : Nat → Int32} {z n M O o k : Nat} {s : pst} (L : LSt h B z n M O o k s) (F : FrT2 h h') (f28 : FTM h' none) {a : Nat} (e27 : hI h' 47 27 = nI a) (ha : a ≤ z) : LSt h' B z n M O o k (a, s.2) := by
  obtain ⟨⟨l1, l2, l3, l3b⟩, _, l5, l6, l7⟩ := L
  refine ⟨⟨F.S l1, F.T l2, by rw [F.2.1 1075 (by decide)]; exact l3, l3b⟩, ⟨f28, e27, ha⟩, fun v hv => ?_, fun i hi => ?_, fun i hi => ?_⟩
  · rw [F.2.1 1077 (by decide), F.2.1 1078 (by decide)]; exact l5 v hv
  · rw [F.2.1 1321 (by decide), F.2.1 1322 (by decide)]; exact l6 i hi
  · rw [F.2.1 (1080 + i) (by omega), F.2.1 (1201 + i) (by omega)]; exact l7 i hi
/-- the literal of a definition is one -/
abbrev badD (H : Nat) (D : Nat → Nat) (v : Nat) : Prop := v % 2 = 1 ∨ v < 2 ∨ H < v ∨ D (v / 2) ≠ 0
set_option maxHeartbeats 2000000 in
set_option maxRecDepth 10000 in
theorem sp_defs {d : Nat} {h : hp} (S : Sh h) (ft : FTM h none) {n M v p st k j : Nat} {D : Nat → Nat} (dm : DM h n D) (ev : hI h 47 29 = nI v) (hv9 : v < 1000000000) (hM : hI h 1075 0 = nI M) (hM1 : M ≤ 1000) (hp : p ≤ 3000) (hk : 0 < j ∧ (if j ≤ n then 1 else 2) = st ∧ (if j ≤ n then j - 1 else j - n - 1) = k) : (badD (2 * M + 1) D v → ∃ h', Run (d + 1 + 1) 120 [.ref 47, .int (nI p), .int (nI st), .int (nI k)] h 0 0 (some (.int 0)) h' ∧ FTM h' (some (3, p)) ∧ FrT2 h h') ∧ (¬ badD (2 * M + 1) D v → Run (d + 1 + 1) 120 [.ref 47, .int (nI p), .int (nI st), .int (nI k)] h 0 0 (some (.int 1)) (sI (sI h 1077 (v / 2) (nI st)) 1078 (v / 2) (nI k)) ∧ DM (sI (sI h 1077 (v / 2) (nI st)) 1078 (v / 2) (nI k)) n (u1 D (v / 2) j) ∧ (v / 2 < 1001 ∧ 0 < v / 2 ∧ v = 2 * (v / 2) ∧ D (v / 2) = 0)) := by
  refine ⟨fun b => ?_, fun b => ?_⟩
  · obtain ⟨h1, R1, f1, F1, _⟩ := sp_fails (d := d) S (t := none) ft (f := 3) (p := p) (by decide) hp
    refine ⟨h1, ?_, f1, F1⟩
    have nz : ¬ nI (v % 2) = 1 → ¬ nI v < 2 → v ≤ 2 * M + 1 → ¬ nI (if D (v / 2) = 0 then 0 else if D (v / 2) ≤ n then 1 else 2) = 0 := fun c7 c15 hv y => by
      rcases b with b | b | b | b
      · exact c7 (by rw [b]; rfl)
      · exact c15 (nI_lt (b := 2) b (by decide))
      · omega
      · rw [if_neg b] at y
        split at y <;> exact absurd y (by decide)
    refine Run.of (d := d + 1) (Nat.le_of_ble_eq_true rfl) (fun Q hQ => ?_)
    show Wp (Ex (d + 1)) 120 Q 0 [(0, .ref 47), (1, .int (nI p)), (2, .int (nI st)), (3, .int (nI k))] [] h 0 0
    refine r_aload_n (q120 (i := 0) rfl) rfl ?_
    refine r_getI (x := nI v) (q120 (i := 1) rfl) rfl (by decide) (k_47 S) (fun _ _ _ => rfl) ev ?_
    refine r_iconst (v := 2) (q120 (i := 2) rfl) (by decide) ?_
    refine r_irem (q120 (i := 3) rfl) (by decide) ?_
    rw [show ((nI v) - (nI v) / 2 * 2 : Int32) = nI (v % 2) from rem2 (by omega)]
    refine r_iconst (v := 1) (q120 (i := 4) rfl) (by decide) ?_
    refine r_icmp 49 (q120 (i := 5) rfl) (by decide) (fun c7 => ?_) (fun c7 => ?_)
    · have c7 : nI (v % 2) = 1 := c7
      refine r_aload_n (q120 (i := 29) rfl) rfl ?_
      refine r_iconst (v := 3) (q120 (i := 30) rfl) (by decide) ?_
      refine r_iload_n (q120 (i := 31) rfl) rfl ?_
      refine r_cV (d := _) (q120 (i := 32) rfl) rfl rfl rfl (k_47 S) (Nat.le_of_ble_eq_true rfl) (Nat.zero_le _) (Nat.zero_le _) R1 ?_
      show Wp _ _ _ 55 [(0, .ref 47), (1, .int (nI p)), (2, .int (nI st)), (3, .int (nI k))] [.int 0] h1 _ _
      exact r_zret (q120 (i := 33) rfl) rfl (by decide) hQ
    · have c7 : ¬ (nI (v % 2) = 1) := c7
      refine r_aload_n (q120 (i := 6) rfl) rfl ?_
      refine r_getI (x := nI v) (q120 (i := 7) rfl) rfl (by decide) (k_47 S) (fun _ _ _ => rfl) ev ?_
      refine r_iconst (v := 2) (q120 (i := 8) rfl) (by decide) ?_
      refine r_icmp 49 (q120 (i := 9) rfl) (by decide) (fun c15 => ?_) (fun c15 => ?_)
      · have c15 : nI v < 2 := c15
        refine r_aload_n (q120 (i := 29) rfl) rfl ?_
        refine r_iconst (v := 3) (q120 (i := 30) rfl) (by decide) ?_
        refine r_iload_n (q120 (i := 31) rfl) rfl ?_
        refine r_cV (d := _) (q120 (i := 32) rfl) rfl rfl rfl (k_47 S) (Nat.le_of_ble_eq_true rfl) (Nat.zero_le _) (Nat.zero_le _) R1 ?_
        show Wp _ _ _ 55 [(0, .ref 47), (1, .int (nI p)), (2, .int (nI st)), (3, .int (nI k))] [.int 0] h1 _ _
        exact r_zret (q120 (i := 33) rfl) rfl (by decide) hQ
      · have c15 : ¬ (nI v < 2) := c15
        refine r_aload_n (q120 (i := 10) rfl) rfl ?_
        refine r_getI (x := nI v) (q120 (i := 11) rfl) rfl (by decide) (k_47 S) (fun _ _ _ => rfl) ev ?_
        refine r_iconst (v := 2) (q120 (i := 12) rfl) (by decide) ?_
        refine r_aload_n (q120 (i := 13) rfl) rfl ?_
        refine r_getR (b := 1075) (q120 (i := 14) rfl) rfl (by decide) (k_47 S) (fun _ _ _ => rfl) (r_47_30 S) ?_
        refine r_iconst (v := 0) (q120 (i := 15) rfl) (by decide) ?_
        refine r_iaload (x := nI M) (q120 (i := 16) rfl) (k_1075 S) (vp_in_nI (n := 0) (by decide) (by decide)) hM ?_
        refine r_imul (q120 (i := 17) rfl) ?_
        rw [show (2 * (nI M) : Int32) = nI (2 * M) from nI_mul 2 M]
        refine r_iconst (v := 1) (q120 (i := 18) rfl) (by decide) ?_
        refine r_iadd (q120 (i := 19) rfl) ?_
        rw [show ((nI (2 * M)) + 1 : Int32) = nI (2 * M + 1) from nI_1 _]
        refine r_icmp 49 (q120 (i := 20) rfl) (by decide) (fun c32 => ?_) (fun c32 => ?_)
        · have c32 : nI (2 * M + 1) < nI v := c32
          refine r_aload_n (q120 (i := 29) rfl) rfl ?_
          refine r_iconst (v := 3) (q120 (i := 30) rfl) (by decide) ?_
          refine r_iload_n (q120 (i := 31) rfl) rfl ?_
          refine r_cV (d := _) (q120 (i := 32) rfl) rfl rfl rfl (k_47 S) (Nat.le_of_ble_eq_true rfl) (Nat.zero_le _) (Nat.zero_le _) R1 ?_
          show Wp _ _ _ 55 [(0, .ref 47), (1, .int (nI p)), (2, .int (nI st)), (3, .int (nI k))] [.int 0] h1 _ _
          exact r_zret (q120 (i := 33) rfl) rfl (by decide) hQ
        · have c32 : ¬ (nI (2 * M + 1) < nI v) := c32
          have hv : v ≤ 2 * M + 1 := by rcases Nat.lt_or_ge (2 * M + 1) v with y | y; exact absurd (nI_lt y (by omega)) c32; exact y
          refine r_aload_n (q120 (i := 21) rfl) rfl ?_
          refine r_getR (b := 1077) (q120 (i := 22) rfl) rfl (by decide) (k_47 S) (fun _ _ _ => rfl) (r_47_32 S) ?_
          refine r_aload_n (q120 (i := 23) rfl) rfl ?_
          refine r_getI (x := nI v) (q120 (i := 24) rfl) rfl (by decide) (k_47 S) (fun _ _ _ => rfl) ev ?_
          refine r_iconst (v := 2) (q120 (i := 25) rfl) (by decide) ?_
          refine r_idiv (q120 (i := 26) rfl) (by decide) ?_
          rw [show ((nI v) / 2 : Int32) = nI (v / 2) from div2 (by omega)]
          refine r_iaN (x := nI (if D (v / 2) = 0 then 0 else if D (v / 2) ≤ n then 1 else 2)) (q120 (i := 27) rfl) (k_1077 S) (by omega) (by decide) ((dm (v / 2) (by omega)).1) ?_
          refine r_if 56 (q120 (i := 28) rfl) (by decide) (fun zz => absurd zz (show ¬ (nI (if D (v / 2) = 0 then 0 else if D (v / 2) ≤ n then 1 else 2) = 0) from fun y => nz c7 c15 hv y)) (fun _ => ?_)
          refine r_aload_n (q120 (i := 29) rfl) rfl ?_
          refine r_iconst (v := 3) (q120 (i := 30) rfl) (by decide) ?_
          refine r_iload_n (q120 (i := 31) rfl) rfl ?_
          refine r_cV (d := _) (q120 (i := 32) rfl) rfl rfl rfl (k_47 S) (Nat.le_of_ble_eq_true rfl) (Nat.zero_le _) (Nat.zero_le _) R1 ?_
          show Wp _ _ _ 55 [(0, .ref 47), (1, .int (nI p)), (2, .int (nI st)), (3, .int (nI k))] [.int 0] h1 _ _
          exact r_zret (q120 (i := 33) rfl) rfl (by decide) hQ
  · have g1 : ¬ v % 2 = 1 := fun y => b (Or.inl y)
    have g2 : ¬ v < 2 := fun y => b (Or.inr (Or.inl y))
    have g3 : ¬ 2 * M + 1 < v := fun y => b (Or.inr (Or.inr (Or.inl y)))
    have g4 : D (v / 2) = 0 := Classical.not_not.mp (fun y => b (Or.inr (Or.inr (Or.inr y))))
    have d0 : hI h 1077 (v / 2) = 0 := by
      have := (dm (v / 2) (by omega)).1
      rw [if_pos g4] at this
      exact this
    refine ⟨?_, fun w hw => ?_, ⟨by omega, by omega, by omega, g4⟩⟩
    · refine Run.of (d := d + 1) (Nat.le_of_ble_eq_true rfl) (fun Q hQ => ?_)
      show Wp (Ex (d + 1)) 120 Q 0 [(0, .ref 47), (1, .int (nI p)), (2, .int (nI st)), (3, .int (nI k))] [] h 0 0
      refine r_aload_n (q120 (i := 0) rfl) rfl ?_
      refine r_getI (x := nI v) (q120 (i := 1) rfl) rfl (by decide) (k_47 S) (fun _ _ _ => rfl) ev ?_
      refine r_iconst (v := 2) (q120 (i := 2) rfl) (by decide) ?_
      refine r_irem (q120 (i := 3) rfl) (by decide) ?_
      rw [show ((nI v) - (nI v) / 2 * 2 : Int32) = nI (v % 2) from rem2 (by omega)]
      refine r_iconst (v := 1) (q120 (i := 4) rfl) (by decide) ?_
      refine r_icmp 49 (q120 (i := 5) rfl) (by decide) (fun zz => absurd zz (show ¬ (nI (v % 2) = 1) from fun y => g1 ((nI_eq (b := 1) (by omega) (by decide)).mp y))) (fun _ => ?_)
      refine r_aload_n (q120 (i := 6) rfl) rfl ?_
      refine r_getI (x := nI v) (q120 (i := 7) rfl) rfl (by decide) (k_47 S) (fun _ _ _ => rfl) ev ?_
      refine r_iconst (v := 2) (q120 (i := 8) rfl) (by decide) ?_
      refine r_icmp 49 (q120 (i := 9) rfl) (by decide) (fun zz => absurd zz (show ¬ (nI v < 2) from nI_nlt (b := 2) (by omega) (by omega))) (fun _ => ?_)
      refine r_aload_n (q120 (i := 10) rfl) rfl ?_
      refine r_getI (x := nI v) (q120 (i := 11) rfl) rfl (by decide) (k_47 S) (fun _ _ _ => rfl) ev ?_
      refine r_iconst (v := 2) (q120 (i := 12) rfl) (by decide) ?_
      refine r_aload_n (q120 (i := 13) rfl) rfl ?_
      refine r_getR (b := 1075) (q120 (i := 14) rfl) rfl (by decide) (k_47 S) (fun _ _ _ => rfl) (r_47_30 S) ?_
      refine r_iconst (v := 0) (q120 (i := 15) rfl) (by decide) ?_
      refine r_iaload (x := nI M) (q120 (i := 16) rfl) (k_1075 S) (vp_in_nI (n := 0) (by decide) (by decide)) hM ?_
      refine r_imul (q120 (i := 17) rfl) ?_
      rw [show (2 * (nI M) : Int32) = nI (2 * M) from nI_mul 2 M]
      refine r_iconst (v := 1) (q120 (i := 18) rfl) (by decide) ?_
      refine r_iadd (q120 (i := 19) rfl) ?_
      rw [show ((nI (2 * M)) + 1 : Int32) = nI (2 * M + 1) from nI_1 _]
      refine r_icmp 49 (q120 (i := 20) rfl) (by decide) (fun zz => absurd zz (show ¬ (nI (2 * M + 1) < nI v) from nI_nlt (by omega) (by omega))) (fun _ => ?_)
      refine r_aload_n (q120 (i := 21) rfl) rfl ?_
      refine r_getR (b := 1077) (q120 (i := 22) rfl) rfl (by decide) (k_47 S) (fun _ _ _ => rfl) (r_47_32 S) ?_
      refine r_aload_n (q120 (i := 23) rfl) rfl ?_
      refine r_getI (x := nI v) (q120 (i := 24) rfl) rfl (by decide) (k_47 S) (fun _ _ _ => rfl) ev ?_
      refine r_iconst (v := 2) (q120 (i := 25) rfl) (by decide) ?_
      refine r_idiv (q120 (i := 26) rfl) (by decide) ?_
      rw [show ((nI v) / 2 : Int32) = nI (v / 2) from div2 (by omega)]
      refine r_iaN (x := 0) (q120 (i := 27) rfl) (k_1077 S) (by omega) (by decide) d0 ?_
      refine r_if 56 (q120 (i := 28) rfl) (by decide) (fun _ => ?_) (fun zz => absurd (show (0 : Int32) = 0 from by decide) zz)
      refine r_aload_n (q120 (i := 34) rfl) rfl ?_
      refine r_getR (b := 1077) (q120 (i := 35) rfl) rfl (by decide) (k_47 S) (fun _ _ _ => rfl) (r_47_32 S) ?_
      refine r_aload_n (q120 (i := 36) rfl) rfl ?_
      refine r_getI (x := nI v) (q120 (i := 37) rfl) rfl (by decide) (k_47 S) (fun _ _ _ => rfl) ev ?_
      refine r_iconst (v := 2) (q120 (i := 38) rfl) (by decide) ?_
      refine r_idiv (q120 (i := 39) rfl) (by decide) ?_
      rw [show ((nI v) / 2 : Int32) = nI (v / 2) from div2 (by omega)]
      refine r_iload_n (q120 (i := 40) rfl) rfl ?_
      refine r_iasN (q120 (i := 41) rfl) (k_1077 S) (by omega) (by decide) ?_
      refine r_aload_n (q120 (i := 42) rfl) rfl ?_
      refine r_getR (b := 1078) (q120 (i := 43) rfl) rfl (by decide) (k_47 S) (fun _ _ _ => rfl) (r_47_33 S) ?_
      refine r_aload_n (q120 (i := 44) rfl) rfl ?_
      refine r_getI (x := nI v) (q120 (i := 45) rfl) rfl (by decide) (k_47 S) (fun _ _ _ => rfl) ev ?_
      refine r_iconst (v := 2) (q120 (i := 46) rfl) (by decide) ?_
      refine r_idiv (q120 (i := 47) rfl) (by decide) ?_
      rw [show ((nI v) / 2 : Int32) = nI (v / 2) from div2 (by omega)]
      refine r_iload_n (q120 (i := 48) rfl) rfl ?_
      refine r_iasN (q120 (i := 49) rfl) (k_1078 S) (by omega) (by decide) ?_
      refine r_iconst (v := 1) (q120 (i := 50) rfl) (by decide) ?_
      exact r_zret (q120 (i := 51) rfl) rfl (by decide) hQ
    · show u1 (hI h 1077) (v / 2) _ w = nI (if u1 D (v / 2) j w = 0 then 0 else if u1 D (v / 2) j w ≤ n then 1 else 2) ∧ (u1 D (v / 2) j w ≠ 0 → u1 (hI h 1078) (v / 2) _ w = nI (if u1 D (v / 2) j w ≤ n then u1 D (v / 2) j w - 1 else u1 D (v / 2) j w - n - 1))
      by_cases e : w = v / 2
      · rw [e, u1_s, u1_s, u1_s, if_neg (by omega), hk.2.1, hk.2.2]
        exact ⟨rfl, fun _ => rfl⟩
      · rw [u1_n e, u1_n e, u1_n e]; exact dm w hw
set_option maxHeartbeats 2000000 in
set_option maxRecDepth 10000 in
theorem sp_uses {d : Nat} {h : hp} (S : Sh h) (ft : FTM h none) {M v p : Nat} (ev : hI h 47 29 = nI v) (hv9 : v < 1000000000) (hM : hI h 1075 0 = nI M) (hM1 : M ≤ 1000) (hp : p ≤ 3000) : (2 * M + 1 < v → ∃ h', Run (d + 1 + 1) 121 [.ref 47, .int (nI p)] h 0 0 (some (.int 0)) h' ∧ FTM h' (some (4, p)) ∧ FrT2 h h') ∧ (¬ 2 * M + 1 < v → Run (d + 1 + 1) 121 [.ref 47, .int (nI p)] h 0 0 (some (.int 1)) h) := by
  refine ⟨fun b => ?_, fun b => ?_⟩
  · obtain ⟨h1, R1, f1, F1, _⟩ := sp_fails (d := d) S (t := none) ft (f := 4) (p := p) (by decide) hp
    refine ⟨h1, ?_, f1, F1⟩
    refine Run.of (d := d + 1) (Nat.le_of_ble_eq_true rfl) (fun Q hQ => ?_)
    show Wp (Ex (d + 1)) 121 Q 0 [(0, .ref 47), (1, .int (nI p))] [] h 0 0
    refine r_aload_n (q121 (i := 0) rfl) rfl ?_
    refine r_getI (x := nI v) (q121 (i := 1) rfl) rfl (by decide) (k_47 S) (fun _ _ _ => rfl) ev ?_
    refine r_iconst (v := 2) (q121 (i := 2) rfl) (by decide) ?_
    refine r_aload_n (q121 (i := 3) rfl) rfl ?_
    refine r_getR (b := 1075) (q121 (i := 4) rfl) rfl (by decide) (k_47 S) (fun _ _ _ => rfl) (r_47_30 S) ?_
    refine r_iconst (v := 0) (q121 (i := 5) rfl) (by decide) ?_
    refine r_iaload (x := nI M) (q121 (i := 6) rfl) (k_1075 S) (vp_in_nI (n := 0) (by decide) (by decide)) hM ?_
    refine r_imul (q121 (i := 7) rfl) ?_
    rw [show (2 * (nI M) : Int32) = nI (2 * M) from nI_mul 2 M]
    refine r_iconst (v := 1) (q121 (i := 8) rfl) (by decide) ?_
    refine r_iadd (q121 (i := 9) rfl) ?_
    rw [show ((nI (2 * M)) + 1 : Int32) = nI (2 * M + 1) from nI_1 _]
    refine r_icmp 26 (q121 (i := 10) rfl) (by decide) (fun zz => absurd zz (show ¬ (nI v ≤ nI (2 * M + 1)) from nI_ge b (by omega))) (fun _ => ?_)
    refine r_aload_n (q121 (i := 11) rfl) rfl ?_
    refine r_iconst (v := 4) (q121 (i := 12) rfl) (by decide) ?_
    refine r_iload_n (q121 (i := 13) rfl) rfl ?_
    refine r_cV (d := _) (q121 (i := 14) rfl) rfl rfl rfl (k_47 S) (Nat.le_of_ble_eq_true rfl) (Nat.zero_le _) (Nat.zero_le _) R1 ?_
    show Wp _ _ _ 23 [(0, .ref 47), (1, .int (nI p))] [.int 0] h1 _ _
    refine r_if 30 (q121 (i := 15) rfl) (by decide) (fun _ => ?_) (fun zz => absurd (show (0 : Int32) = 0 from by decide) zz)
    refine r_iconst (v := 0) (q121 (i := 18) rfl) (by decide) ?_
    exact r_zret (q121 (i := 19) rfl) rfl (by decide) hQ
  · refine Run.of (d := d + 1) (Nat.le_of_ble_eq_true rfl) (fun Q hQ => ?_)
    show Wp (Ex (d + 1)) 121 Q 0 [(0, .ref 47), (1, .int (nI p))] [] h 0 0
    refine r_aload_n (q121 (i := 0) rfl) rfl ?_
    refine r_getI (x := nI v) (q121 (i := 1) rfl) rfl (by decide) (k_47 S) (fun _ _ _ => rfl) ev ?_
    refine r_iconst (v := 2) (q121 (i := 2) rfl) (by decide) ?_
    refine r_aload_n (q121 (i := 3) rfl) rfl ?_
    refine r_getR (b := 1075) (q121 (i := 4) rfl) rfl (by decide) (k_47 S) (fun _ _ _ => rfl) (r_47_30 S) ?_
    refine r_iconst (v := 0) (q121 (i := 5) rfl) (by decide) ?_
    refine r_iaload (x := nI M) (q121 (i := 6) rfl) (k_1075 S) (vp_in_nI (n := 0) (by decide) (by decide)) hM ?_
    refine r_imul (q121 (i := 7) rfl) ?_
    rw [show (2 * (nI M) : Int32) = nI (2 * M) from nI_mul 2 M]
    refine r_iconst (v := 1) (q121 (i := 8) rfl) (by decide) ?_
    refine r_iadd (q121 (i := 9) rfl) ?_
    rw [show ((nI (2 * M)) + 1 : Int32) = nI (2 * M + 1) from nI_1 _]
    refine r_icmp 26 (q121 (i := 10) rfl) (by decide) (fun _ => ?_) (fun zz => absurd (show nI v ≤ nI (2 * M + 1) from nI_le (by omega) (by omega)) zz)
    refine r_iconst (v := 1) (q121 (i := 16) rfl) (by decide) ?_
    refine r_goto 31 (q121 (i := 17) rfl) (by decide) ?_
    exact r_zret (q121 (i := 19) rfl) rfl (by decide) hQ
set_option maxHeartbeats 2000000 in
set_option maxRecDepth 10000 in
theorem sp_at0 {d : Nat} {h : hp} (S : Sh h) {k : Nat} (hk : k < 120) : Run (d + 1) 123 [.ref 47, .int (nI k)] h 0 0 (some (.int (hI h (1201 + k) 0))) h := by
  refine Run.of (Nat.le_of_ble_eq_true rfl) (fun Q hQ => ?_)
  show Wp (Ex (d)) 123 Q 0 [(0, .ref 47), (1, .int (nI k))] [] h 0 0
  refine r_aload_n (q123 (i := 0) rfl) rfl ?_
  refine r_getR (b := 1200) (q123 (i := 1) rfl) rfl (by decide) (k_47 S) (fun _ _ _ => rfl) (r_47_35 S) ?_
  refine r_iload_n (q123 (i := 2) rfl) rfl ?_
  refine r_aa5N (q123 (i := 3) rfl) (k_1200 S) (by omega) (by decide) (rAt S hk) ?_
  refine r_iconst (v := 0) (q123 (i := 4) rfl) (by decide) ?_
  refine r_iaload (x := hI h (1201 + k) 0) (q123 (i := 5) rfl) (kAt S hk) (vp_in_nI (n := 0) (by decide) (by decide)) rfl ?_
  exact r_iret (q123 (i := 6) rfl) rfl hQ
set_option maxHeartbeats 2000000 in
set_option maxRecDepth 10000 in
theorem li_is1 {d : Nat} {B : Nat → Int32} {z n M O o k : Nat} {i : Nat} {h : hp} {s : pst} (L : LSt h B z n M O o k s) {X : hp → Prop} (hX : ∀ h', FrT2 h h' → hI h' 47 29 = hI h 47 29 → X h') : LRes (Fex B z 10 s) h (fun h s' => LSt h B z n M O o k s' ∧ X h ∧ s'.2 = s.2) (fun Q bc bs => ∀ ls : List (Nat × Value), ls.lookup 1 = some (.int (nI i)) → ls.lookup 0 = some (.ref 47) → Wp (Ex (d + 2)) 122 Q 56 ls [] h bc bs) (fun h Q bc bs => ∀ ls : List (Nat × Value), ls.lookup 1 = some (.int (nI i)) → ls.lookup 0 = some (.ref 47) → Wp (Ex (d + 2)) 122 Q 67 ls [] h bc bs) := by
  have S := L.1.1
  obtain ⟨h1, R1, st, F1, e29⟩ := sp_is (d := d) S L.1.2.1 (t := none) L.2.1.1 L.2.1.2.1 L.2.1.2.2 (c := 10) (by decide)
  unfold Fex
  by_cases q : cb B z s.1 = 10
  · rw [if_pos q] at R1 st ⊢
    obtain ⟨x1, x2, x3⟩ := st
    refine ⟨h1, ⟨L.to F1 x3 x1 x2, hX h1 F1 e29, rfl⟩, F1.L, fun Q bc bs kk ls l1 l0 => ?_⟩
    · skip
      refine r_aload_n (q122 (i := 32) rfl) l0 ?_
      refine r_bipush (v := nI 10) (q122 (i := 33) rfl) (by decide) ?_
      refine r_cV (d := _) (q122 (i := 34) rfl) rfl rfl rfl (k_47 S) (Nat.le_of_ble_eq_true rfl) (Nat.zero_le _) (Nat.zero_le _) R1 ?_
      show Wp _ _ _ 62 ls [.int 1] h1 _ _
      refine r_if 67 (q122 (i := 35) rfl) (by decide) (fun _ => ?_) (fun zz => absurd (show ¬ (1 : Int32) = 0 from by decide) zz)
      exact kk ls l1 l0
  · rw [if_neg q] at R1 st ⊢
    refine ⟨h1, ⟨st.2, F1.S S⟩, F1.L, fun Q bc bs hQ ls l1 l0 => ?_⟩
    · skip
      refine r_aload_n (q122 (i := 32) rfl) l0 ?_
      refine r_bipush (v := nI 10) (q122 (i := 33) rfl) (by decide) ?_
      refine r_cV (d := _) (q122 (i := 34) rfl) rfl rfl rfl (k_47 S) (Nat.le_of_ble_eq_true rfl) (Nat.zero_le _) (Nat.zero_le _) R1 ?_
      show Wp _ _ _ 62 ls [.int 0] h1 _ _
      refine r_if 67 (q122 (i := 35) rfl) (by decide) (fun zz => absurd zz (show ¬ (¬ (0 : Int32) = 0) from by decide)) (fun _ => ?_)
      refine r_iconst (v := 0) (q122 (i := 36) rfl) (by decide) ?_
      exact r_zret (q122 (i := 37) rfl) rfl (by decide) hQ
set_option maxHeartbeats 2000000 in
set_option maxRecDepth 10000 in
theorem li_is2 {d : Nat} {B : Nat → Int32} {z n M O o k : Nat} {i : Nat} {h : hp} {s : pst} (L : LSt h B z n M O o k s) {X : hp → Prop} (hX : ∀ h', FrT2 h h' → hI h' 47 29 = hI h 47 29 → X h') : LRes (Fex B z 10 s) h (fun h s' => LSt h B z n M O o k s' ∧ X h ∧ s'.2 = s.2) (fun Q bc bs => ∀ ls : List (Nat × Value), ls.lookup 1 = some (.int (nI i)) → ls.lookup 0 = some (.ref 47) → Wp (Ex (d + 2)) 122 Q 115 ls [] h bc bs) (fun h Q bc bs => ∀ ls : List (Nat × Value), ls.lookup 1 = some (.int (nI i)) → ls.lookup 0 = some (.ref 47) → Wp (Ex (d + 2)) 122 Q 126 ls [] h bc bs) := by
  have S := L.1.1
  obtain ⟨h1, R1, st, F1, e29⟩ := sp_is (d := d) S L.1.2.1 (t := none) L.2.1.1 L.2.1.2.1 L.2.1.2.2 (c := 10) (by decide)
  unfold Fex
  by_cases q : cb B z s.1 = 10
  · rw [if_pos q] at R1 st ⊢
    obtain ⟨x1, x2, x3⟩ := st
    refine ⟨h1, ⟨L.to F1 x3 x1 x2, hX h1 F1 e29, rfl⟩, F1.L, fun Q bc bs kk ls l1 l0 => ?_⟩
    · skip
      refine r_aload_n (q122 (i := 64) rfl) l0 ?_
      refine r_bipush (v := nI 10) (q122 (i := 65) rfl) (by decide) ?_
      refine r_cV (d := _) (q122 (i := 66) rfl) rfl rfl rfl (k_47 S) (Nat.le_of_ble_eq_true rfl) (Nat.zero_le _) (Nat.zero_le _) R1 ?_
      show Wp _ _ _ 121 ls [.int 1] h1 _ _
      refine r_if 126 (q122 (i := 67) rfl) (by decide) (fun _ => ?_) (fun zz => absurd (show ¬ (1 : Int32) = 0 from by decide) zz)
      exact kk ls l1 l0
  · rw [if_neg q] at R1 st ⊢
    refine ⟨h1, ⟨st.2, F1.S S⟩, F1.L, fun Q bc bs hQ ls l1 l0 => ?_⟩
    · skip
      refine r_aload_n (q122 (i := 64) rfl) l0 ?_
      refine r_bipush (v := nI 10) (q122 (i := 65) rfl) (by decide) ?_
      refine r_cV (d := _) (q122 (i := 66) rfl) rfl rfl rfl (k_47 S) (Nat.le_of_ble_eq_true rfl) (Nat.zero_le _) (Nat.zero_le _) R1 ?_
      show Wp _ _ _ 121 ls [.int 0] h1 _ _
      refine r_if 126 (q122 (i := 67) rfl) (by decide) (fun zz => absurd zz (show ¬ (¬ (0 : Int32) = 0) from by decide)) (fun _ => ?_)
      refine r_iconst (v := 0) (q122 (i := 68) rfl) (by decide) ?_
      exact r_zret (q122 (i := 69) rfl) rfl (by decide) hQ
set_option maxHeartbeats 2000000 in
set_option maxRecDepth 10000 in
theorem li_is3_0 {d : Nat} {B : Nat → Int32} {z n M O o k : Nat} {i : Nat} {h : hp} {s : pst} (L : LSt h B z n M O o k s) {X : hp → Prop} (hX : ∀ h', FrT2 h h' → hI h' 47 29 = hI h 47 29 → X h') : LRes (Fex B z 32 s) h (fun h s' => LSt h B z n M O o k s' ∧ X h ∧ s'.2 = s.2) (fun Q bc bs => ∀ ls : List (Nat × Value), ls.lookup 2 = some (.int 0) → ls.lookup 1 = some (.int (nI i)) → ls.lookup 0 = some (.ref 47) → Wp (Ex (d + 2)) 122 Q 216 ls [] h bc bs) (fun h Q bc bs => ∀ ls : List (Nat × Value), ls.lookup 2 = some (.int 0) → ls.lookup 1 = some (.int (nI i)) → ls.lookup 0 = some (.ref 47) → Wp (Ex (d + 2)) 122 Q 237 ls [] h bc bs) := by
  have S := L.1.1
  obtain ⟨h1, R1, st, F1, e29⟩ := sp_is (d := d) S L.1.2.1 (t := none) L.2.1.1 L.2.1.2.1 L.2.1.2.2 (c := 32) (by decide)
  unfold Fex
  by_cases q : cb B z s.1 = 32
  · rw [if_pos q] at R1 st ⊢
    obtain ⟨x1, x2, x3⟩ := st
    refine ⟨h1, ⟨L.to F1 x3 x1 x2, hX h1 F1 e29, rfl⟩, F1.L, fun Q bc bs kk ls l2 l1 l0 => ?_⟩
    · skip
      refine r_aload_n (q122 (i := 122) rfl) l0 ?_
      refine r_iload_n (q122 (i := 123) rfl) l2 ?_
      refine r_iconst (v := 2) (q122 (i := 124) rfl) (by decide) ?_
      refine r_icmp 227 (q122 (i := 125) rfl) (by decide) (fun zz => absurd zz (show ¬ (2 ≤ (0 : Int32)) from by decide)) (fun _ => ?_)
      refine r_bipush (v := nI 32) (q122 (i := 126) rfl) (by decide) ?_
      refine r_goto 229 (q122 (i := 127) rfl) (by decide) ?_
      refine r_cV (d := _) (q122 (i := 129) rfl) rfl rfl rfl (k_47 S) (Nat.le_of_ble_eq_true rfl) (Nat.zero_le _) (Nat.zero_le _) R1 ?_
      show Wp _ _ _ 232 ls [.int 1] h1 _ _
      refine r_if 237 (q122 (i := 130) rfl) (by decide) (fun _ => ?_) (fun zz => absurd (show ¬ (1 : Int32) = 0 from by decide) zz)
      exact kk ls l2 l1 l0
  · rw [if_neg q] at R1 st ⊢
    refine ⟨h1, ⟨st.2, F1.S S⟩, F1.L, fun Q bc bs hQ ls l2 l1 l0 => ?_⟩
    · skip
      refine r_aload_n (q122 (i := 122) rfl) l0 ?_
      refine r_iload_n (q122 (i := 123) rfl) l2 ?_
      refine r_iconst (v := 2) (q122 (i := 124) rfl) (by decide) ?_
      refine r_icmp 227 (q122 (i := 125) rfl) (by decide) (fun zz => absurd zz (show ¬ (2 ≤ (0 : Int32)) from by decide)) (fun _ => ?_)
      refine r_bipush (v := nI 32) (q122 (i := 126) rfl) (by decide) ?_
      refine r_goto 229 (q122 (i := 127) rfl) (by decide) ?_
      refine r_cV (d := _) (q122 (i := 129) rfl) rfl rfl rfl (k_47 S) (Nat.le_of_ble_eq_true rfl) (Nat.zero_le _) (Nat.zero_le _) R1 ?_
      show Wp _ _ _ 232 ls [.int 0] h1 _ _
      refine r_if 237 (q122 (i := 130) rfl) (by decide) (fun zz => absurd zz (show ¬ (¬ (0 : Int32) = 0) from by decide)) (fun _ => ?_)
      refine r_iconst (v := 0) (q122 (i := 131) rfl) (by decide) ?_
      exact r_zret (q122 (i := 132) rfl) rfl (by decide) hQ
set_option maxHeartbeats 2000000 in
set_option maxRecDepth 10000 in
theorem li_is3_1 {d : Nat} {B : Nat → Int32} {z n M O o k : Nat} {i : Nat} {h : hp} {s : pst} (L : LSt h B z n M O o k s) {X : hp → Prop} (hX : ∀ h', FrT2 h h' → hI h' 47 29 = hI h 47 29 → X h') : LRes (Fex B z 32 s) h (fun h s' => LSt h B z n M O o k s' ∧ X h ∧ s'.2 = s.2) (fun Q bc bs => ∀ ls : List (Nat × Value), ls.lookup 2 = some (.int 1) → ls.lookup 1 = some (.int (nI i)) → ls.lookup 0 = some (.ref 47) → Wp (Ex (d + 2)) 122 Q 216 ls [] h bc bs) (fun h Q bc bs => ∀ ls : List (Nat × Value), ls.lookup 2 = some (.int 1) → ls.lookup 1 = some (.int (nI i)) → ls.lookup 0 = some (.ref 47) → Wp (Ex (d + 2)) 122 Q 237 ls [] h bc bs) := by
  have S := L.1.1
  obtain ⟨h1, R1, st, F1, e29⟩ := sp_is (d := d) S L.1.2.1 (t := none) L.2.1.1 L.2.1.2.1 L.2.1.2.2 (c := 32) (by decide)
  unfold Fex
  by_cases q : cb B z s.1 = 32
  · rw [if_pos q] at R1 st ⊢
    obtain ⟨x1, x2, x3⟩ := st
    refine ⟨h1, ⟨L.to F1 x3 x1 x2, hX h1 F1 e29, rfl⟩, F1.L, fun Q bc bs kk ls l2 l1 l0 => ?_⟩
    · skip
      refine r_aload_n (q122 (i := 122) rfl) l0 ?_
      refine r_iload_n (q122 (i := 123) rfl) l2 ?_
      refine r_iconst (v := 2) (q122 (i := 124) rfl) (by decide) ?_
      refine r_icmp 227 (q122 (i := 125) rfl) (by decide) (fun zz => absurd zz (show ¬ (2 ≤ (1 : Int32)) from by decide)) (fun _ => ?_)
      refine r_bipush (v := nI 32) (q122 (i := 126) rfl) (by decide) ?_
      refine r_goto 229 (q122 (i := 127) rfl) (by decide) ?_
      refine r_cV (d := _) (q122 (i := 129) rfl) rfl rfl rfl (k_47 S) (Nat.le_of_ble_eq_true rfl) (Nat.zero_le _) (Nat.zero_le _) R1 ?_
      show Wp _ _ _ 232 ls [.int 1] h1 _ _
      refine r_if 237 (q122 (i := 130) rfl) (by decide) (fun _ => ?_) (fun zz => absurd (show ¬ (1 : Int32) = 0 from by decide) zz)
      exact kk ls l2 l1 l0
  · rw [if_neg q] at R1 st ⊢
    refine ⟨h1, ⟨st.2, F1.S S⟩, F1.L, fun Q bc bs hQ ls l2 l1 l0 => ?_⟩
    · skip
      refine r_aload_n (q122 (i := 122) rfl) l0 ?_
      refine r_iload_n (q122 (i := 123) rfl) l2 ?_
      refine r_iconst (v := 2) (q122 (i := 124) rfl) (by decide) ?_
      refine r_icmp 227 (q122 (i := 125) rfl) (by decide) (fun zz => absurd zz (show ¬ (2 ≤ (1 : Int32)) from by decide)) (fun _ => ?_)
      refine r_bipush (v := nI 32) (q122 (i := 126) rfl) (by decide) ?_
      refine r_goto 229 (q122 (i := 127) rfl) (by decide) ?_
      refine r_cV (d := _) (q122 (i := 129) rfl) rfl rfl rfl (k_47 S) (Nat.le_of_ble_eq_true rfl) (Nat.zero_le _) (Nat.zero_le _) R1 ?_
      show Wp _ _ _ 232 ls [.int 0] h1 _ _
      refine r_if 237 (q122 (i := 130) rfl) (by decide) (fun zz => absurd zz (show ¬ (¬ (0 : Int32) = 0) from by decide)) (fun _ => ?_)
      refine r_iconst (v := 0) (q122 (i := 131) rfl) (by decide) ?_
      exact r_zret (q122 (i := 132) rfl) rfl (by decide) hQ
set_option maxHeartbeats 2000000 in
set_option maxRecDepth 10000 in
theorem li_is3_2 {d : Nat} {B : Nat → Int32} {z n M O o k : Nat} {i : Nat} {h : hp} {s : pst} (L : LSt h B z n M O o k s) {X : hp → Prop} (hX : ∀ h', FrT2 h h' → hI h' 47 29 = hI h 47 29 → X h') : LRes (Fex B z 10 s) h (fun h s' => LSt h B z n M O o k s' ∧ X h ∧ s'.2 = s.2) (fun Q bc bs => ∀ ls : List (Nat × Value), ls.lookup 2 = some (.int 2) → ls.lookup 1 = some (.int (nI i)) → ls.lookup 0 = some (.ref 47) → Wp (Ex (d + 2)) 122 Q 216 ls [] h bc bs) (fun h Q bc bs => ∀ ls : List (Nat × Value), ls.lookup 2 = some (.int 2) → ls.lookup 1 = some (.int (nI i)) → ls.lookup 0 = some (.ref 47) → Wp (Ex (d + 2)) 122 Q 237 ls [] h bc bs) := by
  have S := L.1.1
  obtain ⟨h1, R1, st, F1, e29⟩ := sp_is (d := d) S L.1.2.1 (t := none) L.2.1.1 L.2.1.2.1 L.2.1.2.2 (c := 10) (by decide)
  unfold Fex
  by_cases q : cb B z s.1 = 10
  · rw [if_pos q] at R1 st ⊢
    obtain ⟨x1, x2, x3⟩ := st
    refine ⟨h1, ⟨L.to F1 x3 x1 x2, hX h1 F1 e29, rfl⟩, F1.L, fun Q bc bs kk ls l2 l1 l0 => ?_⟩
    · skip
      refine r_aload_n (q122 (i := 122) rfl) l0 ?_
      refine r_iload_n (q122 (i := 123) rfl) l2 ?_
      refine r_iconst (v := 2) (q122 (i := 124) rfl) (by decide) ?_
      refine r_icmp 227 (q122 (i := 125) rfl) (by decide) (fun _ => ?_) (fun zz => absurd (show 2 ≤ (2 : Int32) from by decide) zz)
      refine r_bipush (v := nI 10) (q122 (i := 128) rfl) (by decide) ?_
      refine r_cV (d := _) (q122 (i := 129) rfl) rfl rfl rfl (k_47 S) (Nat.le_of_ble_eq_true rfl) (Nat.zero_le _) (Nat.zero_le _) R1 ?_
      show Wp _ _ _ 232 ls [.int 1] h1 _ _
      refine r_if 237 (q122 (i := 130) rfl) (by decide) (fun _ => ?_) (fun zz => absurd (show ¬ (1 : Int32) = 0 from by decide) zz)
      exact kk ls l2 l1 l0
  · rw [if_neg q] at R1 st ⊢
    refine ⟨h1, ⟨st.2, F1.S S⟩, F1.L, fun Q bc bs hQ ls l2 l1 l0 => ?_⟩
    · skip
      refine r_aload_n (q122 (i := 122) rfl) l0 ?_
      refine r_iload_n (q122 (i := 123) rfl) l2 ?_
      refine r_iconst (v := 2) (q122 (i := 124) rfl) (by decide) ?_
      refine r_icmp 227 (q122 (i := 125) rfl) (by decide) (fun _ => ?_) (fun zz => absurd (show 2 ≤ (2 : Int32) from by decide) zz)
      refine r_bipush (v := nI 10) (q122 (i := 128) rfl) (by decide) ?_
      refine r_cV (d := _) (q122 (i := 129) rfl) rfl rfl rfl (k_47 S) (Nat.le_of_ble_eq_true rfl) (Nat.zero_le _) (Nat.zero_le _) R1 ?_
      show Wp _ _ _ 232 ls [.int 0] h1 _ _
      refine r_if 237 (q122 (i := 130) rfl) (by decide) (fun zz => absurd zz (show ¬ (¬ (0 : Int32) = 0) from by decide)) (fun _ => ?_)
      refine r_iconst (v := 0) (q122 (i := 131) rfl) (by decide) ?_
      exact r_zret (q122 (i := 132) rfl) rfl (by decide) hQ
theorem Fdef_g {B : Nat → Int32} {z H j : Nat} {s : pst} (g : dg B z s.1 = true) : Fdef B z H j s = if badD H s.2.1 (numP B z s.1).1 then .error (3, s.1) else .ok ((numP B z s.1).2, u1 s.2.1 ((numP B z s.1).1 / 2) j, s.2.2) := by
  unfold Fdef
  rw [if_pos g]
theorem AMs_df {h h' : hp} {n O k v j : Nat} {s s' : pst} (A : AMs h n O k s) (e : ∀ i, i < k → hI h' (1080 + i) = hI h (1080 + i) ∧ hI h' (1201 + i) = hI h (1201 + i)) (hv : s.2.1 v = 0) (e1 : s'.2.1 = u1 s.2.1 v j) (e2 : s'.2.2.1 = s.2.2.1) (e3 : ∀ i, i < k → s'.2.2.2.2.1 i = s.2.2.2.2.1 i) : AMs h' n O k s' := fun i hi => by
  obtain ⟨⟨w, w0, w1, w2, w3⟩, b, c⟩ := A i hi
  rw [(e i hi).1, (e i hi).2, e2, e3 i hi]
  refine ⟨⟨w, w0, w1, w2, ?_⟩, b, c⟩
  rw [e1, u1_n (fun y => by rw [y, hv] at w3; omega)]
  exact w3
set_option maxHeartbeats 2000000 in
set_option maxRecDepth 10000 in
theorem li_def {d : Nat} {B : Nat → Int32} {z n M O i : Nat} (hn : n ≤ 12) (hi : i < n) {h : hp} {s : pst} (hI1 : hI h 1075 1 = nI n) (L : LSt h B z n M O 0 0 s) : LRes (Fdef B z (2 * M + 1) (i + 1) s) h (fun h s => LSt h B z n M O 0 0 s) (fun Q bc bs => ∀ ls : List (Nat × Value), ls.lookup 1 = some (.int (nI i)) → ls.lookup 0 = some (.ref 47) → Wp (Ex (d + 2)) 122 Q 24 ls [] h bc bs) (fun h Q bc bs => ∀ ls : List (Nat × Value), ls.lookup 1 = some (.int (nI i)) → ls.lookup 0 = some (.ref 47) → Wp (Ex (d + 2)) 122 Q 56 ls [] h bc bs) := by
  have S := L.1.1
  have hz := L.1.2.1.2.2.1
  have ha := L.2.1.2.2
  obtain ⟨h2, Rn, st, F2⟩ := sp_mnum (d := d) S L.1.2.1 (t := none) L.2.1.1 L.2.1.2.1 L.2.1.2.2
  have S2 := F2.S S
  by_cases g : dg B z s.1 = true
  · rw [if_pos g] at Rn st
    obtain ⟨eb, ev, f2⟩ := st
    obtain ⟨n1, n2, n3⟩ := numP_le B z ha
    have L2 := L.to F2 f2 eb n2
    obtain ⟨v, ew⟩ : ∃ v, v = (numP B z s.1).1 := ⟨_, rfl⟩
    rw [Fdef_g g, ← ew]
    rw [← ew] at ev n3
    obtain ⟨P1, P2⟩ := sp_defs (d := d) S2 f2 L2.2.2.1 ev n3 L2.1.2.2.1 L2.1.2.2.2 (p := s.1) (st := 1) (k := i) (j := i + 1) (by omega) ⟨by omega, by rw [if_pos (by omega)], by rw [if_pos (by omega)]; omega⟩
    by_cases b : badD (2 * M + 1) s.2.1 v
    · rw [if_pos b]
      obtain ⟨h3, R1, f3, F3⟩ := P1 b
      refine ⟨h3, ⟨f3, F3.S S2⟩, (F2.tr F3).L, fun Q bc bs hQ ls l1 l0 => ?_⟩
      refine r_iload_n (q122 (i := 14) rfl) l1 ?_
      refine r_aload_n (q122 (i := 15) rfl) l0 ?_
      refine r_getR (b := 1075) (q122 (i := 16) rfl) rfl (by decide) (k_47 S) (fun _ _ _ => rfl) (r_47_30 S) ?_
      refine r_iconst (v := 1) (q122 (i := 17) rfl) (by decide) ?_
      refine r_iaload (x := nI n) (q122 (i := 18) rfl) (k_1075 S) (vp_in_nI (n := 1) (by decide) (by decide)) hI1 ?_
      refine r_icmp 73 (q122 (i := 19) rfl) (by decide) (fun zz => absurd zz (show ¬ (nI n ≤ nI i) from nI_ge hi (by omega))) (fun _ => ?_)
      refine r_aload_n (q122 (i := 20) rfl) l0 ?_
      refine r_getI (x := nI s.1) (q122 (i := 21) rfl) rfl (by decide) (k_47 S) (fun _ _ _ => rfl) L.2.1.2.1 ?_
      refine r_istore_n (ls' := lset1 ls 2 (.int (nI s.1))) (q122 (i := 22) rfl) (Nat.le_of_ble_eq_true rfl) rfl ?_
      have l1 := lk1 (k := 2) (v := .int (nI s.1)) l1 (by decide) (Or.inl rfl)
      have l0 := lk1 (k := 2) (v := .int (nI s.1)) l0 (by decide) (Or.inr (by decide))
      have l2 := lk0 ls 2 (.int (nI s.1))
      generalize lset1 ls 2 (.int (nI s.1)) = ls at l2 l1 l0 ⊢
      refine r_aload_n (q122 (i := 23) rfl) l0 ?_
      refine r_cV (d := _) (q122 (i := 24) rfl) rfl rfl rfl (k_47 S) (Nat.le_of_ble_eq_true rfl) (Nat.zero_le _) (Nat.zero_le _) Rn ?_
      show Wp _ _ _ 43 ls [.int 1] h2 _ _
      refine r_if 65 (q122 (i := 25) rfl) (by decide) (fun zz => absurd zz (show ¬ ((1 : Int32) = 0) from by decide)) (fun _ => ?_)
      refine r_aload_n (q122 (i := 26) rfl) l0 ?_
      refine r_iload_n (q122 (i := 27) rfl) l2 ?_
      refine r_iconst (v := nI 1) (q122 (i := 28) rfl) (by decide) ?_
      refine r_iload_n (q122 (i := 29) rfl) l1 ?_
      refine r_cV (d := _) (q122 (i := 30) rfl) rfl rfl rfl (k_47 S2) (Nat.le_of_ble_eq_true rfl) (Nat.zero_le _) (Nat.zero_le _) R1 ?_
      show Wp _ _ _ 53 ls [.int 0] h3 _ _
      refine r_if 65 (q122 (i := 31) rfl) (by decide) (fun _ => ?_) (fun zz => absurd (show (0 : Int32) = 0 from by decide) zz)
      refine r_iconst (v := 0) (q122 (i := 36) rfl) (by decide) ?_
      exact r_zret (q122 (i := 37) rfl) rfl (by decide) hQ
    · rw [if_neg b]
      obtain ⟨R1, D1, y1, y0, y2, y3⟩ := P2 b
      refine ⟨sI (sI h2 1077 (v / 2) (nI 1)) 1078 (v / 2) (nI i), ⟨⟨S2.to rfl, L2.1.2⟩, L2.2.1, D1, fun i hi => absurd hi (Nat.not_lt_zero i), fun i hi => absurd hi (Nat.not_lt_zero i)⟩, (F2.L.tr (FrLn.w (by decide) _ _)).tr (FrLn.w (by decide) _ _), fun Q bc bs kk ls l1 l0 => ?_⟩
      refine r_iload_n (q122 (i := 14) rfl) l1 ?_
      refine r_aload_n (q122 (i := 15) rfl) l0 ?_
      refine r_getR (b := 1075) (q122 (i := 16) rfl) rfl (by decide) (k_47 S) (fun _ _ _ => rfl) (r_47_30 S) ?_
      refine r_iconst (v := 1) (q122 (i := 17) rfl) (by decide) ?_
      refine r_iaload (x := nI n) (q122 (i := 18) rfl) (k_1075 S) (vp_in_nI (n := 1) (by decide) (by decide)) hI1 ?_
      refine r_icmp 73 (q122 (i := 19) rfl) (by decide) (fun zz => absurd zz (show ¬ (nI n ≤ nI i) from nI_ge hi (by omega))) (fun _ => ?_)
      refine r_aload_n (q122 (i := 20) rfl) l0 ?_
      refine r_getI (x := nI s.1) (q122 (i := 21) rfl) rfl (by decide) (k_47 S) (fun _ _ _ => rfl) L.2.1.2.1 ?_
      refine r_istore_n (ls' := lset1 ls 2 (.int (nI s.1))) (q122 (i := 22) rfl) (Nat.le_of_ble_eq_true rfl) rfl ?_
      have l1 := lk1 (k := 2) (v := .int (nI s.1)) l1 (by decide) (Or.inl rfl)
      have l0 := lk1 (k := 2) (v := .int (nI s.1)) l0 (by decide) (Or.inr (by decide))
      have l2 := lk0 ls 2 (.int (nI s.1))
      generalize lset1 ls 2 (.int (nI s.1)) = ls at l2 l1 l0 ⊢
      refine r_aload_n (q122 (i := 23) rfl) l0 ?_
      refine r_cV (d := _) (q122 (i := 24) rfl) rfl rfl rfl (k_47 S) (Nat.le_of_ble_eq_true rfl) (Nat.zero_le _) (Nat.zero_le _) Rn ?_
      show Wp _ _ _ 43 ls [.int 1] h2 _ _
      refine r_if 65 (q122 (i := 25) rfl) (by decide) (fun zz => absurd zz (show ¬ ((1 : Int32) = 0) from by decide)) (fun _ => ?_)
      refine r_aload_n (q122 (i := 26) rfl) l0 ?_
      refine r_iload_n (q122 (i := 27) rfl) l2 ?_
      refine r_iconst (v := nI 1) (q122 (i := 28) rfl) (by decide) ?_
      refine r_iload_n (q122 (i := 29) rfl) l1 ?_
      refine r_cV (d := _) (q122 (i := 30) rfl) rfl rfl rfl (k_47 S2) (Nat.le_of_ble_eq_true rfl) (Nat.zero_le _) (Nat.zero_le _) R1 ?_
      show Wp _ _ _ 53 ls [.int 1] (sI (sI h2 1077 (v / 2) (nI 1)) 1078 (v / 2) (nI i)) _ _
      refine r_if 65 (q122 (i := 31) rfl) (by decide) (fun zz => absurd zz (show ¬ ((1 : Int32) = 0) from by decide)) (fun _ => ?_)
      exact kk ls l1 l0
  · rw [if_neg g] at Rn st
    unfold Fdef
    rw [if_neg g]
    refine ⟨h2, ⟨st.2.2, S2⟩, F2.L, fun Q bc bs hQ ls l1 l0 => ?_⟩
    refine r_iload_n (q122 (i := 14) rfl) l1 ?_
    refine r_aload_n (q122 (i := 15) rfl) l0 ?_
    refine r_getR (b := 1075) (q122 (i := 16) rfl) rfl (by decide) (k_47 S) (fun _ _ _ => rfl) (r_47_30 S) ?_
    refine r_iconst (v := 1) (q122 (i := 17) rfl) (by decide) ?_
    refine r_iaload (x := nI n) (q122 (i := 18) rfl) (k_1075 S) (vp_in_nI (n := 1) (by decide) (by decide)) hI1 ?_
    refine r_icmp 73 (q122 (i := 19) rfl) (by decide) (fun zz => absurd zz (show ¬ (nI n ≤ nI i) from nI_ge hi (by omega))) (fun _ => ?_)
    refine r_aload_n (q122 (i := 20) rfl) l0 ?_
    refine r_getI (x := nI s.1) (q122 (i := 21) rfl) rfl (by decide) (k_47 S) (fun _ _ _ => rfl) L.2.1.2.1 ?_
    refine r_istore_n (ls' := lset1 ls 2 (.int (nI s.1))) (q122 (i := 22) rfl) (Nat.le_of_ble_eq_true rfl) rfl ?_
    have l1 := lk1 (k := 2) (v := .int (nI s.1)) l1 (by decide) (Or.inl rfl)
    have l0 := lk1 (k := 2) (v := .int (nI s.1)) l0 (by decide) (Or.inr (by decide))
    have l2 := lk0 ls 2 (.int (nI s.1))
    generalize lset1 ls 2 (.int (nI s.1)) = ls at l2 l1 l0 ⊢
    refine r_aload_n (q122 (i := 23) rfl) l0 ?_
    refine r_cV (d := _) (q122 (i := 24) rfl) rfl rfl rfl (k_47 S) (Nat.le_of_ble_eq_true rfl) (Nat.zero_le _) (Nat.zero_le _) Rn ?_
    show Wp _ _ _ 43 ls [.int 0] h2 _ _
    refine r_if 65 (q122 (i := 25) rfl) (by decide) (fun _ => ?_) (fun zz => absurd (show (0 : Int32) = 0 from by decide) zz)
    refine r_iconst (v := 0) (q122 (i := 36) rfl) (by decide) ?_
    exact r_zret (q122 (i := 37) rfl) rfl (by decide) hQ
theorem LR_and {r : pres} {h : hp} {OK : hp → pst → Prop} {X : hp → Prop} {en : resP → Nat → Nat → Prop} {ex : hp → resP → Nat → Nat → Prop} (a : LRes r h OK en ex) (b : ∀ h', FrLn h h' → X h') : LRes r h (fun h s => OK h s ∧ X h) en ex := by
  unfold LRes at *
  cases r with
  | error e => exact a
  | ok s =>
    obtain ⟨h2, o2, F2, k2⟩ := a
    exact ⟨h2, ⟨o2, b h2 F2⟩, F2, k2⟩
theorem LR_ok {r : pres} {h : hp} {OK OK' : hp → pst → Prop} {en : resP → Nat → Nat → Prop} {ex : hp → resP → Nat → Nat → Prop} (a : LRes r h OK en ex) (b : ∀ h s, OK h s → OK' h s) : LRes r h OK' en ex := by
  unfold LRes at *
  cases r with
  | error e => exact a
  | ok s =>
    obtain ⟨h2, o2, F2, k2⟩ := a
    exact ⟨h2, b _ _ o2, F2, k2⟩
set_option maxHeartbeats 2000000 in
set_option maxRecDepth 10000 in
theorem lp_li {d : Nat} {B : Nat → Int32} {z n M O : Nat} (hn : n ≤ 12) : ∀ (m i : Nat) (s : pst) (h : hp), i + m = n → hI h 1075 1 = nI n → LSt h B z n M O 0 0 s → LRes (Fins B z (2 * M + 1) m i s) h (fun h s => LSt h B z n M O 0 0 s) (fun Q bc bs => ∀ ls : List (Nat × Value), ls.lookup 1 = some (.int (nI i)) → ls.lookup 0 = some (.ref 47) → Wp (Ex (d + 2)) 122 Q 24 ls [] h bc bs) (fun h Q bc bs => ∀ ls : List (Nat × Value), ls.lookup 0 = some (.ref 47) → Wp (Ex (d + 2)) 122 Q 73 ls [] h bc bs) := by
  intro m
  induction m with
  | zero =>
    intro i s h hm hI1 L
    have e : i = n := by omega
    subst e
    have S := L.1.1
    refine ⟨h, L, FrLn.rf h, fun Q bc bs kk ls l1 l0 => ?_⟩
    refine r_iload_n (q122 (i := 14) rfl) l1 ?_
    refine r_aload_n (q122 (i := 15) rfl) l0 ?_
    refine r_getR (b := 1075) (q122 (i := 16) rfl) rfl (by decide) (k_47 S) (fun _ _ _ => rfl) (r_47_30 S) ?_
    refine r_iconst (v := 1) (q122 (i := 17) rfl) (by decide) ?_
    refine r_iaload (x := nI i) (q122 (i := 18) rfl) (k_1075 S) (vp_in_nI (n := 1) (by decide) (by decide)) hI1 ?_
    refine r_icmp 73 (q122 (i := 19) rfl) (by decide) (fun _ => ?_) (fun zz => absurd (show nI i ≤ nI i from Int32.le_refl _) zz)
    exact kk ls l0
  | succ m ih =>
    intro i s h hm hI1 L
    refine LRes.bind (OK1 := fun h1 s => LSt h1 B z n M O 0 0 s ∧ hI h1 1075 1 = nI n) (mid := fun h Q bc bs => ∀ ls : List (Nat × Value), ls.lookup 1 = some (.int (nI i)) → ls.lookup 0 = some (.ref 47) → Wp (Ex (d + 2)) 122 Q 67 ls [] h bc bs) (LRes.bind (OK1 := fun h1 s => LSt h1 B z n M O 0 0 s ∧ hI h1 1075 1 = nI n) (LR_and (li_def hn (by omega) hI1 L) (fun h1 F => by rw [F.2.1 1075 (by decide) (by decide)]; exact hI1)) (fun s1 h1 o => LR_ok (li_is1 (i := i) o.1 (X := fun h1 => hI h1 1075 1 = nI n) (fun h' F _ => by rw [F.2.1 1075 (by decide)]; exact o.2)) (fun h s o => ⟨o.1, o.2.1⟩))) (fun s1 h1 o => ?_)
    refine LRes.en (ih (i + 1) s1 h1 (by omega) o.2 o.1) (fun Q bc bs y ls l1 l0 => ?_)
    · have S := o.1.1.1
      refine r_iinc (y := nI (i + 1)) (q122 (i := 38) rfl) (Nat.le_of_ble_eq_true rfl) l1 (nI_1 i) rfl ?_
      have l0 := lk1 (k := 1) (v := .int (nI (i + 1))) l0 (by decide) (Or.inl rfl)
      have l1 := lk0 ls 1 (.int (nI (i + 1)))
      generalize lset1 ls 1 (.int (nI (i + 1))) = ls at l1 l0 ⊢
      refine r_goto 24 (q122 (i := 39) rfl) (by decide) ?_
      exact y ls l1 l0
