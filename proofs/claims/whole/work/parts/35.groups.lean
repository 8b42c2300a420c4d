/-! ===== GROUPS ===== -/
theorem xor_and (a b c v : Int64) : (a ^^^ c) &&& v = ((a ^^^ b) &&& v) ^^^ ((b ^^^ c) &&& v) := by
  apply b64_ext
  intro i _
  rw [b64_and, b64_xor, b64_xor, b64_and, b64_and, b64_xor, b64_xor]
  cases b64 a i <;> cases b64 b i <;> cases b64 c i <;> cases b64 v i <;> rfl
theorem xx0 (a : Int64) : a ^^^ a = 0 := by
  apply b64_ext
  intro i _
  rw [b64_xor, b64_0]
  cases b64 a i <;> rfl
theorem x0 (a : Int64) : a ^^^ 0 = a := by
  apply b64_ext
  intro i _
  rw [b64_xor, b64_0]
  cases b64 a i <;> rfl
theorem zx (a : Int64) : 0 ^^^ a = a := by
  apply b64_ext
  intro i _
  rw [b64_xor, b64_0]
  cases b64 a i <;> rfl
theorem dV_comm (T : Nat → Nat → Int64) (V : Nat → Int64) (x y w : Nat) : dV T V x y w = dV T V y x w := by
  unfold dV
  apply b64_ext
  intro i _
  rw [b64_and, b64_and, b64_xor, b64_xor]
  cases b64 (T x w) i <;> cases b64 (T y w) i <;> rfl
theorem dV_tr (T : Nat → Nat → Int64) (V : Nat → Int64) (x y z w : Nat) : dV T V x z w = dV T V x y w ^^^ dV T V y z w := xor_and _ _ _ _
theorem lik_comm (T : Nat → Nat → Int64) (V : Nat → Int64) (x y : Nat) : lik T V x y = lik T V y x := by
  have e : ∀ w, dV T V x y w = dV T V y x w := dV_comm T V x y
  unfold lik
  by_cases h1 : ∀ w, w < 64 → dV T V y x w = 0
  · rw [if_pos h1, if_pos (fun w hw => (e w).trans (h1 w hw))]
  · rw [if_neg h1, if_neg (fun q => h1 (fun w hw => (e w).symm.trans (q w hw)))]
    by_cases h2 : ∀ w, w < 64 → dV T V y x w = V w
    · rw [if_pos h2, if_pos (fun w hw => (e w).trans (h2 w hw))]
    · rw [if_neg h2, if_neg (fun q => h2 (fun w hw => (e w).symm.trans (q w hw)))]
theorem lik_ne (T : Nat → Nat → Int64) (V : Nat → Int64) (x y : Nat) : lik T V x y ≠ 0 ↔ (∀ w, w < 64 → dV T V x y w = 0) ∨ ∀ w, w < 64 → dV T V x y w = V w := by
  unfold lik
  by_cases h1 : ∀ w, w < 64 → dV T V x y w = 0
  · rw [if_pos h1]
    exact ⟨fun _ => Or.inl h1, fun _ => by decide⟩
  · rw [if_neg h1]
    by_cases h2 : ∀ w, w < 64 → dV T V x y w = V w
    · rw [if_pos h2]
      exact ⟨fun _ => Or.inr h2, fun _ => by decide⟩
    · rw [if_neg h2]
      exact ⟨fun z => absurd rfl z, fun z => by rcases z with z | z; exact absurd z h1; exact absurd z h2⟩
theorem lik_tr {T : Nat → Nat → Int64} {V : Nat → Int64} {x y z : Nat} (h1 : lik T V x y ≠ 0) (h2 : lik T V y z ≠ 0) : lik T V x z ≠ 0 := by
  rw [lik_ne] at h1 h2 ⊢
  rcases h1 with h1 | h1 <;> rcases h2 with h2 | h2
  · exact Or.inl (fun w hw => by rw [dV_tr T V x y z, h1 w hw, h2 w hw, xx0])
  · exact Or.inr (fun w hw => by rw [dV_tr T V x y z, h1 w hw, h2 w hw, zx])
  · exact Or.inr (fun w hw => by rw [dV_tr T V x y z, h1 w hw, h2 w hw, x0])
  · exact Or.inl (fun w hw => by rw [dV_tr T V x y z, h1 w hw, h2 w hw, xx0])
theorem lik_self (T : Nat → Nat → Int64) (V : Nat → Int64) (x : Nat) : lik T V x x = 1 := by
  unfold lik
  rw [if_pos (fun w _ => by
    unfold dV
    rw [xx0]
    apply b64_ext
    intro i _
    rw [b64_and, b64_0, Bool.false_and])]
/-- the least node of x's GROUP -/
noncomputable def ll (T : Nat → Nat → Int64) (V : Nat → Int64) (x : Nat) : Nat := lst (fun y => decide (lik T V y x ≠ 0)) x
noncomputable def lead (T : Nat → Nat → Int64) (V : Nat → Int64) (x : Nat) : Bool := decide (ll T V x = x)
def cntB (f : Nat → Bool) : Nat → Nat
  | 0 => 0
  | m + 1 => cntB f m + if f m then 1 else 0
theorem cntB_le (f : Nat → Bool) : ∀ m, cntB f m ≤ m
  | 0 => Nat.le_refl 0
  | m + 1 => by
    have := cntB_le f m
    unfold cntB
    split <;> omega
theorem cntB_mono (f : Nat → Bool) {a b : Nat} (h : a ≤ b) : cntB f a ≤ cntB f b := by
  induction b with
  | zero => rw [show a = 0 by omega]; exact Nat.le_refl _
  | succ b ih =>
    by_cases q : a = b + 1
    · rw [q]; exact Nat.le_refl _
    · have := ih (by omega)
      have e : cntB f (b + 1) = cntB f b + if f b then 1 else 0 := rfl
      omega
theorem cntB_lt {f : Nat → Bool} {a b : Nat} (h : a < b) (hf : f a = true) : cntB f a < cntB f b := by
  have e : cntB f (a + 1) = cntB f a + if f a then 1 else 0 := rfl
  rw [hf, if_pos rfl] at e
  have := cntB_mono f (show a + 1 ≤ b by omega)
  omega
theorem cntB_kth {f : Nat → Bool} {k : Nat} : ∀ {m : Nat}, k < cntB f m → ∃ i, i < m ∧ f i = true ∧ cntB f i = k
  | 0, h => absurd h (Nat.not_lt_zero k)
  | m + 1, h => by
    by_cases q : k < cntB f m
    · obtain ⟨i, a, b, c⟩ := cntB_kth q
      exact ⟨i, by omega, b, c⟩
    · have e : cntB f (m + 1) = cntB f m + if f m then 1 else 0 := rfl
      cases hf : f m
      · rw [hf] at e; simp at e; omega
      · rw [hf, if_pos rfl] at e
        exact ⟨m, by omega, hf, by omega⟩
theorem ll_le (T : Nat → Nat → Int64) (V : Nat → Int64) (x : Nat) : ll T V x ≤ x := (lst_facts _ x).1
theorem ll_lik (T : Nat → Nat → Int64) (V : Nat → Int64) (x : Nat) : lik T V (ll T V x) x ≠ 0 := by
  by_cases q : ll T V x < x
  · have := (lst_facts (fun y => decide (lik T V y x ≠ 0)) x).2.2 q
    exact of_decide_eq_true this
  · have e : ll T V x = x := by have := ll_le T V x; omega
    rw [e, lik_self]
    decide
theorem ll_min {T : Nat → Nat → Int64} {V : Nat → Int64} {x y : Nat} (h : y < ll T V x) : lik T V y x = 0 := by
  have := (lst_facts (fun y => decide (lik T V y x ≠ 0)) x).2.1 y h
  exact Classical.not_not.mp (of_decide_eq_false this)
theorem ll_lead (T : Nat → Nat → Int64) (V : Nat → Int64) (x : Nat) : lead T V (ll T V x) = true := by
  unfold lead
  apply decide_eq_true
  have h1 := ll_le T V (ll T V x)
  rcases Nat.lt_or_ge (ll T V (ll T V x)) (ll T V x) with q | q
  · exact absurd (ll_min q) (lik_tr (ll_lik T V (ll T V x)) (ll_lik T V x))
  · omega
/-- the leaders below m, as the class lists them -/
def LD (h : hp) (T : Nat → Nat → Int64) (V : Nat → Int64) (m : Nat) : Prop := hI h 27 2 = nI (cntB (lead T V) m) ∧ (∀ y, y < m → lead T V y = true → hI h 29 (cntB (lead T V) y) = nI y) ∧ ∀ y, y < m → hI h 28 y = nI (ll T V y)
set_option maxHeartbeats 2000000 in
set_option maxRecDepth 10000 in
theorem lp_leader {d : Nat} {h : hp} (S : Sh h) {ρ n rw u : Nat} {γ : gs} (G : GC h ρ n rw γ) (V : VS h rw u) {x : Nat} (hx : x < gC γ) (D : LD h (gW γ) (hJ h 19) x) {Q : resP} (hQ : Q (some (.int (nI (ll (gW γ) (hJ h 19) x)))) h) {bc bs : Nat} : ∀ (m k : Nat), k + m = cntB (lead (gW γ) (hJ h 19)) x → (∀ y, y < x → lead (gW γ) (hJ h 19) y = true → cntB (lead (gW γ) (hJ h 19)) y < k → lik (gW γ) (hJ h 19) y x = 0) → ∀ ls : List (Nat × Value), ls.lookup 4 = some (.int (nI k)) → ls.lookup 0 = some (.ref 27) → ls.lookup 1 = some (.int (nI x)) → ls.lookup 2 = some (.ref 21) → ls.lookup 3 = some (.ref 17) → Wp (Ex (d + 1)) 58 Q 3 ls [] h bc bs := by
  obtain ⟨d1, d2, d3⟩ := D
  have hc9 := G.2.1.2.2.2
  have hcl := cntB_le (lead (gW γ) (hJ h 19)) x
  intro m
  induction m with
  | zero =>
    intro k hk hz ls l4 l0 l1 l2 l3
    have e : k = cntB (lead (gW γ) (hJ h 19)) x := by omega
    have hll : ll (gW γ) (hJ h 19) x = x := by
      rcases Nat.lt_or_ge (ll (gW γ) (hJ h 19) x) x with q | q
      · exact absurd (hz _ q (ll_lead _ _ x) (by rw [e]; exact cntB_lt q (ll_lead _ _ x))) (ll_lik _ _ x)
      · have := ll_le (gW γ) (hJ h 19) x; omega
    rw [hll] at hQ
    rw [← e] at d1
    refine r_iload (q58 (i := 2) rfl) l4 ?_
    refine r_aload_n (q58 (i := 3) rfl) l0 ?_
    refine r_getI (x := nI k) (q58 (i := 4) rfl) rfl (by decide) (k_27 S) (fun _ _ _ => rfl) d1 ?_
    refine r_icmp 42 (q58 (i := 5) rfl) (by decide) (fun _ => ?_) (fun c => absurd (show nI k ≤ nI k from Int32.le_refl _) c)
    refine r_iload_n (q58 (i := 22) rfl) l1 ?_
    exact r_iret (q58 (i := 23) rfl) rfl hQ
  | succ m ih =>
    intro k hk hz ls l4 l0 l1 l2 l3
    obtain ⟨y, hy, hl, hcy⟩ := cntB_kth (f := lead (gW γ) (hJ h 19)) (k := k) (m := x) (by omega)
    have ey : hI h 29 k = nI y := by rw [← hcy]; exact d2 y hy hl
    refine r_iload (q58 (i := 2) rfl) l4 ?_
    refine r_aload_n (q58 (i := 3) rfl) l0 ?_
    refine r_getI (x := nI (cntB (lead (gW γ) (hJ h 19)) x)) (q58 (i := 4) rfl) rfl (by decide) (k_27 S) (fun _ _ _ => rfl) d1 ?_
    refine r_icmp 42 (q58 (i := 5) rfl) (by decide) (fun c => absurd c (show ¬ (nI (cntB (lead (gW γ) (hJ h 19)) x) ≤ nI k) from nI_ge (by omega) (by omega))) (fun _ => ?_)
    refine r_aload_n (q58 (i := 6) rfl) l2 ?_
    refine r_aload_n (q58 (i := 7) rfl) l0 ?_
    refine r_getR (b := 29) (q58 (i := 8) rfl) rfl (by decide) (k_27 S) (fun _ _ _ => rfl) (r_27_1 S) ?_
    refine r_iload (q58 (i := 9) rfl) l4 ?_
    refine r_iaN (x := nI y) (q58 (i := 10) rfl) (k_29 S) (by omega) (by decide) ey ?_
    refine r_iload_n (q58 (i := 11) rfl) l1 ?_
    refine r_aload_n (q58 (i := 12) rfl) l3 ?_
    refine r_cV (d := _) (q58 (i := 13) rfl) rfl rfl rfl (k_21 S) (Nat.le_of_ble_eq_true rfl) (Nat.zero_le _) (Nat.zero_le _) (sp_lik S G V (show y < gC γ by omega) hx) ?_
    show Wp _ _ _ 25 ls [.int (lik (gW γ) (hJ h 19) y x)] h _ _
    refine r_if 36 (q58 (i := 14) rfl) (by decide) (fun c => ?_) (fun c => ?_)
    · have c : lik (gW γ) (hJ h 19) y x = 0 := c
      refine r_iinc (y := nI (k + 1)) (q58 (i := 20) rfl) (Nat.le_of_ble_eq_true rfl) l4 (nI_1 k) rfl ?_
      have l0 := lk1 (k := 4) (v := .int (nI (k + 1))) l0 (by decide) (Or.inr (by decide))
      have l1 := lk1 (k := 4) (v := .int (nI (k + 1))) l1 (by decide) (Or.inr (by decide))
      have l2 := lk1 (k := 4) (v := .int (nI (k + 1))) l2 (by decide) (Or.inr (by decide))
      have l3 := lk1 (k := 4) (v := .int (nI (k + 1))) l3 (by decide) (Or.inl rfl)
      have l4 := lk0 ls 4 (.int (nI (k + 1)))
      generalize lset1 ls 4 (.int (nI (k + 1))) = ls at l4 l0 l1 l2 l3 ⊢
      refine r_goto 3 (q58 (i := 21) rfl) (by decide) ?_
      exact ih (k + 1) (by omega) (fun z h1 h2 h3 => by
        by_cases q : z = y
        · rw [q]; exact c
        · refine hz z h1 h2 ?_
          rcases Nat.lt_trichotomy z y with r | r | r
          · have := cntB_lt r h2; omega
          · exact absurd r q
          · have := cntB_lt r hl; omega) ls l4 l0 l1 l2 l3
    · have c : ¬ (lik (gW γ) (hJ h 19) y x = 0) := c
      have hll : ll (gW γ) (hJ h 19) x = y := lst_is hy (fun z hzy => by
        apply decide_eq_false
        intro hne
        have h1 : ll (gW γ) (hJ h 19) x ≤ z := by
          rcases Nat.lt_or_ge z (ll (gW γ) (hJ h 19) x) with q | q
          · exact absurd (ll_min q) hne
          · exact q
        exact absurd (hz _ (by omega) (ll_lead _ _ x) (by rw [← hcy]; exact cntB_lt (by omega) (ll_lead _ _ x))) (ll_lik _ _ x)) (decide_eq_true c)
      rw [hll] at hQ
      refine r_aload_n (q58 (i := 15) rfl) l0 ?_
      refine r_getR (b := 29) (q58 (i := 16) rfl) rfl (by decide) (k_27 S) (fun _ _ _ => rfl) (r_27_1 S) ?_
      refine r_iload (q58 (i := 17) rfl) l4 ?_
      refine r_iaN (x := nI y) (q58 (i := 18) rfl) (k_29 S) (by omega) (by decide) ey ?_
      exact r_iret (q58 (i := 19) rfl) rfl hQ
set_option maxHeartbeats 2000000 in
set_option maxRecDepth 10000 in
theorem sp_leaderOf {d : Nat} {h : hp} (S : Sh h) {ρ n rw u : Nat} {γ : gs} (G : GC h ρ n rw γ) (V : VS h rw u) {x : Nat} (hx : x < gC γ) (D : LD h (gW γ) (hJ h 19) x) : Run (d + 1 + 1) 58 [.ref 27, .int (nI x), .ref 21, .ref 17] h 0 0 (some (.int (nI (ll (gW γ) (hJ h 19) x)))) h := by
  refine Run.of (Nat.le_of_ble_eq_true rfl) (fun Q hQ => ?_)
  show Wp (Ex (d + 1)) 58 Q 0 [(0, .ref 27), (1, .int (nI x)), (2, .ref 21), (3, .ref 17)] [] h 0 0
  refine r_iconst (v := 0) (q58 (i := 0) rfl) (by decide) ?_
  refine r_istore (ls' := [(4, .int 0), (0, .ref 27), (1, .int (nI x)), (2, .ref 21), (3, .ref 17)]) (q58 (i := 1) rfl) (Nat.le_of_ble_eq_true rfl) rfl ?_
  exact lp_leader S G V hx D hQ (cntB (lead (gW γ) (hJ h 19)) x) 0 (by omega) (fun y _ _ hz => absurd hz (Nat.not_lt_zero _)) _ rfl rfl rfl rfl rfl
/-- what Groups.find changes -/
def FrGr (h h' : hp) : Prop := h'.2 = h.2 ∧ ∀ k, k < 27 ∨ 29 < k → hI h' k = hI h k
theorem FrGr.tr {h h' h'' : hp} (a : FrGr h h') (b : FrGr h' h'') : FrGr h h'' := ⟨b.1.trans a.1, fun k hk => (b.2 k hk).trans (a.2 k hk)⟩
theorem FrGr.G {h h' : hp} (F : FrGr h h') {ρ n rw : Nat} {γ : gs} (G : GC h ρ n rw γ) : GC h' ρ n rw γ := by
  obtain ⟨h2, hi⟩ := F
  unfold GC Rw hR hK hJ at *
  rw [h2, hi 21 (by decide), hi 22 (by decide), hi 23 (by decide), hi 24 (by decide), hi 25 (by decide)]
  exact G
theorem FrGr.V {h h' : hp} (F : FrGr h h') {rw u : Nat} (V : VS h rw u) : VS h' rw u := by
  obtain ⟨h2, hi⟩ := F
  unfold VS hJ at *
  rw [h2, hi 17 (by decide), hi 20 (by decide)]
  exact V
theorem FrGr.S {h h' : hp} (F : FrGr h h') (S : Sh h) : Sh h' := S.to (by rw [F.1])
set_option maxHeartbeats 2000000 in
set_option maxRecDepth 10000 in
theorem lp_find {d : Nat} {ρ n rw u : Nat} {γ : gs} : ∀ (m x : Nat) (h : hp), x + m = gC γ → Sh h → GC h ρ n rw γ → VS h rw u → LD h (gW γ) (hJ h 19) x → ∃ h', LD h' (gW γ) (hJ h 19) (gC γ) ∧ FrGr h h' ∧ ∀ (Q : resP), Q none h' → ∀ (bc bs : Nat) (ls : List (Nat × Value)), ls.lookup 3 = some (.int (nI x)) → ls.lookup 0 = some (.ref 27) → ls.lookup 1 = some (.ref 21) → ls.lookup 2 = some (.ref 17) → Wp (Ex (d + 2)) 57 Q 7 ls [] h bc bs := by
  intro m
  induction m with
  | zero =>
    intro x h hm S G V D
    have e : x = gC γ := by omega
    subst e
    refine ⟨h, D, ⟨rfl, fun _ _ => rfl⟩, ?_⟩
    intro Q hQ bc bs ls l3 l0 l1 l2
    have e9 := G.2.1.2.2.1
    refine r_iload_n (q57 (i := 5) rfl) l3 ?_
    refine r_aload_n (q57 (i := 6) rfl) l1 ?_
    refine r_getI (x := nI (gC γ)) (q57 (i := 7) rfl) rfl (by decide) (k_21 S) (fun _ _ _ => rfl) e9 ?_
    refine r_icmp 64 (q57 (i := 8) rfl) (by decide) (fun _ => ?_) (fun c => absurd (show nI (gC γ) ≤ nI (gC γ) from Int32.le_refl _) c)
    exact r_vret (q57 (i := 38) rfl) rfl hQ
  | succ m ih =>
    intro x h hm S G V D
    have e9 := G.2.1.2.2.1
    have hc9 := G.2.1.2.2.2
    have R1 := sp_leaderOf (d := d) S G V (show x < gC γ by omega) D
    obtain ⟨d1, d2, d3⟩ := D
    have hcl := cntB_le (lead (gW γ) (hJ h 19)) x
    have ec : cntB (lead (gW γ) (hJ h 19)) (x + 1) = cntB (lead (gW γ) (hJ h 19)) x + if lead (gW γ) (hJ h 19) x then 1 else 0 := rfl
    by_cases hL : ll (gW γ) (hJ h 19) x = x
    · have hl : lead (gW γ) (hJ h 19) x = true := decide_eq_true hL
      rw [hl, if_pos rfl] at ec
      obtain ⟨hx, hxe⟩ : ∃ hx, hx = sI (sI (sI h 28 x (nI (ll (gW γ) (hJ h 19) x))) 29 (cntB (lead (gW γ) (hJ h 19)) x) (nI x)) 27 2 (nI (cntB (lead (gW γ) (hJ h 19)) x + 1)) := ⟨_, rfl⟩
      have Fx : FrGr h hx := by
        rw [hxe]
        refine ⟨rfl, fun k hk => ?_⟩
        show u2 (u2 (u2 h.1 28 _ _) 29 _ _) 27 _ _ k = _
        rw [u2_n (by omega), u2_n (by omega), u2_n (by omega)]
      have Dx : LD hx (gW γ) (hJ h 19) (x + 1) := by
        rw [hxe]
        refine ⟨by rw [ec]; rfl, fun y hy hl2 => ?_, fun y hy => ?_⟩
        · show u1 (hI h 29) (cntB (lead (gW γ) (hJ h 19)) x) (nI x) (cntB (lead (gW γ) (hJ h 19)) y) = nI y
          by_cases q : y = x
          · rw [q, u1_s]
          · rw [u1_n (Nat.ne_of_lt (cntB_lt (by omega) hl2))]
            exact d2 y (by omega) hl2
        · show u1 (hI h 28) x (nI (ll (gW γ) (hJ h 19) x)) y = _
          by_cases q : y = x
          · rw [q, u1_s]
          · rw [u1_n q]
            exact d3 y (by omega)
      have ej : hJ hx 19 = hJ h 19 := by unfold hJ; rw [Fx.1]
      rw [← ej] at Dx
      obtain ⟨h', D', F', hk⟩ := ih (x + 1) hx (by omega) (Fx.S S) (Fx.G G) (Fx.V V) Dx
      rw [ej] at D'
      refine ⟨h', D', Fx.tr F', ?_⟩
      intro Q hQ bc bs ls l3 l0 l1 l2
      refine r_iload_n (q57 (i := 5) rfl) l3 ?_
      refine r_aload_n (q57 (i := 6) rfl) l1 ?_
      refine r_getI (x := nI (gC γ)) (q57 (i := 7) rfl) rfl (by decide) (k_21 S) (fun _ _ _ => rfl) e9 ?_
      refine r_icmp 64 (q57 (i := 8) rfl) (by decide) (fun c => absurd c (show ¬ (nI (gC γ) ≤ nI x) from nI_ge (by omega) (by omega))) (fun _ => ?_)
      refine r_aload_n (q57 (i := 9) rfl) l0 ?_
      refine r_getR (b := 28) (q57 (i := 10) rfl) rfl (by decide) (k_27 S) (fun _ _ _ => rfl) (r_27_0 S) ?_
      refine r_iload_n (q57 (i := 11) rfl) l3 ?_
      refine r_aload_n (q57 (i := 12) rfl) l0 ?_
      refine r_iload_n (q57 (i := 13) rfl) l3 ?_
      refine r_aload_n (q57 (i := 14) rfl) l1 ?_
      refine r_aload_n (q57 (i := 15) rfl) l2 ?_
      refine r_cV (d := _) (q57 (i := 16) rfl) rfl rfl rfl (k_27 S) (Nat.le_of_ble_eq_true rfl) (Nat.zero_le _) (Nat.zero_le _) R1 ?_
      show Wp _ _ _ 27 ls [.int (nI (ll (gW γ) (hJ h 19) x)), .int (nI x), .ref 28] h _ _
      refine r_iasN (q57 (i := 17) rfl) (k_28 S) (by omega) (by decide) ?_
      refine r_aload_n (q57 (i := 18) rfl) l0 ?_
      refine r_getR (b := 28) (q57 (i := 19) rfl) rfl (by decide) (k_27 S) (fun _ _ _ => rfl) (r_27_0 S) ?_
      refine r_iload_n (q57 (i := 20) rfl) l3 ?_
      refine r_iaN (x := nI (ll (gW γ) (hJ h 19) x)) (q57 (i := 21) rfl) (k_28 S) (by omega) (by decide) u1_s ?_
      refine r_iload_n (q57 (i := 22) rfl) l3 ?_
      refine r_icmp 58 (q57 (i := 23) rfl) (by decide) (fun c => absurd c (show ¬ (¬ nI (ll (gW γ) (hJ h 19) x) = nI x) from fun z => z (by rw [hL]))) (fun _ => ?_)
      refine r_aload_n (q57 (i := 24) rfl) l0 ?_
      refine r_getR (b := 29) (q57 (i := 25) rfl) rfl (by decide) (k_27 S) (fun _ _ _ => rfl) (r_27_1 S) ?_
      refine r_aload_n (q57 (i := 26) rfl) l0 ?_
      refine r_getI (x := nI (cntB (lead (gW γ) (hJ h 19)) x)) (q57 (i := 27) rfl) rfl (by decide) (k_27 S) (fun _ _ _ => rfl) d1 ?_
      refine r_iload_n (q57 (i := 28) rfl) l3 ?_
      refine r_iasN (q57 (i := 29) rfl) (k_29 S) (by omega) (by decide) ?_
      refine r_aload_n (q57 (i := 30) rfl) l0 ?_
      refine r_dup (q57 (i := 31) rfl) rfl ?_
      refine r_getI (x := nI (cntB (lead (gW γ) (hJ h 19)) x)) (q57 (i := 32) rfl) rfl (by decide) (k_27 S) (fun _ _ _ => rfl) d1 ?_
      refine r_iconst (v := 1) (q57 (i := 33) rfl) (by decide) ?_
      refine r_iadd (q57 (i := 34) rfl) ?_
      rw [show ((nI (cntB (lead (gW γ) (hJ h 19)) x)) + 1 : Int32) = nI (cntB (lead (gW γ) (hJ h 19)) x + 1) from nI_1 _]
      refine r_putI (q57 (i := 35) rfl) rfl (by decide) (k_27 S) rfl rfl ?_
      refine r_iinc (y := nI (x + 1)) (q57 (i := 36) rfl) (Nat.le_of_ble_eq_true rfl) l3 (nI_1 x) rfl ?_
      have l0 := lk1 (k := 3) (v := .int (nI (x + 1))) l0 (by decide) (Or.inr (by decide))
      have l1 := lk1 (k := 3) (v := .int (nI (x + 1))) l1 (by decide) (Or.inr (by decide))
      have l2 := lk1 (k := 3) (v := .int (nI (x + 1))) l2 (by decide) (Or.inl rfl)
      have l3 := lk0 ls 3 (.int (nI (x + 1)))
      generalize lset1 ls 3 (.int (nI (x + 1))) = ls at l3 l0 l1 l2 ⊢
      refine r_goto 7 (q57 (i := 37) rfl) (by decide) ?_
      rw [← hxe]
      exact hk Q hQ bc bs ls l3 l0 l1 l2
    · have hl : lead (gW γ) (hJ h 19) x = false := decide_eq_false hL
      rw [hl] at ec
      have ec : cntB (lead (gW γ) (hJ h 19)) (x + 1) = cntB (lead (gW γ) (hJ h 19)) x := ec
      obtain ⟨hx, hxe⟩ : ∃ hx, hx = sI h 28 x (nI (ll (gW γ) (hJ h 19) x)) := ⟨_, rfl⟩
      have Fx : FrGr h hx := by
        rw [hxe]
        refine ⟨rfl, fun k hk => ?_⟩
        show u2 h.1 28 _ _ k = _
        rw [u2_n (by omega)]
      have Dx : LD hx (gW γ) (hJ h 19) (x + 1) := by
        rw [hxe]
        refine ⟨by rw [ec]; exact d1, fun y hy hl2 => ?_, fun y hy => ?_⟩
        · by_cases q : y = x
          · rw [q, hl] at hl2; exact absurd hl2 (by decide)
          · exact d2 y (by omega) hl2
        · show u1 (hI h 28) x (nI (ll (gW γ) (hJ h 19) x)) y = _
          by_cases q : y = x
          · rw [q, u1_s]
          · rw [u1_n q]
            exact d3 y (by omega)
      have ej : hJ hx 19 = hJ h 19 := by unfold hJ; rw [Fx.1]
      rw [← ej] at Dx
      obtain ⟨h', D', F', hk⟩ := ih (x + 1) hx (by omega) (Fx.S S) (Fx.G G) (Fx.V V) Dx
      rw [ej] at D'
      refine ⟨h', D', Fx.tr F', ?_⟩
      intro Q hQ bc bs ls l3 l0 l1 l2
      refine r_iload_n (q57 (i := 5) rfl) l3 ?_
      refine r_aload_n (q57 (i := 6) rfl) l1 ?_
      refine r_getI (x := nI (gC γ)) (q57 (i := 7) rfl) rfl (by decide) (k_21 S) (fun _ _ _ => rfl) e9 ?_
      refine r_icmp 64 (q57 (i := 8) rfl) (by decide) (fun c => absurd c (show ¬ (nI (gC γ) ≤ nI x) from nI_ge (by omega) (by omega))) (fun _ => ?_)
      refine r_aload_n (q57 (i := 9) rfl) l0 ?_
      refine r_getR (b := 28) (q57 (i := 10) rfl) rfl (by decide) (k_27 S) (fun _ _ _ => rfl) (r_27_0 S) ?_
      refine r_iload_n (q57 (i := 11) rfl) l3 ?_
      refine r_aload_n (q57 (i := 12) rfl) l0 ?_
      refine r_iload_n (q57 (i := 13) rfl) l3 ?_
      refine r_aload_n (q57 (i := 14) rfl) l1 ?_
      refine r_aload_n (q57 (i := 15) rfl) l2 ?_
      refine r_cV (d := _) (q57 (i := 16) rfl) rfl rfl rfl (k_27 S) (Nat.le_of_ble_eq_true rfl) (Nat.zero_le _) (Nat.zero_le _) R1 ?_
      show Wp _ _ _ 27 ls [.int (nI (ll (gW γ) (hJ h 19) x)), .int (nI x), .ref 28] h _ _
      refine r_iasN (q57 (i := 17) rfl) (k_28 S) (by omega) (by decide) ?_
      refine r_aload_n (q57 (i := 18) rfl) l0 ?_
      refine r_getR (b := 28) (q57 (i := 19) rfl) rfl (by decide) (k_27 S) (fun _ _ _ => rfl) (r_27_0 S) ?_
      refine r_iload_n (q57 (i := 20) rfl) l3 ?_
      refine r_iaN (x := nI (ll (gW γ) (hJ h 19) x)) (q57 (i := 21) rfl) (k_28 S) (by omega) (by decide) u1_s ?_
      refine r_iload_n (q57 (i := 22) rfl) l3 ?_
      refine r_icmp 58 (q57 (i := 23) rfl) (by decide) (fun _ => ?_) (fun c => absurd (show ¬ nI (ll (gW γ) (hJ h 19) x) = nI x from neN (by have := ll_le (gW γ) (hJ h 19) x; omega) (by omega) hL) c)
      refine r_iinc (y := nI (x + 1)) (q57 (i := 36) rfl) (Nat.le_of_ble_eq_true rfl) l3 (nI_1 x) rfl ?_
      have l0 := lk1 (k := 3) (v := .int (nI (x + 1))) l0 (by decide) (Or.inr (by decide))
      have l1 := lk1 (k := 3) (v := .int (nI (x + 1))) l1 (by decide) (Or.inr (by decide))
      have l2 := lk1 (k := 3) (v := .int (nI (x + 1))) l2 (by decide) (Or.inl rfl)
      have l3 := lk0 ls 3 (.int (nI (x + 1)))
      generalize lset1 ls 3 (.int (nI (x + 1))) = ls at l3 l0 l1 l2 ⊢
      refine r_goto 7 (q57 (i := 37) rfl) (by decide) ?_
      rw [← hxe]
      exact hk Q hQ bc bs ls l3 l0 l1 l2
set_option maxHeartbeats 2000000 in
set_option maxRecDepth 10000 in
theorem sp_find {d : Nat} {h : hp} (S : Sh h) {ρ n rw u : Nat} {γ : gs} (G : GC h ρ n rw γ) (V : VS h rw u) : ∃ h', Run (d + 2 + 1) 57 [.ref 27, .ref 21, .ref 17] h 0 0 none h' ∧ LD h' (gW γ) (hJ h 19) (gC γ) ∧ FrGr h h' := by
  have F0 : FrGr h (sI h 27 2 0) := ⟨rfl, fun k hk => by show u2 h.1 27 _ _ k = _; rw [u2_n (by omega)]⟩
  obtain ⟨h', D', F', hk⟩ := lp_find (d := d) (γ := γ) (gC γ) 0 (sI h 27 2 0) (by omega) (F0.S S) (F0.G G) (F0.V V) ⟨rfl, fun y hy => absurd hy (Nat.not_lt_zero y), fun y hy => absurd hy (Nat.not_lt_zero y)⟩
  refine ⟨h', ?_, D', F0.tr F'⟩
  refine Run.of (Nat.le_of_ble_eq_true rfl) (fun Q hQ => ?_)
  show Wp (Ex (d + 2)) 57 Q 0 [(0, .ref 27), (1, .ref 21), (2, .ref 17)] [] h 0 0
  refine r_aload_n (q57 (i := 0) rfl) rfl ?_
  refine r_iconst (v := 0) (q57 (i := 1) rfl) (by decide) ?_
  refine r_putI (q57 (i := 2) rfl) rfl (by decide) (k_27 S) rfl rfl ?_
  refine r_iconst (v := 0) (q57 (i := 3) rfl) (by decide) ?_
  refine r_istore_n (ls' := [(3, .int 0), (0, .ref 27), (1, .ref 21), (2, .ref 17)]) (q57 (i := 4) rfl) (Nat.le_of_ble_eq_true rfl) rfl ?_
  exact hk Q hQ _ _ _ rfl rfl rfl rfl
