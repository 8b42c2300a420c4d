/-! ===== the first place ===== -/
/-- the least k below m with f k; m if there is none -/
def lst (f : Nat → Bool) : Nat → Nat
  | 0 => 0
  | m + 1 => if lst f m < m then lst f m else if f m then m else m + 1
theorem lst_facts (f : Nat → Bool) : ∀ m, lst f m ≤ m ∧ (∀ k, k < lst f m → f k = false) ∧ (lst f m < m → f (lst f m) = true)
  | 0 => ⟨Nat.le_refl 0, fun k hk => absurd hk (Nat.not_lt_zero k), fun h => absurd h (Nat.not_lt_zero 0)⟩
  | m + 1 => by
    obtain ⟨a, b, c⟩ := lst_facts f m
    unfold lst
    by_cases h : lst f m < m
    · rw [if_pos h]
      exact ⟨by omega, b, fun _ => c h⟩
    · rw [if_neg h]
      have e : lst f m = m := by omega
      rw [e] at b
      by_cases q : f m = true
      · rw [if_pos q]
        exact ⟨by omega, b, fun _ => q⟩
      · rw [if_neg q]
        refine ⟨Nat.le_refl _, fun k hk => ?_, fun h => absurd h (Nat.lt_irrefl _)⟩
        by_cases z : k = m
        · rw [z]; simpa using q
        · exact b k (by omega)
theorem lst_is {f : Nat → Bool} {m x : Nat} (h1 : x < m) (h2 : ∀ k, k < x → f k = false) (h3 : f x = true) : lst f m = x := by
  obtain ⟨a, b, c⟩ := lst_facts f m
  rcases Nat.lt_trichotomy (lst f m) x with q | q | q
  · have := h2 _ q
    rw [c (by omega)] at this
    exact absurd this (by decide)
  · exact q
  · have := b x q
    rw [h3] at this
    exact absurd this (by decide)
theorem lst_no {f : Nat → Bool} {m : Nat} (h : ∀ k, k < m → f k = false) : lst f m = m := by
  obtain ⟨a, b, c⟩ := lst_facts f m
  by_cases q : lst f m < m
  · have := h _ q
    rw [c q] at this
    exact absurd this (by decide)
  · omega
def dif (T : Nat → Nat → Int64) (p q : Nat) (w : Nat) : Bool := lbit T p w != lbit T q w
/-- the least INPUT WORD below m that parts two LITERALS, or -1 -/
def apt (T : Nat → Nat → Int64) (p q m : Nat) : Int32 := if lst (dif T p q) m < m then nI (lst (dif T p q) m) else -1
theorem odd_part : ∀ n : Nat, 0 < n → ∃ b m, n = 2 ^ b * (2 * m + 1) := by
  intro n
  induction n using Nat.strongRecOn with
  | _ n ih =>
    intro h
    by_cases q : n % 2 = 1
    · exact ⟨0, n / 2, by omega⟩
    · obtain ⟨b, m, e⟩ := ih (n / 2) (by omega) (by omega)
      refine ⟨b + 1, m, ?_⟩
      rw [Nat.pow_succ, Nat.mul_assoc, Nat.mul_comm (2 ^ b), Nat.mul_assoc, Nat.mul_comm (2 * m + 1), ← e]
      omega
theorem low_and {b m j : Nat} (hj : 2 ^ b * (2 * m + 1) < 2 ^ j) : (2 ^ b * (2 * m + 1)) &&& (2 ^ j - 2 ^ b * (2 * m + 1)) = 2 ^ b := by
  have hp : 0 < 2 ^ b := Nat.two_pow_pos b
  have e1 : 2 ^ b * (2 * m + 1) = (2 ^ b * (2 * m) + (2 ^ b - 1)) + 1 := by rw [Nat.mul_add]; omega
  apply Nat.eq_of_testBit_eq
  intro i
  have t1 : (2 ^ b * (2 * m + 1)).testBit i = if i < b then false else (2 * m + 1).testBit (i - b) := by
    have := Nat.testBit_two_pow_mul_add (2 * m + 1) (b := 0) (i := b) hp i
    rw [Nat.add_zero] at this
    rw [this]
    split
    · exact Nat.zero_testBit i
    · rfl
  have t2 : (2 ^ b * (2 * m) + (2 ^ b - 1)).testBit i = if i < b then (2 ^ b - 1).testBit i else (2 * m).testBit (i - b) := Nat.testBit_two_pow_mul_add (2 * m) (by omega) i
  have t3 : (2 ^ j - 2 ^ b * (2 * m + 1)).testBit i = (decide (i < j) && !(2 ^ b * (2 * m) + (2 ^ b - 1)).testBit i) := by
    rw [e1]
    exact Nat.testBit_two_pow_sub_succ (by omega) i
  rw [Nat.testBit_and, t1, t3, t2, Nat.testBit_two_pow]
  by_cases q : i < b
  · rw [if_pos q, Bool.false_and]
    exact (decide_eq_false (by omega)).symm
  · rw [if_neg q, if_neg q]
    have hbj : b < j := by
      rcases Nat.lt_or_ge b j with z | z
      · exact z
      · have h1 : 2 ^ j ≤ 2 ^ b := Nat.pow_le_pow_right (by decide) z
        have h2 : 2 ^ b * 1 ≤ 2 ^ b * (2 * m + 1) := Nat.mul_le_mul_left _ (by omega)
        omega
    by_cases z : i = b
    · subst z
      rw [Nat.sub_self]
      simp [hbj]
    · obtain ⟨k, hk⟩ : ∃ k, i - b = k + 1 := ⟨i - b - 1, by omega⟩
      rw [hk, Nat.testBit_succ, Nat.testBit_succ, show (2 * m + 1) / 2 = m by omega, show 2 * m / 2 = m by omega, decide_eq_false (show ¬ b = i by omega)]
      cases m.testBit k <;> simp
theorem lowbit {x : Int64} (hx : x ≠ 0) : ∃ b, b < 64 ∧ b64 x b = true ∧ (∀ i, i < b → b64 x i = false) ∧ (x &&& -x) - 1 = lN (2 ^ b - 1) := by
  obtain ⟨n, hn, rfl⟩ := wb_of x
  have hn0 : 0 < n := Nat.pos_of_ne_zero (fun e => hx (by rw [e]; rfl))
  obtain ⟨b, m, e⟩ := odd_part n hn0
  have hp : 0 < 2 ^ b := Nat.two_pow_pos b
  have hb : b < 64 := by
    rcases Nat.lt_or_ge b 64 with z | z
    · exact z
    · have h1 : 2 ^ 64 ≤ 2 ^ b := Nat.pow_le_pow_right (by decide) z
      have h2 : 2 ^ b * 1 ≤ 2 ^ b * (2 * m + 1) := Nat.mul_le_mul_left _ (by omega)
      omega
  have t1 : ∀ i, n.testBit i = if i < b then false else (2 * m + 1).testBit (i - b) := fun i => by
    have := Nat.testBit_two_pow_mul_add (2 * m + 1) (b := 0) (i := b) hp i
    rw [Nat.add_zero, ← e] at this
    rw [this]
    split
    · exact Nat.zero_testBit i
    · rfl
  have en : -lN n = lN (2 ^ 64 - n) := by
    apply wb_inj
    rw [Int64.toBitVec_neg, wb_tb, wb_tb]
    apply BitVec.eq_of_toNat_eq
    rw [BitVec.toNat_neg, BitVec.toNat_ofNat, BitVec.toNat_ofNat, Nat.mod_eq_of_lt hn]
  refine ⟨b, hb, ?_, fun i hi => ?_, ?_⟩
  · rw [b64_lN, t1, if_neg (Nat.lt_irrefl b), Nat.sub_self, decide_eq_true hb]
    simp
  · rw [b64_lN, t1, if_pos hi, Bool.and_false]
  · rw [en, wb_and hn (by omega), show n &&& (2 ^ 64 - n) = 2 ^ b by rw [e]; exact low_and (by rw [← e]; exact hn)]
    exact lN_sub (a := 2 ^ b) (b := 1) hp
set_option maxHeartbeats 2000000 in
set_option maxRecDepth 10000 in
theorem lp_fwa {d : Nat} {h : hp} (S : Sh h) {ρ n rw : Nat} {γ : gs} (G : GC h ρ n rw γ) {p q : Nat} (hp : p < 2 * gC γ) (hq : q < 2 * gC γ) {Q : resP} (hQ : Q (some (.int (apt (gW γ) p q (64 * rw)))) h) {bc bs : Nat} : ∀ (k i : Nat), i + k = rw → (∀ w, w < 64 * i → dif (gW γ) p q w = false) → ∀ ls : List (Nat × Value), ls.lookup 3 = some (.int (nI i)) → ls.lookup 0 = some (.ref 21) → ls.lookup 1 = some (.int (nI p)) → ls.lookup 2 = some (.int (nI q)) → Wp (Ex (d + 1)) 43 Q 2 ls [] h bc bs := by
  have e7 := G.2.1.1
  have hr64 := G.1.2.2.1
  intro k
  induction k with
  | zero =>
    intro i hi hz ls l3 l0 l1 l2
    have e : i = rw := by omega
    subst e
    have hap : apt (gW γ) p q (64 * i) = -1 := by
      unfold apt
      rw [lst_no hz, if_neg (Nat.lt_irrefl _)]
    rw [hap] at hQ
    refine r_iload_n (q43 (i := 2) rfl) l3 ?_
    refine r_aload_n (q43 (i := 3) rfl) l0 ?_
    refine r_getI (x := nI i) (q43 (i := 4) rfl) rfl (by decide) (k_21 S) (fun _ _ _ => rfl) e7 ?_
    refine r_icmp 55 (q43 (i := 5) rfl) (by decide) (fun _ => ?_) (fun c => absurd (show nI i ≤ nI i from Int32.le_refl _) c)
    refine r_iconst (v := (-1)) (q43 (i := 34) rfl) (by decide) ?_
    exact r_iret (q43 (i := 35) rfl) rfl hQ
  | succ k ih =>
    intro i hi hz ls l3 l0 l1 l2
    have hdb : ∀ b, b < 64 → dif (gW γ) p q (64 * i + b) = b64 (lw (gW γ) p i ^^^ lw (gW γ) q i) b := fun b hb => by
      unfold dif lbit
      rw [show (64 * i + b) / 64 = i by omega, show (64 * i + b) % 64 = b by omega, b64_xor]
    refine r_iload_n (q43 (i := 2) rfl) l3 ?_
    refine r_aload_n (q43 (i := 3) rfl) l0 ?_
    refine r_getI (x := nI rw) (q43 (i := 4) rfl) rfl (by decide) (k_21 S) (fun _ _ _ => rfl) e7 ?_
    refine r_icmp 55 (q43 (i := 5) rfl) (by decide) (fun c => absurd c (show ¬ (nI rw ≤ nI i) from nI_ge (by omega) (by omega))) (fun _ => ?_)
    refine r_aload_n (q43 (i := 6) rfl) l0 ?_
    refine r_iload_n (q43 (i := 7) rfl) l1 ?_
    refine r_iload_n (q43 (i := 8) rfl) l3 ?_
    refine r_cV (d := _) (q43 (i := 9) rfl) rfl rfl rfl (k_21 S) (Nat.le_of_ble_eq_true rfl) (Nat.zero_le _) (Nat.zero_le _) (sp_wordOf S G hp (by omega)) ?_
    show Wp _ _ _ 16 ls [.long (lw (gW γ) p i)] h _ _
    refine r_aload_n (q43 (i := 10) rfl) l0 ?_
    refine r_iload_n (q43 (i := 11) rfl) l2 ?_
    refine r_iload_n (q43 (i := 12) rfl) l3 ?_
    refine r_cV (d := _) (q43 (i := 13) rfl) rfl rfl rfl (k_21 S) (Nat.le_of_ble_eq_true rfl) (Nat.zero_le _) (Nat.zero_le _) (sp_wordOf S G hq (by omega)) ?_
    show Wp _ _ _ 22 ls [.long (lw (gW γ) q i), .long (lw (gW γ) p i)] h _ _
    refine r_lxor (q43 (i := 14) rfl) ?_
    refine r_lstore (q43 (i := 15) rfl) (Nat.le_of_ble_eq_true rfl) rfl ?_
    have l3 := lk2 (k := 4) (v := .long ((lw (gW γ) p i) ^^^ (lw (gW γ) q i))) l3 (by decide) (by decide) (Or.inl rfl)
    have l0 := lk2 (k := 4) (v := .long ((lw (gW γ) p i) ^^^ (lw (gW γ) q i))) l0 (by decide) (by decide) (Or.inr (by decide))
    have l1 := lk2 (k := 4) (v := .long ((lw (gW γ) p i) ^^^ (lw (gW γ) q i))) l1 (by decide) (by decide) (Or.inr (by decide))
    have l2 := lk2 (k := 4) (v := .long ((lw (gW γ) p i) ^^^ (lw (gW γ) q i))) l2 (by decide) (by decide) (Or.inr (by decide))
    have l4 := lk00 ls 4 (.long ((lw (gW γ) p i) ^^^ (lw (gW γ) q i)))
    generalize lset2 ls 4 (.long ((lw (gW γ) p i) ^^^ (lw (gW γ) q i))) = ls at l4 l3 l0 l1 l2 ⊢
    refine r_lload (q43 (i := 16) rfl) l4 ?_
    refine r_lconst (v := 0) (q43 (i := 17) rfl) (by decide) ?_
    refine r_lcmp (q43 (i := 18) rfl) ?_
    refine r_if 49 (q43 (i := 19) rfl) (by decide) (fun c => ?_) (fun c => ?_)
    · have c : lg_cmp ((lw (gW γ) p i) ^^^ (lw (gW γ) q i)) 0 = 0 := c
      have c : lw (gW γ) p i ^^^ lw (gW γ) q i = 0 := (cmp0 _ _).mp c
      refine r_iinc (y := nI (i + 1)) (q43 (i := 32) rfl) (Nat.le_of_ble_eq_true rfl) l3 (nI_1 i) rfl ?_
      have l4 := lk1 (k := 3) (v := .int (nI (i + 1))) l4 (by decide) (Or.inr (by decide))
      have l0 := lk1 (k := 3) (v := .int (nI (i + 1))) l0 (by decide) (Or.inr (by decide))
      have l1 := lk1 (k := 3) (v := .int (nI (i + 1))) l1 (by decide) (Or.inr (by decide))
      have l2 := lk1 (k := 3) (v := .int (nI (i + 1))) l2 (by decide) (Or.inl rfl)
      have l3 := lk0 ls 3 (.int (nI (i + 1)))
      generalize lset1 ls 3 (.int (nI (i + 1))) = ls at l3 l4 l0 l1 l2 ⊢
      refine r_goto 2 (q43 (i := 33) rfl) (by decide) ?_
      exact ih (i + 1) (by omega) (fun w hw => by
        by_cases z : w < 64 * i
        · exact hz w z
        · rw [show w = 64 * i + (w - 64 * i) by omega, hdb _ (by omega), c, b64_0]) ls l3 l0 l1 l2
    · have c : ¬ (lg_cmp ((lw (gW γ) p i) ^^^ (lw (gW γ) q i)) 0 = 0) := c
      have c : lw (gW γ) p i ^^^ lw (gW γ) q i ≠ 0 := fun z => c (by rw [z]; rfl)
      obtain ⟨b, hb, hb1, hb2, hb3⟩ := lowbit c
      have hap : apt (gW γ) p q (64 * rw) = nI (i * 64 + b) := by
        have el : lst (dif (gW γ) p q) (64 * rw) = 64 * i + b := lst_is (by omega) (fun k hk => by
          by_cases z : k < 64 * i
          · exact hz k z
          · rw [show k = 64 * i + (k - 64 * i) by omega, hdb _ (by omega)]
            exact hb2 _ (by omega)) (by rw [hdb b hb]; exact hb1)
        unfold apt
        rw [el, if_pos (by omega), Nat.mul_comm]
      rw [hap] at hQ
      refine r_iload_n (q43 (i := 20) rfl) l3 ?_
      refine r_bipush (v := 64) (q43 (i := 21) rfl) (by decide) ?_
      refine r_imul (q43 (i := 22) rfl) ?_
      rw [show ((nI i) * 64 : Int32) = nI (i * 64) from pk_mul _ 64]
      refine r_lload (q43 (i := 23) rfl) l4 ?_
      refine r_lload (q43 (i := 24) rfl) l4 ?_
      refine r_lneg (q43 (i := 25) rfl) ?_
      refine r_land (q43 (i := 26) rfl) ?_
      refine r_lconst (v := 1) (q43 (i := 27) rfl) (by decide) ?_
      refine r_lsub (q43 (i := 28) rfl) ?_
      rw [show ((((lw (gW γ) p i) ^^^ (lw (gW γ) q i)) &&& (-((lw (gW γ) p i) ^^^ (lw (gW γ) q i)))) - 1 : Int64) = lN (2 ^ b - 1) from hb3]
      refine r_cS (d := _) (q43 (i := 29) rfl) rfl (Nat.le_of_ble_eq_true rfl) rfl rfl (Nat.le_of_ble_eq_true rfl) (Nat.zero_le _) (Nat.zero_le _) (sp_bitCount (lN (2 ^ b - 1))) ?_
      show Wp _ _ _ 47 ls [.int (bcnt (lN (2 ^ b - 1))), .int (nI (i * 64))] h _ _
      rw [bcnt_pow b hb]
      refine r_iadd (q43 (i := 30) rfl) ?_
      rw [show ((nI (i * 64)) + (nI b) : Int32) = nI (i * 64 + b) from nI_add _ _]
      exact r_iret (q43 (i := 31) rfl) rfl hQ
set_option maxHeartbeats 2000000 in
set_option maxRecDepth 10000 in
theorem sp_fwa {d : Nat} {h : hp} (S : Sh h) {ρ n rw : Nat} {γ : gs} (G : GC h ρ n rw γ) {p q : Nat} (hp : p < 2 * gC γ) (hq : q < 2 * gC γ) : Run (d + 1 + 1) 43 [.ref 21, .int (nI p), .int (nI q)] h 0 0 (some (.int (apt (gW γ) p q (64 * rw)))) h := by
  refine Run.of (Nat.le_of_ble_eq_true rfl) (fun Q hQ => ?_)
  show Wp (Ex (d + 1)) 43 Q 0 [(0, .ref 21), (1, .int (nI p)), (2, .int (nI q))] [] h 0 0
  refine r_iconst (v := 0) (q43 (i := 0) rfl) (by decide) ?_
  refine r_istore_n (ls' := [(3, .int 0), (0, .ref 21), (1, .int (nI p)), (2, .int (nI q))]) (q43 (i := 1) rfl) (Nat.le_of_ble_eq_true rfl) rfl ?_
  exact lp_fwa S G hp hq hQ rw 0 (by omega) (fun w hw => absurd hw (Nat.not_lt_zero w)) _ rfl rfl rfl rfl
