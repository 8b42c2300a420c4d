/-! ===== rows repeat themselves ===== -/
def gper (n : Nat) (γ : gs) : Prop := ∀ x, x < gC γ → ∀ w i, i < 64 → b64 (gW γ x w) i = b64 (gW γ x w) (i % 2 ^ n)
theorem pats_bit : ∀ j, j < 6 → ∀ n, n < 6 → j < n → ∀ i, i < 64 → b64 (pats j) i = b64 (pats j) (i % 2 ^ n) := by decide +kernel
theorem mod_64 {n i : Nat} (hn : 6 ≤ n) (hi : i < 64) : i % 2 ^ n = i := by
  have := pow_le (a := 6) (b := n) hn
  exact Nat.mod_eq_of_lt (by omega)
theorem gper_ini {n : Nat} : gper n (gini (n + 1)) := by
  intro x hx w i hi
  by_cases h6 : 6 ≤ n
  · rw [mod_64 h6 hi]
  · have hx : x < n + 1 := hx
    show b64 (T0 x w) i = b64 (T0 x w) (i % 2 ^ n)
    unfold T0
    by_cases q : x = 0
    · rw [if_pos q, b64_0, b64_0]
    · rw [if_neg q]
      unfold tin
      rw [if_pos (by omega)]
      exact pats_bit (x - 1) (by omega) n (by omega) (by omega) i hi
theorem gper_lw {n : Nat} {γ : gs} (P : gper n γ) {p : Nat} (hp : p < 2 * gC γ) (w : Nat) {i : Nat} (hi : i < 64) : b64 (lw (gW γ) p w) i = b64 (lw (gW γ) p w) (i % 2 ^ n) := by
  have h1 := P (p / 2) (by omega) w i hi
  have hm : i % 2 ^ n < 64 := Nat.lt_of_le_of_lt (Nat.mod_le _ _) hi
  unfold lw
  split
  · exact h1
  · rw [b64_not _ hi, b64_not _ hm, h1]
theorem gper_push {n : Nat} {γ : gs} (P : gper n γ) {l r : Nat} (hl : l < 2 * gC γ) (hr : r < 2 * gC γ) : gper n (gpush γ l r) := by
  intro x hx w i hi
  have hx : x < gC γ + 1 := hx
  show b64 (u1 (gW γ) (gC γ) (fun w => lw (gW γ) l w &&& lw (gW γ) r w) x w) i = b64 (u1 (gW γ) (gC γ) (fun w => lw (gW γ) l w &&& lw (gW γ) r w) x w) (i % 2 ^ n)
  by_cases q : x = gC γ
  · rw [q, u1_s]
    show b64 (lw (gW γ) l w &&& lw (gW γ) r w) i = b64 (lw (gW γ) l w &&& lw (gW γ) r w) (i % 2 ^ n)
    rw [b64_and, b64_and, gper_lw P hl w hi, gper_lw P hr w hi]
  · rw [u1_n q]
    exact P x (by omega) w i hi
theorem gper_new {n : Nat} {γ : gs} (P : gper n γ) {l r : Nat} (hl : l < 2 * gC γ) (hr : r < 2 * gC γ) : gper n (gnew n γ l r).2 := by
  unfold gnew
  split
  · exact gper_push P hl hr
  · exact P
theorem gper_and {n : Nat} {γ : gs} (P : gper n γ) {p q : Nat} (hp : p < 2 * gC γ) (hq : q < 2 * gC γ) : gper n (gand n γ p q).2 := by
  unfold gand
  split
  · exact P
  · split
    · exact P
    · split
      · exact P
      · split
        · exact gper_new P hp hq
        · exact gper_new P hq hp
theorem gper_choice {n : Nat} {γ : gs} (W : gwf n γ) (P : gper n γ) {a b c : Nat} (ha : a < 2 * gC γ) (hb : b < 2 * gC γ) (hc : c < 2 * gC γ) : gper n (gchoice n γ a b c).2 := by
  have k1 := gok_and W ha hb
  have k2 := gok_and k1.1 (show a ^^^ 1 < 2 * gC (gand n γ a b).2 from xor1_lt (by have := k1.2.2.1; omega)) (show c < 2 * gC (gand n γ a b).2 by have := k1.2.2.1; omega)
  exact gper_and (gper_and (gper_and P ha hb) (xor1_lt (by have := k1.2.2.1; omega)) (by have := k1.2.2.1; omega)) (xor1_lt (by have := k1.2.1; have := k2.2.2.1; omega)) (xor1_lt k2.2.1)
theorem gper_maj {n : Nat} {γ : gs} (h : gwf n γ) (P : gper n γ) {a b c : Nat} (ha : a < 2 * gC γ) (hb : b < 2 * gC γ) (hc : c < 2 * gC γ) : gper n (gmaj n γ a b c).2 := by
  unfold gmaj
  dsimp only
  obtain ⟨w1, l1, u1, v1⟩ := gok_and h ha hb
  have p1 := gper_and P ha hb
  generalize gand n γ a b = r1 at *
  obtain ⟨w2, l2, u2, v2⟩ := gok_and (n := n) (γ := r1.2) (p := a ^^^ 1) (q := b ^^^ 1) w1 (by have := xor1_lt ha; omega) (by have := xor1_lt hb; omega)
  have p2 := gper_and (n := n) (γ := r1.2) (p := a ^^^ 1) (q := b ^^^ 1) p1 (by have := xor1_lt ha; omega) (by have := xor1_lt hb; omega)
  generalize gand n r1.2 (a ^^^ 1) (b ^^^ 1) = r2 at *
  obtain ⟨w3, l3, u3, v3⟩ := gok_and (n := n) (γ := r2.2) (p := c) (q := r2.1 ^^^ 1) w2 (by omega) (xor1_lt l2)
  have p3 := gper_and (n := n) (γ := r2.2) (p := c) (q := r2.1 ^^^ 1) p2 (by omega) (xor1_lt l2)
  generalize gand n r2.2 c (r2.1 ^^^ 1) = r3 at *
  exact gper_and (n := n) (γ := r3.2) (p := r1.1 ^^^ 1) (q := r3.1 ^^^ 1) p3 (by have := xor1_lt l1; omega) (xor1_lt l3)
theorem gper_kind {n : Nat} {γ : gs} (kd : Nat) {a b c : Nat} (h : gwf n γ) (P : gper n γ) (ha : a < 2 * gC γ) (hb : b < 2 * gC γ) (hc : c < 2 * gC γ) : gper n (gkind n γ kd a b c).2 := by
  unfold gkind
  split
  · exact gper_and P ha hb
  · split
    · exact gper_and P (xor1_lt ha) (xor1_lt hb)
    · split
      · exact gper_choice h P ha (xor1_lt hb) hb
      · split
        · exact gper_and P ha hb
        · split
          · exact gper_and P (xor1_lt ha) (xor1_lt hb)
          · split
            · exact gper_choice h P ha (xor1_lt hb) hb
            · split
              · exact gper_choice h P ha hb hc
              · split
                · exact gper_maj h P ha hb hc
                · exact P
theorem gper_op {n g : Nat} {c : cir} {st : gs × (Nat → Nat)} (M : gmade n g st) (P : gper n st.1) (K : cok n c g) (hg : n + g < 2 ^ 31) : gper n (gop n c st g).2 := by
  have h0 : 0 < 2 * gC st.1 := by have := M.1.1; omega
  unfold gop
  refine gper_kind _ M.1 P ?_ ?_ ?_
  · split
    · exact h0
    · next q => exact sd_lt M hg (K.2.1 q).1
  · split
    · exact h0
    · next q => exact sd_lt M hg (K.2.1 q).2
  · split
    · next q => exact sd_lt M hg (K.2.2 q)
    · exact h0
theorem gper_mk {n : Nat} {c : cir} {st : gs × (Nat → Nat)} (M : gmade n 0 st) (P : gper n st.1) (hn : n ≤ 12) : ∀ f, f ≤ 120 → (∀ g, g < f → cok n c g) → gper n (gmk n c st f).1
  | 0, _, _ => P
  | f + 1, hf, K => gper_op (gmk_ok M hn f (by omega) (fun g hg => K g (by omega))).1 (gper_mk M P hn f (by omega) (fun g hg => K g (by omega))) (K f (by omega)) (by omega)
theorem gper_A {n : Nat} {c0 : cir} (hn : n ≤ 12) {f : Nat} (hf : f ≤ 120) (K : ∀ g, g < f → cok n c0 g) : gper n (gA n c0 f).1 := gper_mk (st := (gini (n + 1), fun _ => 0)) ⟨gini_wf n, fun i hi => absurd hi (Nat.not_lt_zero i)⟩ gper_ini hn f hf K
theorem gper_B {n : Nat} {c0 c1 : cir} (hn : n ≤ 12) {f s : Nat} (hf : f ≤ 120) (hs : s ≤ 120) (K : ∀ g, g < f → cok n c0 g) (K1 : ∀ g, g < s → cok n c1 g) : gper n (gB n c0 c1 f s).1 := gper_mk (st := ((gA n c0 f).1, fun _ => 0)) ⟨(gA_ok hn hf K).1.1, fun i hi => absurd hi (Nat.not_lt_zero i)⟩ (gper_A hn hf K) hn s hs K1
theorem lbit_per {n : Nat} (hn : n < 6) {γ : gs} (P : gper n γ) {p w : Nat} (hp : p < 2 * gC γ) (hw : w < 64) : lbit (gW γ) p w = lbit (gW γ) p (w % 2 ^ n) := by
  have hm : w % 2 ^ n ≤ w := Nat.mod_le _ _
  unfold lbit
  rw [show w / 64 = 0 by omega, show w % 2 ^ n / 64 = 0 by omega, Nat.mod_eq_of_lt hw, Nat.mod_eq_of_lt (show w % 2 ^ n < 64 by omega)]
  exact gper_lw P hp 0 hw
/-- the first word apart, sought among as many words as there are -/
theorem apt_per {n : Nat} {γ : gs} (P : gper n γ) {p q : Nat} (hp : p < 2 * gC γ) (hq : q < 2 * gC γ) : apt (gW γ) p q (64 * 2 ^ (n - 6)) = apt (gW γ) p q (2 ^ n) := by
  by_cases h6 : 6 ≤ n
  · have e : 64 * 2 ^ (n - 6) = 2 ^ n := by
      rw [wb_pw h6]
    rw [e]
  · have e : 64 * 2 ^ (n - 6) = 64 := by rw [show n - 6 = 0 by omega]
    have h2 : 2 ^ n ≤ 32 := by
      have := pow_le (a := n) (b := 5) (by omega)
      omega
    have h1 : 0 < 2 ^ n := Nat.two_pow_pos n
    rw [e]
    have hd : ∀ w, w < 64 → dif (gW γ) p q w = dif (gW γ) p q (w % 2 ^ n) := fun w hw => by
      unfold dif
      rw [lbit_per (by omega) P hp hw, lbit_per (by omega) P hq hw]
    obtain ⟨a1, a2, a3⟩ := lst_facts (dif (gW γ) p q) 64
    obtain ⟨b1, b2, b3⟩ := lst_facts (dif (gW γ) p q) (2 ^ n)
    unfold apt
    by_cases g : lst (dif (gW γ) p q) 64 < 64
    · have x := a3 g
      rw [hd _ g] at x
      have hm := Nat.mod_lt (lst (dif (gW γ) p q) 64) h1
      have hlt : lst (dif (gW γ) p q) 64 < 2 ^ n := by
        rcases Nat.lt_or_ge (lst (dif (gW γ) p q) 64) (2 ^ n) with y | y
        · exact y
        · have := a2 (lst (dif (gW γ) p q) 64 % 2 ^ n) (by omega)
          rw [this] at x
          exact absurd x (by decide)
      have e2 : lst (dif (gW γ) p q) (2 ^ n) = lst (dif (gW γ) p q) 64 := lst_is hlt a2 (a3 g)
      rw [e2, if_pos g, if_pos hlt]
    · have e2 : lst (dif (gW γ) p q) (2 ^ n) = 2 ^ n := lst_no (fun k hk => a2 k (by omega))
      rw [if_neg g, if_neg (by omega)]
/-- only the gates that are made count -/
theorem gmk_congr {n : Nat} {c c' : cir} (st : gs × (Nat → Nat)) : ∀ f, (∀ g, g < f → c.1 g = c'.1 g ∧ c.2.1 g = c'.2.1 g ∧ c.2.2.1 g = c'.2.2.1 g ∧ c.2.2.2 g = c'.2.2.2 g) → gmk n c st f = gmk n c' st f
  | 0, _ => rfl
  | f + 1, h => by
    obtain ⟨a1, a2, a3, a4⟩ := h f (by omega)
    show gstep n c (gmk n c st f) f = gstep n c' (gmk n c' st f) f
    rw [gmk_congr st f (fun g hg => h g (by omega))]
    unfold gstep gop
    rw [a1, a2, a3, a4]
theorem addg_old {c : cir} {g i : Nat} {kd a b e : Int32} (h : i < g) : c.1 i = (addg c g kd a b e).1 i ∧ c.2.1 i = (addg c g kd a b e).2.1 i ∧ c.2.2.1 i = (addg c g kd a b e).2.2.1 i ∧ c.2.2.2 i = (addg c g kd a b e).2.2.2 i := by
  refine ⟨?_, ?_, ?_, ?_⟩
  · show _ = u1 c.1 g kd i
    rw [u1_n (by omega)]
  · show _ = u1 c.2.1 g a i
    rw [u1_n (by omega)]
  · show _ = u1 c.2.2.1 g b i
    rw [u1_n (by omega)]
  · show _ = u1 c.2.2.2 g e i
    rw [u1_n (by omega)]
theorem gA_add {n : Nat} {c : cir} {f g : Nat} {kd a b e : Int32} (h : f ≤ g) : gA n (addg c g kd a b e) f = gA n c f := (gmk_congr _ f (fun i hi => addg_old (by omega))).symm
theorem gB_add0 {n : Nat} {c c1 : cir} {f s g : Nat} {kd a b e : Int32} (h : f ≤ g) : gB n (addg c g kd a b e) c1 f s = gB n c c1 f s := by
  unfold gB
  rw [gA_add h]
theorem gB_add1 {n : Nat} {c0 c : cir} {f s g : Nat} {kd a b e : Int32} (h : s ≤ g) : gB n c0 (addg c g kd a b e) f s = gB n c0 c f s := (gmk_congr _ s (fun i hi => addg_old (by omega))).symm
