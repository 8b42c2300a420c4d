/-! ===== the class's methods ===== -/
theorem r_aloadN {C : callP} {j : Nat} {Q : resP} {pc : Nat} {ls : List (Nat × Value)} {st : List Value} {h : hp} {bc bs : Nat} {k : Nat} (hm : (pc, Instr.aload k, 2) ∈ pt j) (hl : ls.lookup k = some .null) (kk : Wp C j Q (pc + 2) ls (.null :: st) h bc bs) : Wp C j Q pc ls st h bc bs :=
  Wp.go (ins := .aload k) (len := 2) hm (show lA ls k (fun v => Wp C j Q (pc + 2) ls (v :: st) h bc bs) by unfold lA; rw [hl]; exact kk)
theorem r_astoreN {C : callP} {j : Nat} {Q : resP} {pc : Nat} {ls : List (Nat × Value)} {st : List Value} {h : hp} {bc bs : Nat} {k : Nat} {ls' : List (Nat × Value)} (hm : (pc, Instr.astore k, 2) ∈ pt j) (hk : k < mL j) (hl : lset1 ls k .null = ls') (kk : Wp C j Q (pc + 2) ls' st h bc bs) : Wp C j Q pc ls (.null :: st) h bc bs :=
  Wp.go (ins := .astore k) (len := 2) hm ⟨hk, by subst hl; exact kk⟩
def upA (σ : st8) (c : ck) : st8 := (σ.1, c, σ.2.2.1, σ.2.2.2.1, σ.2.2.2.2.1, σ.2.2.2.2.2.1, σ.2.2.2.2.2.2.1, none)
def upB (σ : st8) (c : ck) : st8 := (σ.1, σ.2.1, c, σ.2.2.2.1, σ.2.2.2.2.1, σ.2.2.2.2.2.1, σ.2.2.2.2.2.2.1, none)
theorem canT01 (n g kd a b c : Int32) : canT n g kd a b c = 0 ∨ canT n g kd a b c = 1 := by
  unfold canT
  split
  · exact Or.inl rfl
  · split
    · exact Or.inl rfl
    · split
      · exact Or.inl rfl
      · split
        · exact Or.inr rfl
        · split
          · exact Or.inl rfl
          · split
            · exact Or.inl rfl
            · split
              · exact Or.inl rfl
              · exact Or.inr rfl
theorem canT_g {n g kd a b c : Int32} (h : canT n g kd a b c = 1) : (¬ kd < 0 ∧ ¬ 8 < kd ∧ ¬ 120 ≤ g) ∧ (kd ≠ 8 → pl a < n ∧ pl b < n) ∧ (kd = 6 ∨ kd = 7 → pl c < n) := by
  unfold canT at h
  split at h
  · exact absurd h (by decide)
  · split at h
    · exact absurd h (by decide)
    · split at h
      · exact absurd h (by decide)
      · split at h
        · rename_i q1 q2 q3 q4
          exact ⟨⟨q1, q2, q3⟩, fun y => absurd q4 y, fun y => by rcases y with y | y <;> rw [y] at q4 <;> exact absurd q4 (by decide)⟩
        · split at h
          · exact absurd h (by decide)
          · split at h
            · exact absurd h (by decide)
            · split at h
              · exact absurd h (by decide)
              · rename_i q1 q2 q3 q4 q5 q6 q7
                exact ⟨⟨q1, q2, q3⟩, fun _ => ⟨hasS_ne q5, hasS_ne q6⟩, fun y => hasS_ne (fun z => q7 ⟨y, z⟩)⟩
theorem kd_nat {kd : Int32} (h0 : ¬ kd < 0) (h8 : ¬ 8 < kd) : ∃ k, k ≤ 8 ∧ kd = nI k := nI_of2 (M := 8) (n := 8) (by decide) h0 (Int32.not_lt.mp h8)
theorem cok_add {n : Nat} {c : cir} {g i : Nat} {kd a b e : Int32} (h : i < g) (K : cok n c i) : cok n (addg c g kd a b e) i := by
  obtain ⟨a1, a2, a3, a4⟩ := addg_old (c := c) (kd := kd) (a := a) (b := b) (e := e) h
  unfold cok at *
  rw [← a1, ← a2, ← a3, ← a4]
  exact K
theorem cok_new {n : Nat} {c : cir} {g : Nat} {kd a b e : Int32} (h : canT (nI (n + g)) (nI g) kd a b e = 1) : cok n (addg c g kd a b e) g := by
  obtain ⟨⟨q1, q2, q3⟩, q4, q5⟩ := canT_g h
  unfold cok addg
  show (∃ k, k ≤ 8 ∧ u1 c.1 g kd g = nI k) ∧ (u1 c.1 g kd g ≠ 8 → pl (u1 c.2.1 g a g) < nI (n + g) ∧ pl (u1 c.2.2.1 g b g) < nI (n + g)) ∧ (u1 c.1 g kd g = 6 ∨ u1 c.1 g kd g = 7 → pl (u1 c.2.2.2 g e g) < nI (n + g))
  rw [u1_s, u1_s, u1_s, u1_s]
  exact ⟨kd_nat q1 q2, q4, q5⟩
theorem kok_add {n : Nat} {c : ck} (hn : n ≤ 12) (K : kok n c) {kd a b e : Int32} (h : canT (nI (n + c.2.1)) (nI c.2.1) kd a b e = 1) : kok n (addg c.1 c.2.1 kd a b e, c.2.1 + 1, c.2.2.1, c.2.2.2) ∧ c.2.1 < 120 := by
  obtain ⟨⟨q1, q2, q3⟩, q4, q5⟩ := canT_g h
  have hg : c.2.1 < 120 := by
    rcases Nat.lt_or_ge c.2.1 120 with y | y
    · exact y
    · exact absurd (nI_le (a := 120) y (by have := K.1; omega)) q3
  refine ⟨⟨hg, K.2.1, fun i hi => ?_, fun j hj => ?_⟩, hg⟩
  · have hi : i < c.2.1 + 1 := hi
    by_cases y : i = c.2.1
    · rw [y]; exact cok_new h
    · exact cok_add (by omega) (K.2.2.1 i (by omega))
  · have := K.2.2.2 j hj
    exact Int32.lt_trans this (nI_lt (a := n + c.2.1) (b := n + (c.2.1 + 1)) (by omega) (by omega))
theorem CGr_add0 {h : hp} {ρ e n g0 g1 : Nat} {c0 c1 : cir} (C : CGr h ρ e n g0 g1 c0 c1) {kd a b t : Int32} : CGr h ρ e n (g0 + 1) g1 (addg c0 g0 kd a b t) c1 := by
  obtain ⟨x, y, w⟩ := C
  refine ⟨x, y, ?_⟩
  rcases w with w | ⟨f, s, p, q, B⟩
  · exact Or.inl w
  · refine Or.inr ⟨f, s, by omega, q, ?_⟩
    unfold BU at *
    rw [gB_add0 p, gA_add p]
    exact B
theorem CGr_add1 {h : hp} {ρ e n g0 g1 : Nat} {c0 c1 : cir} (C : CGr h ρ e n g0 g1 c0 c1) {kd a b t : Int32} : CGr h ρ e n g0 (g1 + 1) c0 (addg c1 g1 kd a b t) := by
  obtain ⟨x, y, w⟩ := C
  refine ⟨x, y, ?_⟩
  rcases w with w | ⟨f, s, p, q, B⟩
  · exact Or.inl w
  · refine Or.inr ⟨f, s, p, by omega, ?_⟩
    unfold BU at *
    rw [gB_add1 q]
    exact B
theorem nI_top (a b : Nat) : nI a + nI (b + 1) - 1 = nI (a + b) := by
  rw [nI_add]
  exact nI_decS _ _ (by omega)
def aGate (σ : st8) (x kd a b t : Int32) : Int32 := if x = 0 then (if canT (nI (zn σ + (za σ).2.1)) (nI (za σ).2.1) kd a b t = 0 then -1 else nI (zn σ + (za σ).2.1)) else if x = 1 then (if canT (nI (zn σ + (zb σ).2.1)) (nI (zb σ).2.1) kd a b t = 0 then -1 else nI (zn σ + (zb σ).2.1)) else -1
def nGate (σ : st8) (x kd a b t : Int32) : st8 := if x = 0 then (if canT (nI (zn σ + (za σ).2.1)) (nI (za σ).2.1) kd a b t = 0 then σ else upA σ (addg (za σ).1 (za σ).2.1 kd a b t, (za σ).2.1 + 1, (za σ).2.2)) else if x = 1 then (if canT (nI (zn σ + (zb σ).2.1)) (nI (zb σ).2.1) kd a b t = 0 then σ else upB σ (addg (zb σ).1 (zb σ).2.1 kd a b t, (zb σ).2.1 + 1, (zb σ).2.2)) else σ
theorem gate_ok {σ : st8} (Z : zok σ) (x kd a b t : Int32) : zok (nGate σ x kd a b t) := by
  obtain ⟨z1, z2, z3, z4⟩ := id Z
  unfold nGate
  split
  · split
    · exact Z
    · rename_i q
      exact ⟨z1, (kok_add z1.2 z2 ((canT01 _ _ _ _ _ _).resolve_left q)).1, z3, z4⟩
  · split
    · split
      · exact Z
      · rename_i q
        exact ⟨z1, z2, (kok_add z1.2 z3 ((canT01 _ _ _ _ _ _).resolve_left q)).1, z4⟩
    · exact Z
set_option maxHeartbeats 2000000 in
set_option maxRecDepth 10000 in
theorem xs_gate {h : hp} {ρ e : Nat} {σ : st8} (C : CI h ρ e σ) (Z : zok σ) (x kd a b t : Int32) : CStep 76 [.ref 2, .int x, .int kd, .int a, .int b, .int t] h e (aGate σ x kd a b t) (nGate σ x kd a b t) := by
  have S := C.1.1
  unfold aGate nGate
  by_cases x0 : x = 0
  · rw [if_pos x0, if_pos x0]
    subst x0
    have R0 := sp_cat0 (d := 6) S
    have R1 := sp_canTake_3 (d := 4) S kd a b t
    rw [C.2.2.1.2, C.2.2.1.1.2.1, nI_add] at R1
    by_cases q : canT (nI (zn σ + (za σ).2.1)) (nI (za σ).2.1) kd a b t = 0
    · rw [if_pos q, if_pos q]
      rw [q] at R1
      refine CStep.of (?_ : Run (7 + 1) 76 _ h 0 0 _ h) C (FC.rf h)
      refine Run.of (Nat.le_of_ble_eq_true rfl) (fun Q hQ => ?_)
      show Wp (Ex 7) 76 Q 0 [(0, .ref 2), (1, .int 0), (2, .int kd), (3, .int a), (4, .int b), (5, .int t)] [] h 0 0
      refine r_aload_n (q76 (i := 0) rfl) rfl ?_
      refine r_iload_n (q76 (i := 1) rfl) rfl ?_
      refine r_cV (d := _) (q76 (i := 2) rfl) rfl rfl rfl (k_2 S) (Nat.le_of_ble_eq_true rfl) (Nat.zero_le _) (Nat.zero_le _) R0 ?_
      show Wp _ _ _ 5 [(0, .ref 2), (1, .int 0), (2, .int kd), (3, .int a), (4, .int b), (5, .int t)] [.ref 3] h _ _
      refine r_astore (ls' := [(6, .ref 3), (0, .ref 2), (1, .int 0), (2, .int kd), (3, .int a), (4, .int b), (5, .int t)]) (q76 (i := 3) rfl) (Nat.le_of_ble_eq_true rfl) rfl ?_
      refine r_aload (q76 (i := 4) rfl) rfl ?_
      refine r_ifnull (q76 (i := 5) rfl) (show (0 : Int) ≤ ((9 : Nat) : Int) + (17) by decide) ?_
      refine r_aload (q76 (i := 6) rfl) rfl ?_
      refine r_iload_n (q76 (i := 7) rfl) rfl ?_
      refine r_iload_n (q76 (i := 8) rfl) rfl ?_
      refine r_iload (q76 (i := 9) rfl) rfl ?_
      refine r_iload (q76 (i := 10) rfl) rfl ?_
      refine r_cV (d := _) (q76 (i := 11) rfl) rfl rfl rfl (k_3 S) (Nat.le_of_ble_eq_true rfl) (Nat.zero_le _) (Nat.zero_le _) R1 ?_
      show Wp _ _ _ 23 [(6, .ref 3), (0, .ref 2), (1, .int 0), (2, .int kd), (3, .int a), (4, .int b), (5, .int t)] [.int 0] h _ _
      refine r_if 28 (q76 (i := 12) rfl) (by decide) (fun zz => absurd zz (show ¬ (¬ (0 : Int32) = 0) from by decide)) (fun _ => ?_)
      refine r_iconst (v := (-1)) (q76 (i := 13) rfl) (by decide) ?_
      exact r_iret (q76 (i := 14) rfl) rfl hQ
    · rw [if_neg q, if_neg q]
      have q1 := (canT01 _ _ _ _ _ _).resolve_left q
      rw [q1] at R1
      obtain ⟨kk, hg⟩ := kok_add Z.1.2 Z.2.1 q1
      have R2 := sp_addGate_3 (d := 6) S C.2.2.1.1.2.1 hg kd a b t
      rw [C.2.2.1.2, nI_top] at R2
      have F2 := adH_3_F h (za σ).2.1 kd a b t
      have S2 := F2.S S
      have R3 := sp_more (d := 6) S2
      refine CStep.of (ρ := ρ) (?_ : Run (7 + 1) 76 _ h 0 0 _ (more (adH_3 h (za σ).2.1 kd a b t))) ⟨⟨S2.to rfl, C.1.2⟩, C.2.1, ⟨CH_3_g C.2.2.1.1 kd a b t, C.2.2.1.2⟩, C.2.2.2.1, C.2.2.2.2.1, C.2.2.2.2.2.1, C.2.2.2.2.2.2.1, CGr_add0 (h := more (adH_3 h (za σ).2.1 kd a b t)) C.2.2.2.2.2.2.2.1, Or.inl rfl, rfl⟩ ((FC.of (h := h) (h' := adH_3 h (za σ).2.1 kd a b t) rfl (fun k hk => F2.2.1 k (by omega)) (fun _ _ => rfl)).tr (FC.more _))
      refine Run.of (Nat.le_of_ble_eq_true rfl) (fun Q hQ => ?_)
      show Wp (Ex 7) 76 Q 0 [(0, .ref 2), (1, .int 0), (2, .int kd), (3, .int a), (4, .int b), (5, .int t)] [] h 0 0
      refine r_aload_n (q76 (i := 0) rfl) rfl ?_
      refine r_iload_n (q76 (i := 1) rfl) rfl ?_
      refine r_cV (d := _) (q76 (i := 2) rfl) rfl rfl rfl (k_2 S) (Nat.le_of_ble_eq_true rfl) (Nat.zero_le _) (Nat.zero_le _) R0 ?_
      show Wp _ _ _ 5 [(0, .ref 2), (1, .int 0), (2, .int kd), (3, .int a), (4, .int b), (5, .int t)] [.ref 3] h _ _
      refine r_astore (ls' := [(6, .ref 3), (0, .ref 2), (1, .int 0), (2, .int kd), (3, .int a), (4, .int b), (5, .int t)]) (q76 (i := 3) rfl) (Nat.le_of_ble_eq_true rfl) rfl ?_
      refine r_aload (q76 (i := 4) rfl) rfl ?_
      refine r_ifnull (q76 (i := 5) rfl) (show (0 : Int) ≤ ((9 : Nat) : Int) + (17) by decide) ?_
      refine r_aload (q76 (i := 6) rfl) rfl ?_
      refine r_iload_n (q76 (i := 7) rfl) rfl ?_
      refine r_iload_n (q76 (i := 8) rfl) rfl ?_
      refine r_iload (q76 (i := 9) rfl) rfl ?_
      refine r_iload (q76 (i := 10) rfl) rfl ?_
      refine r_cV (d := _) (q76 (i := 11) rfl) rfl rfl rfl (k_3 S) (Nat.le_of_ble_eq_true rfl) (Nat.zero_le _) (Nat.zero_le _) R1 ?_
      show Wp _ _ _ 23 [(6, .ref 3), (0, .ref 2), (1, .int 0), (2, .int kd), (3, .int a), (4, .int b), (5, .int t)] [.int 1] h _ _
      refine r_if 28 (q76 (i := 12) rfl) (by decide) (fun _ => ?_) (fun zz => absurd (show ¬ (1 : Int32) = 0 from by decide) zz)
      refine r_aload (q76 (i := 15) rfl) rfl ?_
      refine r_iload_n (q76 (i := 16) rfl) rfl ?_
      refine r_iload_n (q76 (i := 17) rfl) rfl ?_
      refine r_iload (q76 (i := 18) rfl) rfl ?_
      refine r_iload (q76 (i := 19) rfl) rfl ?_
      refine r_cV (d := _) (q76 (i := 20) rfl) rfl rfl rfl (k_3 S) (Nat.le_of_ble_eq_true rfl) (Nat.zero_le _) (Nat.zero_le _) R2 ?_
      show Wp _ _ _ 39 [(6, .ref 3), (0, .ref 2), (1, .int 0), (2, .int kd), (3, .int a), (4, .int b), (5, .int t)] [.int (nI (zn σ + (za σ).2.1))] (adH_3 h (za σ).2.1 kd a b t) _ _
      refine r_istore (ls' := [(7, .int (nI (zn σ + (za σ).2.1))), (6, .ref 3), (0, .ref 2), (1, .int 0), (2, .int kd), (3, .int a), (4, .int b), (5, .int t)]) (q76 (i := 21) rfl) (Nat.le_of_ble_eq_true rfl) rfl ?_
      refine r_aload_n (q76 (i := 22) rfl) rfl ?_
      refine r_cV (d := _) (q76 (i := 23) rfl) rfl rfl rfl (k_2 S2) (Nat.le_of_ble_eq_true rfl) (Nat.zero_le _) (Nat.zero_le _) R3 ?_
      show Wp _ _ _ 45 [(7, .int (nI (zn σ + (za σ).2.1))), (6, .ref 3), (0, .ref 2), (1, .int 0), (2, .int kd), (3, .int a), (4, .int b), (5, .int t)] [] (more (adH_3 h (za σ).2.1 kd a b t)) _ _
      refine r_iload (q76 (i := 24) rfl) rfl ?_
      exact r_iret (q76 (i := 25) rfl) rfl hQ
  · rw [if_neg x0, if_neg x0]
    by_cases x1 : x = 1
    · rw [if_pos x1, if_pos x1]
      subst x1
      have R0 := sp_cat1 (d := 6) S
      have R1 := sp_canTake_10 (d := 4) S kd a b t
      rw [C.2.2.2.1.2, C.2.2.2.1.1.2.1, nI_add] at R1
      by_cases q : canT (nI (zn σ + (zb σ).2.1)) (nI (zb σ).2.1) kd a b t = 0
      · rw [if_pos q, if_pos q]
        rw [q] at R1
        refine CStep.of (?_ : Run (7 + 1) 76 _ h 0 0 _ h) C (FC.rf h)
        refine Run.of (Nat.le_of_ble_eq_true rfl) (fun Q hQ => ?_)
        show Wp (Ex 7) 76 Q 0 [(0, .ref 2), (1, .int 1), (2, .int kd), (3, .int a), (4, .int b), (5, .int t)] [] h 0 0
        refine r_aload_n (q76 (i := 0) rfl) rfl ?_
        refine r_iload_n (q76 (i := 1) rfl) rfl ?_
        refine r_cV (d := _) (q76 (i := 2) rfl) rfl rfl rfl (k_2 S) (Nat.le_of_ble_eq_true rfl) (Nat.zero_le _) (Nat.zero_le _) R0 ?_
        show Wp _ _ _ 5 [(0, .ref 2), (1, .int 1), (2, .int kd), (3, .int a), (4, .int b), (5, .int t)] [.ref 10] h _ _
        refine r_astore (ls' := [(6, .ref 10), (0, .ref 2), (1, .int 1), (2, .int kd), (3, .int a), (4, .int b), (5, .int t)]) (q76 (i := 3) rfl) (Nat.le_of_ble_eq_true rfl) rfl ?_
        refine r_aload (q76 (i := 4) rfl) rfl ?_
        refine r_ifnull (q76 (i := 5) rfl) (show (0 : Int) ≤ ((9 : Nat) : Int) + (17) by decide) ?_
        refine r_aload (q76 (i := 6) rfl) rfl ?_
        refine r_iload_n (q76 (i := 7) rfl) rfl ?_
        refine r_iload_n (q76 (i := 8) rfl) rfl ?_
        refine r_iload (q76 (i := 9) rfl) rfl ?_
        refine r_iload (q76 (i := 10) rfl) rfl ?_
        refine r_cV (d := _) (q76 (i := 11) rfl) rfl rfl rfl (k_10 S) (Nat.le_of_ble_eq_true rfl) (Nat.zero_le _) (Nat.zero_le _) R1 ?_
        show Wp _ _ _ 23 [(6, .ref 10), (0, .ref 2), (1, .int 1), (2, .int kd), (3, .int a), (4, .int b), (5, .int t)] [.int 0] h _ _
        refine r_if 28 (q76 (i := 12) rfl) (by decide) (fun zz => absurd zz (show ¬ (¬ (0 : Int32) = 0) from by decide)) (fun _ => ?_)
        refine r_iconst (v := (-1)) (q76 (i := 13) rfl) (by decide) ?_
        exact r_iret (q76 (i := 14) rfl) rfl hQ
      · rw [if_neg q, if_neg q]
        have q1 := (canT01 _ _ _ _ _ _).resolve_left q
        rw [q1] at R1
        obtain ⟨kk, hg⟩ := kok_add Z.1.2 Z.2.2.1 q1
        have R2 := sp_addGate_10 (d := 6) S C.2.2.2.1.1.2.1 hg kd a b t
        rw [C.2.2.2.1.2, nI_top] at R2
        have F2 := adH_10_F h (zb σ).2.1 kd a b t
        have S2 := F2.S S
        have R3 := sp_more (d := 6) S2
        refine CStep.of (ρ := ρ) (?_ : Run (7 + 1) 76 _ h 0 0 _ (more (adH_10 h (zb σ).2.1 kd a b t))) ⟨⟨S2.to rfl, C.1.2⟩, C.2.1, C.2.2.1, ⟨CH_10_g C.2.2.2.1.1 kd a b t, C.2.2.2.1.2⟩, C.2.2.2.2.1, C.2.2.2.2.2.1, C.2.2.2.2.2.2.1, CGr_add1 (h := more (adH_10 h (zb σ).2.1 kd a b t)) C.2.2.2.2.2.2.2.1, Or.inl rfl, rfl⟩ ((FC.of (h := h) (h' := adH_10 h (zb σ).2.1 kd a b t) rfl (fun k hk => F2.2.1 k (by omega)) (fun _ _ => rfl)).tr (FC.more _))
        refine Run.of (Nat.le_of_ble_eq_true rfl) (fun Q hQ => ?_)
        show Wp (Ex 7) 76 Q 0 [(0, .ref 2), (1, .int 1), (2, .int kd), (3, .int a), (4, .int b), (5, .int t)] [] h 0 0
        refine r_aload_n (q76 (i := 0) rfl) rfl ?_
        refine r_iload_n (q76 (i := 1) rfl) rfl ?_
        refine r_cV (d := _) (q76 (i := 2) rfl) rfl rfl rfl (k_2 S) (Nat.le_of_ble_eq_true rfl) (Nat.zero_le _) (Nat.zero_le _) R0 ?_
        show Wp _ _ _ 5 [(0, .ref 2), (1, .int 1), (2, .int kd), (3, .int a), (4, .int b), (5, .int t)] [.ref 10] h _ _
        refine r_astore (ls' := [(6, .ref 10), (0, .ref 2), (1, .int 1), (2, .int kd), (3, .int a), (4, .int b), (5, .int t)]) (q76 (i := 3) rfl) (Nat.le_of_ble_eq_true rfl) rfl ?_
        refine r_aload (q76 (i := 4) rfl) rfl ?_
        refine r_ifnull (q76 (i := 5) rfl) (show (0 : Int) ≤ ((9 : Nat) : Int) + (17) by decide) ?_
        refine r_aload (q76 (i := 6) rfl) rfl ?_
        refine r_iload_n (q76 (i := 7) rfl) rfl ?_
        refine r_iload_n (q76 (i := 8) rfl) rfl ?_
        refine r_iload (q76 (i := 9) rfl) rfl ?_
        refine r_iload (q76 (i := 10) rfl) rfl ?_
        refine r_cV (d := _) (q76 (i := 11) rfl) rfl rfl rfl (k_10 S) (Nat.le_of_ble_eq_true rfl) (Nat.zero_le _) (Nat.zero_le _) R1 ?_
        show Wp _ _ _ 23 [(6, .ref 10), (0, .ref 2), (1, .int 1), (2, .int kd), (3, .int a), (4, .int b), (5, .int t)] [.int 1] h _ _
        refine r_if 28 (q76 (i := 12) rfl) (by decide) (fun _ => ?_) (fun zz => absurd (show ¬ (1 : Int32) = 0 from by decide) zz)
        refine r_aload (q76 (i := 15) rfl) rfl ?_
        refine r_iload_n (q76 (i := 16) rfl) rfl ?_
        refine r_iload_n (q76 (i := 17) rfl) rfl ?_
        refine r_iload (q76 (i := 18) rfl) rfl ?_
        refine r_iload (q76 (i := 19) rfl) rfl ?_
        refine r_cV (d := _) (q76 (i := 20) rfl) rfl rfl rfl (k_10 S) (Nat.le_of_ble_eq_true rfl) (Nat.zero_le _) (Nat.zero_le _) R2 ?_
        show Wp _ _ _ 39 [(6, .ref 10), (0, .ref 2), (1, .int 1), (2, .int kd), (3, .int a), (4, .int b), (5, .int t)] [.int (nI (zn σ + (zb σ).2.1))] (adH_10 h (zb σ).2.1 kd a b t) _ _
        refine r_istore (ls' := [(7, .int (nI (zn σ + (zb σ).2.1))), (6, .ref 10), (0, .ref 2), (1, .int 1), (2, .int kd), (3, .int a), (4, .int b), (5, .int t)]) (q76 (i := 21) rfl) (Nat.le_of_ble_eq_true rfl) rfl ?_
        refine r_aload_n (q76 (i := 22) rfl) rfl ?_
        refine r_cV (d := _) (q76 (i := 23) rfl) rfl rfl rfl (k_2 S2) (Nat.le_of_ble_eq_true rfl) (Nat.zero_le _) (Nat.zero_le _) R3 ?_
        show Wp _ _ _ 45 [(7, .int (nI (zn σ + (zb σ).2.1))), (6, .ref 10), (0, .ref 2), (1, .int 1), (2, .int kd), (3, .int a), (4, .int b), (5, .int t)] [] (more (adH_10 h (zb σ).2.1 kd a b t)) _ _
        refine r_iload (q76 (i := 24) rfl) rfl ?_
        exact r_iret (q76 (i := 25) rfl) rfl hQ
    · rw [if_neg x1, if_neg x1]
      refine CStep.of (?_ : Run (7 + 1) 76 _ h 0 0 _ h) C (FC.rf h)
      have R0 := sp_catN (d := 6) (h := h) x0 x1
      refine Run.of (Nat.le_of_ble_eq_true rfl) (fun Q hQ => ?_)
      show Wp (Ex 7) 76 Q 0 [(0, .ref 2), (1, .int x), (2, .int kd), (3, .int a), (4, .int b), (5, .int t)] [] h 0 0
      refine r_aload_n (q76 (i := 0) rfl) rfl ?_
      refine r_iload_n (q76 (i := 1) rfl) rfl ?_
      refine r_cV (d := _) (q76 (i := 2) rfl) rfl rfl rfl (k_2 S) (Nat.le_of_ble_eq_true rfl) (Nat.zero_le _) (Nat.zero_le _) R0 ?_
      show Wp _ _ _ 5 [(0, .ref 2), (1, .int x), (2, .int kd), (3, .int a), (4, .int b), (5, .int t)] [.null] h _ _
      refine r_astoreN (ls' := [(6, .null), (0, .ref 2), (1, .int x), (2, .int kd), (3, .int a), (4, .int b), (5, .int t)]) (q76 (i := 3) rfl) (Nat.le_of_ble_eq_true rfl) rfl ?_
      refine r_aloadN (q76 (i := 4) rfl) rfl ?_
      refine r_ifnullN 26 (q76 (i := 5) rfl) (by decide) ?_
      refine r_iconst (v := (-1)) (q76 (i := 13) rfl) (by decide) ?_
      exact r_iret (q76 (i := 14) rfl) rfl hQ
def aOut (σ : st8) (x s : Int32) : Int32 := if x = 0 then (if (za σ).2.2.2 < 10 ∧ pl s < nI (zn σ + (za σ).2.1) then nI (za σ).2.2.2 else -1) else if x = 1 then (if (zb σ).2.2.2 < 10 ∧ pl s < nI (zn σ + (zb σ).2.1) then nI (zb σ).2.2.2 else -1) else -1
def nOut (σ : st8) (x s : Int32) : st8 := if x = 0 then (if (za σ).2.2.2 < 10 ∧ pl s < nI (zn σ + (za σ).2.1) then upA σ ((za σ).1, (za σ).2.1, u1 (za σ).2.2.1 (za σ).2.2.2 s, (za σ).2.2.2 + 1) else σ) else if x = 1 then (if (zb σ).2.2.2 < 10 ∧ pl s < nI (zn σ + (zb σ).2.1) then upB σ ((zb σ).1, (zb σ).2.1, u1 (zb σ).2.2.1 (zb σ).2.2.2 s, (zb σ).2.2.2 + 1) else σ) else σ
theorem kok_out {n : Nat} {c : ck} (K : kok n c) {s : Int32} (h : c.2.2.2 < 10 ∧ pl s < nI (n + c.2.1)) : kok n (c.1, c.2.1, u1 c.2.2.1 c.2.2.2 s, c.2.2.2 + 1) := by
  refine ⟨K.1, h.1, K.2.2.1, fun j hj => ?_⟩
  show pl (u1 c.2.2.1 c.2.2.2 s j) < nI (n + c.2.1)
  have hj : j < c.2.2.2 + 1 := hj
  by_cases y : j = c.2.2.2
  · rw [y, u1_s]; exact h.2
  · rw [u1_n y]; exact K.2.2.2 j (by omega)
theorem out_ok {σ : st8} (Z : zok σ) (x s : Int32) : zok (nOut σ x s) := by
  obtain ⟨z1, z2, z3, z4⟩ := id Z
  unfold nOut
  split
  · split
    · rename_i q
      exact ⟨z1, kok_out z2 q, z3, z4⟩
    · exact Z
  · split
    · split
      · rename_i q
        exact ⟨z1, z2, kok_out z3 q, z4⟩
      · exact Z
    · exact Z
theorem hasS_1 {n s : Int32} (h : pl s < n) : hasS n s = 1 := if_pos h
theorem hasS_0 {n s : Int32} (h : ¬ pl s < n) : hasS n s = 0 := if_neg h
set_option maxHeartbeats 2000000 in
set_option maxRecDepth 10000 in
theorem xs_output {h : hp} {ρ e : Nat} {σ : st8} (C : CI h ρ e σ) (Z : zok σ) (x s : Int32) : CStep 77 [.ref 2, .int x, .int s] h e (aOut σ x s) (nOut σ x s) := by
  have S := C.1.1
  unfold aOut nOut
  by_cases x0 : x = 0
  · rw [if_pos x0, if_pos x0]
    subst x0
    have R0 := sp_cat0 (d := 6) S
    have hk := Z.2.1.2.1
    have R1 := sp_hasSignal_3 (d := 5) S s
    rw [C.2.2.1.2, C.2.2.1.1.2.1, nI_add] at R1
    by_cases q : (za σ).2.2.2 < 10 ∧ pl s < nI (zn σ + (za σ).2.1)
    · rw [if_pos q, if_pos q]
      rw [hasS_1 q.2] at R1
      have R2 := sp_addOut_3 (d := 6) S C.2.2.1.1.2.2.2 q.1 s
      rw [nI_decS _ _ rfl] at R2
      have S2 : Sh (sI (sI h 8 (za σ).2.2.2 s) 3 8 (nI ((za σ).2.2.2 + 1))) := S.to rfl
      have R3 := sp_more (d := 6) S2
      refine CStep.of (ρ := ρ) (?_ : Run (7 + 1) 77 _ h 0 0 _ (more (sI (sI h 8 (za σ).2.2.2 s) 3 8 (nI ((za σ).2.2.2 + 1))))) ⟨⟨S2.to rfl, C.1.2⟩, C.2.1, ⟨⟨C.2.2.1.1.1, C.2.2.1.1.2.1, (by show u1 (hI h 8) (za σ).2.2.2 s = _; rw [C.2.2.1.1.2.2.1]; rfl), rfl⟩, C.2.2.1.2⟩, C.2.2.2.1, C.2.2.2.2.1, C.2.2.2.2.2.1, C.2.2.2.2.2.2.1, C.2.2.2.2.2.2.2.1, Or.inl rfl, rfl⟩ (((FC.w (by decide) _ _).tr (FC.w (by decide) _ _)).tr (FC.more _))
      refine Run.of (Nat.le_of_ble_eq_true rfl) (fun Q hQ => ?_)
      show Wp (Ex 7) 77 Q 0 [(0, .ref 2), (1, .int 0), (2, .int s)] [] h 0 0
      refine r_aload_n (q77 (i := 0) rfl) rfl ?_
      refine r_iload_n (q77 (i := 1) rfl) rfl ?_
      refine r_cV (d := _) (q77 (i := 2) rfl) rfl rfl rfl (k_2 S) (Nat.le_of_ble_eq_true rfl) (Nat.zero_le _) (Nat.zero_le _) R0 ?_
      show Wp _ _ _ 5 [(0, .ref 2), (1, .int 0), (2, .int s)] [.ref 3] h _ _
      refine r_astore_n (ls' := [(3, .ref 3), (0, .ref 2), (1, .int 0), (2, .int s)]) (q77 (i := 3) rfl) (Nat.le_of_ble_eq_true rfl) rfl ?_
      refine r_aload_n (q77 (i := 4) rfl) rfl ?_
      refine r_ifnull (q77 (i := 5) rfl) (show (0 : Int) ≤ ((7 : Nat) : Int) + (20) by decide) ?_
      refine r_aload_n (q77 (i := 6) rfl) rfl ?_
      refine r_getI (x := nI (za σ).2.2.2) (q77 (i := 7) rfl) rfl (by decide) (k_3 S) (fun _ _ _ => rfl) C.2.2.1.1.2.2.2 ?_
      refine r_bipush (v := 10) (q77 (i := 8) rfl) (by decide) ?_
      refine r_icmp 27 (q77 (i := 9) rfl) (by decide) (fun zz => absurd zz (show ¬ (10 ≤ nI (za σ).2.2.2) from nI_ge (b := 10) q.1 (by decide))) (fun _ => ?_)
      refine r_aload_n (q77 (i := 10) rfl) rfl ?_
      refine r_iload_n (q77 (i := 11) rfl) rfl ?_
      refine r_cV (d := _) (q77 (i := 12) rfl) rfl rfl rfl (k_3 S) (Nat.le_of_ble_eq_true rfl) (Nat.zero_le _) (Nat.zero_le _) R1 ?_
      show Wp _ _ _ 24 [(3, .ref 3), (0, .ref 2), (1, .int 0), (2, .int s)] [.int 1] h _ _
      refine r_if 29 (q77 (i := 13) rfl) (by decide) (fun _ => ?_) (fun zz => absurd (show ¬ (1 : Int32) = 0 from by decide) zz)
      refine r_aload_n (q77 (i := 16) rfl) rfl ?_
      refine r_iload_n (q77 (i := 17) rfl) rfl ?_
      refine r_cV (d := _) (q77 (i := 18) rfl) rfl rfl rfl (k_3 S) (Nat.le_of_ble_eq_true rfl) (Nat.zero_le _) (Nat.zero_le _) R2 ?_
      show Wp _ _ _ 34 [(3, .ref 3), (0, .ref 2), (1, .int 0), (2, .int s)] [.int (nI (za σ).2.2.2)] (sI (sI h 8 (za σ).2.2.2 s) 3 8 (nI ((za σ).2.2.2 + 1))) _ _
      refine r_istore (ls' := [(4, .int (nI (za σ).2.2.2)), (3, .ref 3), (0, .ref 2), (1, .int 0), (2, .int s)]) (q77 (i := 19) rfl) (Nat.le_of_ble_eq_true rfl) rfl ?_
      refine r_aload_n (q77 (i := 20) rfl) rfl ?_
      refine r_cV (d := _) (q77 (i := 21) rfl) rfl rfl rfl (k_2 S2) (Nat.le_of_ble_eq_true rfl) (Nat.zero_le _) (Nat.zero_le _) R3 ?_
      show Wp _ _ _ 40 [(4, .int (nI (za σ).2.2.2)), (3, .ref 3), (0, .ref 2), (1, .int 0), (2, .int s)] [] (more (sI (sI h 8 (za σ).2.2.2 s) 3 8 (nI ((za σ).2.2.2 + 1)))) _ _
      refine r_iload (q77 (i := 22) rfl) rfl ?_
      exact r_iret (q77 (i := 23) rfl) rfl hQ
    · rw [if_neg q, if_neg q]
      refine CStep.of (?_ : Run (7 + 1) 77 _ h 0 0 _ h) C (FC.rf h)
      refine Run.of (Nat.le_of_ble_eq_true rfl) (fun Q hQ => ?_)
      show Wp (Ex 7) 77 Q 0 [(0, .ref 2), (1, .int 0), (2, .int s)] [] h 0 0
      by_cases q1 : (za σ).2.2.2 < 10
      · rw [hasS_0 (fun y => q ⟨q1, y⟩)] at R1
        refine r_aload_n (q77 (i := 0) rfl) rfl ?_
        refine r_iload_n (q77 (i := 1) rfl) rfl ?_
        refine r_cV (d := _) (q77 (i := 2) rfl) rfl rfl rfl (k_2 S) (Nat.le_of_ble_eq_true rfl) (Nat.zero_le _) (Nat.zero_le _) R0 ?_
        show Wp _ _ _ 5 [(0, .ref 2), (1, .int 0), (2, .int s)] [.ref 3] h _ _
        refine r_astore_n (ls' := [(3, .ref 3), (0, .ref 2), (1, .int 0), (2, .int s)]) (q77 (i := 3) rfl) (Nat.le_of_ble_eq_true rfl) rfl ?_
        refine r_aload_n (q77 (i := 4) rfl) rfl ?_
        refine r_ifnull (q77 (i := 5) rfl) (show (0 : Int) ≤ ((7 : Nat) : Int) + (20) by decide) ?_
        refine r_aload_n (q77 (i := 6) rfl) rfl ?_
        refine r_getI (x := nI (za σ).2.2.2) (q77 (i := 7) rfl) rfl (by decide) (k_3 S) (fun _ _ _ => rfl) C.2.2.1.1.2.2.2 ?_
        refine r_bipush (v := 10) (q77 (i := 8) rfl) (by decide) ?_
        refine r_icmp 27 (q77 (i := 9) rfl) (by decide) (fun zz => absurd zz (show ¬ (10 ≤ nI (za σ).2.2.2) from nI_ge (b := 10) q1 (by decide))) (fun _ => ?_)
        refine r_aload_n (q77 (i := 10) rfl) rfl ?_
        refine r_iload_n (q77 (i := 11) rfl) rfl ?_
        refine r_cV (d := _) (q77 (i := 12) rfl) rfl rfl rfl (k_3 S) (Nat.le_of_ble_eq_true rfl) (Nat.zero_le _) (Nat.zero_le _) R1 ?_
        show Wp _ _ _ 24 [(3, .ref 3), (0, .ref 2), (1, .int 0), (2, .int s)] [.int 0] h _ _
        refine r_if 29 (q77 (i := 13) rfl) (by decide) (fun zz => absurd zz (show ¬ (¬ (0 : Int32) = 0) from by decide)) (fun _ => ?_)
        refine r_iconst (v := (-1)) (q77 (i := 14) rfl) (by decide) ?_
        exact r_iret (q77 (i := 15) rfl) rfl hQ
      · refine r_aload_n (q77 (i := 0) rfl) rfl ?_
        refine r_iload_n (q77 (i := 1) rfl) rfl ?_
        refine r_cV (d := _) (q77 (i := 2) rfl) rfl rfl rfl (k_2 S) (Nat.le_of_ble_eq_true rfl) (Nat.zero_le _) (Nat.zero_le _) R0 ?_
        show Wp _ _ _ 5 [(0, .ref 2), (1, .int 0), (2, .int s)] [.ref 3] h _ _
        refine r_astore_n (ls' := [(3, .ref 3), (0, .ref 2), (1, .int 0), (2, .int s)]) (q77 (i := 3) rfl) (Nat.le_of_ble_eq_true rfl) rfl ?_
        refine r_aload_n (q77 (i := 4) rfl) rfl ?_
        refine r_ifnull (q77 (i := 5) rfl) (show (0 : Int) ≤ ((7 : Nat) : Int) + (20) by decide) ?_
        refine r_aload_n (q77 (i := 6) rfl) rfl ?_
        refine r_getI (x := nI (za σ).2.2.2) (q77 (i := 7) rfl) rfl (by decide) (k_3 S) (fun _ _ _ => rfl) C.2.2.1.1.2.2.2 ?_
        refine r_bipush (v := 10) (q77 (i := 8) rfl) (by decide) ?_
        refine r_icmp 27 (q77 (i := 9) rfl) (by decide) (fun _ => ?_) (fun zz => absurd (show 10 ≤ nI (za σ).2.2.2 from nI_le (a := 10) (by omega) (by omega)) zz)
        refine r_iconst (v := (-1)) (q77 (i := 14) rfl) (by decide) ?_
        exact r_iret (q77 (i := 15) rfl) rfl hQ
  · rw [if_neg x0, if_neg x0]
    by_cases x1 : x = 1
    · rw [if_pos x1, if_pos x1]
      subst x1
      have R0 := sp_cat1 (d := 6) S
      have hk := Z.2.2.1.2.1
      have R1 := sp_hasSignal_10 (d := 5) S s
      rw [C.2.2.2.1.2, C.2.2.2.1.1.2.1, nI_add] at R1
      by_cases q : (zb σ).2.2.2 < 10 ∧ pl s < nI (zn σ + (zb σ).2.1)
      · rw [if_pos q, if_pos q]
        rw [hasS_1 q.2] at R1
        have R2 := sp_addOut_10 (d := 6) S C.2.2.2.1.1.2.2.2 q.1 s
        rw [nI_decS _ _ rfl] at R2
        have S2 : Sh (sI (sI h 15 (zb σ).2.2.2 s) 10 8 (nI ((zb σ).2.2.2 + 1))) := S.to rfl
        have R3 := sp_more (d := 6) S2
        refine CStep.of (ρ := ρ) (?_ : Run (7 + 1) 77 _ h 0 0 _ (more (sI (sI h 15 (zb σ).2.2.2 s) 10 8 (nI ((zb σ).2.2.2 + 1))))) ⟨⟨S2.to rfl, C.1.2⟩, C.2.1, C.2.2.1, ⟨⟨C.2.2.2.1.1.1, C.2.2.2.1.1.2.1, (by show u1 (hI h 15) (zb σ).2.2.2 s = _; rw [C.2.2.2.1.1.2.2.1]; rfl), rfl⟩, C.2.2.2.1.2⟩, C.2.2.2.2.1, C.2.2.2.2.2.1, C.2.2.2.2.2.2.1, C.2.2.2.2.2.2.2.1, Or.inl rfl, rfl⟩ (((FC.w (by decide) _ _).tr (FC.w (by decide) _ _)).tr (FC.more _))
        refine Run.of (Nat.le_of_ble_eq_true rfl) (fun Q hQ => ?_)
        show Wp (Ex 7) 77 Q 0 [(0, .ref 2), (1, .int 1), (2, .int s)] [] h 0 0
        refine r_aload_n (q77 (i := 0) rfl) rfl ?_
        refine r_iload_n (q77 (i := 1) rfl) rfl ?_
        refine r_cV (d := _) (q77 (i := 2) rfl) rfl rfl rfl (k_2 S) (Nat.le_of_ble_eq_true rfl) (Nat.zero_le _) (Nat.zero_le _) R0 ?_
        show Wp _ _ _ 5 [(0, .ref 2), (1, .int 1), (2, .int s)] [.ref 10] h _ _
        refine r_astore_n (ls' := [(3, .ref 10), (0, .ref 2), (1, .int 1), (2, .int s)]) (q77 (i := 3) rfl) (Nat.le_of_ble_eq_true rfl) rfl ?_
        refine r_aload_n (q77 (i := 4) rfl) rfl ?_
        refine r_ifnull (q77 (i := 5) rfl) (show (0 : Int) ≤ ((7 : Nat) : Int) + (20) by decide) ?_
        refine r_aload_n (q77 (i := 6) rfl) rfl ?_
        refine r_getI (x := nI (zb σ).2.2.2) (q77 (i := 7) rfl) rfl (by decide) (k_10 S) (fun _ _ _ => rfl) C.2.2.2.1.1.2.2.2 ?_
        refine r_bipush (v := 10) (q77 (i := 8) rfl) (by decide) ?_
        refine r_icmp 27 (q77 (i := 9) rfl) (by decide) (fun zz => absurd zz (show ¬ (10 ≤ nI (zb σ).2.2.2) from nI_ge (b := 10) q.1 (by decide))) (fun _ => ?_)
        refine r_aload_n (q77 (i := 10) rfl) rfl ?_
        refine r_iload_n (q77 (i := 11) rfl) rfl ?_
        refine r_cV (d := _) (q77 (i := 12) rfl) rfl rfl rfl (k_10 S) (Nat.le_of_ble_eq_true rfl) (Nat.zero_le _) (Nat.zero_le _) R1 ?_
        show Wp _ _ _ 24 [(3, .ref 10), (0, .ref 2), (1, .int 1), (2, .int s)] [.int 1] h _ _
        refine r_if 29 (q77 (i := 13) rfl) (by decide) (fun _ => ?_) (fun zz => absurd (show ¬ (1 : Int32) = 0 from by decide) zz)
        refine r_aload_n (q77 (i := 16) rfl) rfl ?_
        refine r_iload_n (q77 (i := 17) rfl) rfl ?_
        refine r_cV (d := _) (q77 (i := 18) rfl) rfl rfl rfl (k_10 S) (Nat.le_of_ble_eq_true rfl) (Nat.zero_le _) (Nat.zero_le _) R2 ?_
        show Wp _ _ _ 34 [(3, .ref 10), (0, .ref 2), (1, .int 1), (2, .int s)] [.int (nI (zb σ).2.2.2)] (sI (sI h 15 (zb σ).2.2.2 s) 10 8 (nI ((zb σ).2.2.2 + 1))) _ _
        refine r_istore (ls' := [(4, .int (nI (zb σ).2.2.2)), (3, .ref 10), (0, .ref 2), (1, .int 1), (2, .int s)]) (q77 (i := 19) rfl) (Nat.le_of_ble_eq_true rfl) rfl ?_
        refine r_aload_n (q77 (i := 20) rfl) rfl ?_
        refine r_cV (d := _) (q77 (i := 21) rfl) rfl rfl rfl (k_2 S2) (Nat.le_of_ble_eq_true rfl) (Nat.zero_le _) (Nat.zero_le _) R3 ?_
        show Wp _ _ _ 40 [(4, .int (nI (zb σ).2.2.2)), (3, .ref 10), (0, .ref 2), (1, .int 1), (2, .int s)] [] (more (sI (sI h 15 (zb σ).2.2.2 s) 10 8 (nI ((zb σ).2.2.2 + 1)))) _ _
        refine r_iload (q77 (i := 22) rfl) rfl ?_
        exact r_iret (q77 (i := 23) rfl) rfl hQ
      · rw [if_neg q, if_neg q]
        refine CStep.of (?_ : Run (7 + 1) 77 _ h 0 0 _ h) C (FC.rf h)
        refine Run.of (Nat.le_of_ble_eq_true rfl) (fun Q hQ => ?_)
        show Wp (Ex 7) 77 Q 0 [(0, .ref 2), (1, .int 1), (2, .int s)] [] h 0 0
        by_cases q1 : (zb σ).2.2.2 < 10
        · rw [hasS_0 (fun y => q ⟨q1, y⟩)] at R1
          refine r_aload_n (q77 (i := 0) rfl) rfl ?_
          refine r_iload_n (q77 (i := 1) rfl) rfl ?_
          refine r_cV (d := _) (q77 (i := 2) rfl) rfl rfl rfl (k_2 S) (Nat.le_of_ble_eq_true rfl) (Nat.zero_le _) (Nat.zero_le _) R0 ?_
          show Wp _ _ _ 5 [(0, .ref 2), (1, .int 1), (2, .int s)] [.ref 10] h _ _
          refine r_astore_n (ls' := [(3, .ref 10), (0, .ref 2), (1, .int 1), (2, .int s)]) (q77 (i := 3) rfl) (Nat.le_of_ble_eq_true rfl) rfl ?_
          refine r_aload_n (q77 (i := 4) rfl) rfl ?_
          refine r_ifnull (q77 (i := 5) rfl) (show (0 : Int) ≤ ((7 : Nat) : Int) + (20) by decide) ?_
          refine r_aload_n (q77 (i := 6) rfl) rfl ?_
          refine r_getI (x := nI (zb σ).2.2.2) (q77 (i := 7) rfl) rfl (by decide) (k_10 S) (fun _ _ _ => rfl) C.2.2.2.1.1.2.2.2 ?_
          refine r_bipush (v := 10) (q77 (i := 8) rfl) (by decide) ?_
          refine r_icmp 27 (q77 (i := 9) rfl) (by decide) (fun zz => absurd zz (show ¬ (10 ≤ nI (zb σ).2.2.2) from nI_ge (b := 10) q1 (by decide))) (fun _ => ?_)
          refine r_aload_n (q77 (i := 10) rfl) rfl ?_
          refine r_iload_n (q77 (i := 11) rfl) rfl ?_
          refine r_cV (d := _) (q77 (i := 12) rfl) rfl rfl rfl (k_10 S) (Nat.le_of_ble_eq_true rfl) (Nat.zero_le _) (Nat.zero_le _) R1 ?_
          show Wp _ _ _ 24 [(3, .ref 10), (0, .ref 2), (1, .int 1), (2, .int s)] [.int 0] h _ _
          refine r_if 29 (q77 (i := 13) rfl) (by decide) (fun zz => absurd zz (show ¬ (¬ (0 : Int32) = 0) from by decide)) (fun _ => ?_)
          refine r_iconst (v := (-1)) (q77 (i := 14) rfl) (by decide) ?_
          exact r_iret (q77 (i := 15) rfl) rfl hQ
        · refine r_aload_n (q77 (i := 0) rfl) rfl ?_
          refine r_iload_n (q77 (i := 1) rfl) rfl ?_
          refine r_cV (d := _) (q77 (i := 2) rfl) rfl rfl rfl (k_2 S) (Nat.le_of_ble_eq_true rfl) (Nat.zero_le _) (Nat.zero_le _) R0 ?_
          show Wp _ _ _ 5 [(0, .ref 2), (1, .int 1), (2, .int s)] [.ref 10] h _ _
          refine r_astore_n (ls' := [(3, .ref 10), (0, .ref 2), (1, .int 1), (2, .int s)]) (q77 (i := 3) rfl) (Nat.le_of_ble_eq_true rfl) rfl ?_
          refine r_aload_n (q77 (i := 4) rfl) rfl ?_
          refine r_ifnull (q77 (i := 5) rfl) (show (0 : Int) ≤ ((7 : Nat) : Int) + (20) by decide) ?_
          refine r_aload_n (q77 (i := 6) rfl) rfl ?_
          refine r_getI (x := nI (zb σ).2.2.2) (q77 (i := 7) rfl) rfl (by decide) (k_10 S) (fun _ _ _ => rfl) C.2.2.2.1.1.2.2.2 ?_
          refine r_bipush (v := 10) (q77 (i := 8) rfl) (by decide) ?_
          refine r_icmp 27 (q77 (i := 9) rfl) (by decide) (fun _ => ?_) (fun zz => absurd (show 10 ≤ nI (zb σ).2.2.2 from nI_le (a := 10) (by omega) (by omega)) zz)
          refine r_iconst (v := (-1)) (q77 (i := 14) rfl) (by decide) ?_
          exact r_iret (q77 (i := 15) rfl) rfl hQ
    · rw [if_neg x1, if_neg x1]
      refine CStep.of (?_ : Run (7 + 1) 77 _ h 0 0 _ h) C (FC.rf h)
      have R0 := sp_catN (d := 6) (h := h) x0 x1
      refine Run.of (Nat.le_of_ble_eq_true rfl) (fun Q hQ => ?_)
      show Wp (Ex 7) 77 Q 0 [(0, .ref 2), (1, .int x), (2, .int s)] [] h 0 0
      refine r_aload_n (q77 (i := 0) rfl) rfl ?_
      refine r_iload_n (q77 (i := 1) rfl) rfl ?_
      refine r_cV (d := _) (q77 (i := 2) rfl) rfl rfl rfl (k_2 S) (Nat.le_of_ble_eq_true rfl) (Nat.zero_le _) (Nat.zero_le _) R0 ?_
      show Wp _ _ _ 5 [(0, .ref 2), (1, .int x), (2, .int s)] [.null] h _ _
      refine r_astore_nN (ls' := [(3, .null), (0, .ref 2), (1, .int x), (2, .int s)]) (q77 (i := 3) rfl) (Nat.le_of_ble_eq_true rfl) rfl ?_
      refine r_aload_nN (q77 (i := 4) rfl) rfl ?_
      refine r_ifnullN 27 (q77 (i := 5) rfl) (by decide) ?_
      refine r_iconst (v := (-1)) (q77 (i := 14) rfl) (by decide) ?_
      exact r_iret (q77 (i := 15) rfl) rfl hQ
def aClr (σ : st8) (x : Int32) : Int32 := if x = 0 then nI (za σ).2.1 else if x = 1 then nI (zb σ).2.1 else -1
def nClr (σ : st8) (x : Int32) : st8 := if x = 0 then upA σ ((za σ).1, 0, (za σ).2.2.1, 0) else if x = 1 then upB σ ((zb σ).1, 0, (zb σ).2.2.1, 0) else σ
theorem kok_0 (n : Nat) (c : cir) (w : Nat → Int32) : kok n (c, 0, w, 0) := ⟨Nat.zero_le _, Nat.zero_le _, fun g hg => absurd hg (Nat.not_lt_zero g), fun g hg => absurd hg (Nat.not_lt_zero g)⟩
theorem clr_ok {σ : st8} (Z : zok σ) (x : Int32) : zok (nClr σ x) := by
  obtain ⟨z1, z2, z3, z4⟩ := id Z
  unfold nClr
  split
  · exact ⟨z1, kok_0 _ _ _, z3, z4⟩
  · split
    · exact ⟨z1, z2, kok_0 _ _ _, z4⟩
    · exact Z
theorem CGr_stale {h : hp} {ρ e n g0 g1 n' g0' g1' : Nat} {c0 c1 c0' c1' : cir} (C : CGr h ρ e n g0 g1 c0 c1) (hs : hI h 21 12 = 1) : CGr h ρ e n' g0' g1' c0' c1' := ⟨C.1, C.2.1, Or.inl hs⟩
theorem CGr_st {h h' : hp} {ρ e n g0 g1 n' g0' g1' : Nat} {c0 c1 c0' c1' : cir} (C : CGr h ρ e n g0 g1 c0 c1) (e2 : h'.2.2 = h.2.2) (hs : hI h' 21 12 = 1) : CGr h' ρ e n' g0' g1' c0' c1' := ⟨by have := C.1; unfold Rw hR hK at *; rw [e2]; exact this, C.2.1, Or.inl hs⟩
set_option maxHeartbeats 2000000 in
set_option maxRecDepth 10000 in
theorem xs_clear {h : hp} {ρ e : Nat} {σ : st8} (C : CI h ρ e σ) (x : Int32) : CStep 78 [.ref 2, .int x] h e (aClr σ x) (nClr σ x) := by
  have S := C.1.1
  unfold aClr nClr
  by_cases x0 : x = 0
  · rw [if_pos x0, if_pos x0]
    subst x0
    have R0 := sp_cat0 (d := 6) S
    have R1 := sp_reset_3 (d := 6) S (nI (zn σ))
    have S2 : Sh (sI (sI (sI h 3 6 (nI (zn σ))) 3 7 0) 3 8 0) := S.to rfl
    have R3 := sp_anew (d := 5) S2
    refine CStep.of (ρ := ρ) (?_ : Run (7 + 1) 78 _ h 0 0 _ (anew (sI (sI (sI h 3 6 (nI (zn σ))) 3 7 0) 3 8 0))) ⟨⟨S2.to rfl, C.1.2⟩, C.2.1, ⟨⟨C.2.2.1.1.1, rfl, C.2.2.1.1.2.2.1, rfl⟩, rfl⟩, C.2.2.2.1, C.2.2.2.2.1, C.2.2.2.2.2.1, C.2.2.2.2.2.2.1, CGr_st C.2.2.2.2.2.2.2.1 rfl rfl, Or.inl rfl, rfl⟩ ((((FC.w (by decide) _ _).tr (FC.w (by decide) _ _)).tr (FC.w (by decide) _ _)).tr (FC.anew _))
    refine Run.of (Nat.le_of_ble_eq_true rfl) (fun Q hQ => ?_)
    show Wp (Ex 7) 78 Q 0 [(0, .ref 2), (1, .int 0)] [] h 0 0
    refine r_aload_n (q78 (i := 0) rfl) rfl ?_
    refine r_iload_n (q78 (i := 1) rfl) rfl ?_
    refine r_cV (d := _) (q78 (i := 2) rfl) rfl rfl rfl (k_2 S) (Nat.le_of_ble_eq_true rfl) (Nat.zero_le _) (Nat.zero_le _) R0 ?_
    show Wp _ _ _ 5 [(0, .ref 2), (1, .int 0)] [.ref 3] h _ _
    refine r_astore_n (ls' := [(2, .ref 3), (0, .ref 2), (1, .int 0)]) (q78 (i := 3) rfl) (Nat.le_of_ble_eq_true rfl) rfl ?_
    refine r_aload_n (q78 (i := 4) rfl) rfl ?_
    refine r_ifnonnull 12 (q78 (i := 5) rfl) (by decide) ?_
    refine r_aload_n (q78 (i := 8) rfl) rfl ?_
    refine r_getI (x := nI (za σ).2.1) (q78 (i := 9) rfl) rfl (by decide) (k_3 S) (fun _ _ _ => rfl) C.2.2.1.1.2.1 ?_
    refine r_istore_n (ls' := [(3, .int (nI (za σ).2.1)), (2, .ref 3), (0, .ref 2), (1, .int 0)]) (q78 (i := 10) rfl) (Nat.le_of_ble_eq_true rfl) rfl ?_
    refine r_aload_n (q78 (i := 11) rfl) rfl ?_
    refine r_aload_n (q78 (i := 12) rfl) rfl ?_
    refine r_getI (x := nI (zn σ)) (q78 (i := 13) rfl) rfl (by decide) (k_2 S) (fun _ _ _ => rfl) C.2.1.1 ?_
    refine r_cV (d := _) (q78 (i := 14) rfl) rfl rfl rfl (k_3 S) (Nat.le_of_ble_eq_true rfl) (Nat.zero_le _) (Nat.zero_le _) R1 ?_
    show Wp _ _ _ 25 [(3, .int (nI (za σ).2.1)), (2, .ref 3), (0, .ref 2), (1, .int 0)] [] (sI (sI (sI h 3 6 (nI (zn σ))) 3 7 0) 3 8 0) _ _
    refine r_aload_n (q78 (i := 15) rfl) rfl ?_
    refine r_cV (d := _) (q78 (i := 16) rfl) rfl rfl rfl (k_2 S2) (Nat.le_of_ble_eq_true rfl) (Nat.zero_le _) (Nat.zero_le _) R3 ?_
    show Wp _ _ _ 29 [(3, .int (nI (za σ).2.1)), (2, .ref 3), (0, .ref 2), (1, .int 0)] [] (anew (sI (sI (sI h 3 6 (nI (zn σ))) 3 7 0) 3 8 0)) _ _
    refine r_iload_n (q78 (i := 17) rfl) rfl ?_
    exact r_iret (q78 (i := 18) rfl) rfl hQ
  · rw [if_neg x0, if_neg x0]
    by_cases x1 : x = 1
    · rw [if_pos x1, if_pos x1]
      subst x1
      have R0 := sp_cat1 (d := 6) S
      have R1 := sp_reset_10 (d := 6) S (nI (zn σ))
      have S2 : Sh (sI (sI (sI h 10 6 (nI (zn σ))) 10 7 0) 10 8 0) := S.to rfl
      have R3 := sp_anew (d := 5) S2
      refine CStep.of (ρ := ρ) (?_ : Run (7 + 1) 78 _ h 0 0 _ (anew (sI (sI (sI h 10 6 (nI (zn σ))) 10 7 0) 10 8 0))) ⟨⟨S2.to rfl, C.1.2⟩, C.2.1, C.2.2.1, ⟨⟨C.2.2.2.1.1.1, rfl, C.2.2.2.1.1.2.2.1, rfl⟩, rfl⟩, C.2.2.2.2.1, C.2.2.2.2.2.1, C.2.2.2.2.2.2.1, CGr_st C.2.2.2.2.2.2.2.1 rfl rfl, Or.inl rfl, rfl⟩ ((((FC.w (by decide) _ _).tr (FC.w (by decide) _ _)).tr (FC.w (by decide) _ _)).tr (FC.anew _))
      refine Run.of (Nat.le_of_ble_eq_true rfl) (fun Q hQ => ?_)
      show Wp (Ex 7) 78 Q 0 [(0, .ref 2), (1, .int 1)] [] h 0 0
      refine r_aload_n (q78 (i := 0) rfl) rfl ?_
      refine r_iload_n (q78 (i := 1) rfl) rfl ?_
      refine r_cV (d := _) (q78 (i := 2) rfl) rfl rfl rfl (k_2 S) (Nat.le_of_ble_eq_true rfl) (Nat.zero_le _) (Nat.zero_le _) R0 ?_
      show Wp _ _ _ 5 [(0, .ref 2), (1, .int 1)] [.ref 10] h _ _
      refine r_astore_n (ls' := [(2, .ref 10), (0, .ref 2), (1, .int 1)]) (q78 (i := 3) rfl) (Nat.le_of_ble_eq_true rfl) rfl ?_
      refine r_aload_n (q78 (i := 4) rfl) rfl ?_
      refine r_ifnonnull 12 (q78 (i := 5) rfl) (by decide) ?_
      refine r_aload_n (q78 (i := 8) rfl) rfl ?_
      refine r_getI (x := nI (zb σ).2.1) (q78 (i := 9) rfl) rfl (by decide) (k_10 S) (fun _ _ _ => rfl) C.2.2.2.1.1.2.1 ?_
      refine r_istore_n (ls' := [(3, .int (nI (zb σ).2.1)), (2, .ref 10), (0, .ref 2), (1, .int 1)]) (q78 (i := 10) rfl) (Nat.le_of_ble_eq_true rfl) rfl ?_
      refine r_aload_n (q78 (i := 11) rfl) rfl ?_
      refine r_aload_n (q78 (i := 12) rfl) rfl ?_
      refine r_getI (x := nI (zn σ)) (q78 (i := 13) rfl) rfl (by decide) (k_2 S) (fun _ _ _ => rfl) C.2.1.1 ?_
      refine r_cV (d := _) (q78 (i := 14) rfl) rfl rfl rfl (k_10 S) (Nat.le_of_ble_eq_true rfl) (Nat.zero_le _) (Nat.zero_le _) R1 ?_
      show Wp _ _ _ 25 [(3, .int (nI (zb σ).2.1)), (2, .ref 10), (0, .ref 2), (1, .int 1)] [] (sI (sI (sI h 10 6 (nI (zn σ))) 10 7 0) 10 8 0) _ _
      refine r_aload_n (q78 (i := 15) rfl) rfl ?_
      refine r_cV (d := _) (q78 (i := 16) rfl) rfl rfl rfl (k_2 S2) (Nat.le_of_ble_eq_true rfl) (Nat.zero_le _) (Nat.zero_le _) R3 ?_
      show Wp _ _ _ 29 [(3, .int (nI (zb σ).2.1)), (2, .ref 10), (0, .ref 2), (1, .int 1)] [] (anew (sI (sI (sI h 10 6 (nI (zn σ))) 10 7 0) 10 8 0)) _ _
      refine r_iload_n (q78 (i := 17) rfl) rfl ?_
      exact r_iret (q78 (i := 18) rfl) rfl hQ
    · rw [if_neg x1, if_neg x1]
      refine CStep.of (?_ : Run (7 + 1) 78 _ h 0 0 _ h) C (FC.rf h)
      have R0 := sp_catN (d := 6) (h := h) x0 x1
      refine Run.of (Nat.le_of_ble_eq_true rfl) (fun Q hQ => ?_)
      show Wp (Ex 7) 78 Q 0 [(0, .ref 2), (1, .int x)] [] h 0 0
      refine r_aload_n (q78 (i := 0) rfl) rfl ?_
      refine r_iload_n (q78 (i := 1) rfl) rfl ?_
      refine r_cV (d := _) (q78 (i := 2) rfl) rfl rfl rfl (k_2 S) (Nat.le_of_ble_eq_true rfl) (Nat.zero_le _) (Nat.zero_le _) R0 ?_
      show Wp _ _ _ 5 [(0, .ref 2), (1, .int x)] [.null] h _ _
      refine r_astore_nN (ls' := [(2, .null), (0, .ref 2), (1, .int x)]) (q78 (i := 3) rfl) (Nat.le_of_ble_eq_true rfl) rfl ?_
      refine r_aload_nN (q78 (i := 4) rfl) rfl ?_
      refine r_ifnonnullN (q78 (i := 5) rfl) (show (0 : Int) ≤ ((7 : Nat) : Int) + (5) by decide) ?_
      refine r_iconst (v := (-1)) (q78 (i := 6) rfl) (by decide) ?_
      exact r_iret (q78 (i := 7) rfl) rfl hQ
def oin (x : Int32) : Bool := decide (¬ x < 1 ∧ x ≤ 12)
theorem oin_t {x : Int32} (h : oin x = true) : ∃ k, 1 ≤ k ∧ k ≤ 12 ∧ x = nI k := by
  have h := of_decide_eq_true h
  obtain ⟨k, hk, e⟩ := nI_of2 (x := x) (M := 12) (n := 12) (by decide) (fun y => h.1 (Int32.lt_trans y (by decide))) h.2
  refine ⟨k, ?_, hk, e⟩
  rcases Nat.lt_or_ge k 1 with y | y
  · have : k = 0 := by omega
    rw [e, this] at h
    exact absurd (show nI 0 < 1 by decide) h.1
  · exact y
def v0 (v : vs) : vs := (filJ v.1 0 64, v.2.1, 0)
def aInp (x : Int32) : Int32 := if oin x then 1 else 0
def nInp (σ : st8) (x : Int32) : st8 := if oin x then (x.toNatClampNeg, ((za σ).1, 0, (za σ).2.2.1, 0), ((zb σ).1, 0, (zb σ).2.2.1, 0), v0 (zv σ), zt σ, zp σ, zr σ, none) else σ
theorem cntB_z {f : Nat → Bool} : ∀ m, (∀ i, i < m → f i = false) → cntB f m = 0
  | 0, _ => rfl
  | m + 1, h => by
    show cntB f m + (if f m then 1 else 0) = 0
    rw [cntB_z m (fun i hi => h i (by omega)), h m (by omega)]
    rfl
theorem filJ_in {f : Nat → Int64} {v : Int64} {n i : Nat} (h : i < n) : filJ f v n i = v := if_pos h
theorem vok_0 (v : vs) : vok (v0 v) := by
  show cntB (inV (filJ v.1 0 64)) 4096 = 0
  apply cntB_z
  intro i hi
  unfold inV
  rw [filJ_in (by omega), b64_0]
theorem nz_0 (v : vs) : cntB (nz (v0 v).1) 64 = 0 := by
  apply cntB_z
  intro i hi
  unfold nz v0
  show decide (filJ v.1 0 64 i ≠ 0) = false
  rw [filJ_in hi]
  rfl
theorem inp_ok {σ : st8} (Z : zok σ) (x : Int32) : zok (nInp σ x) := by
  obtain ⟨z1, z2, z3, z4, z5⟩ := id Z
  unfold nInp
  split
  · rename_i q
    obtain ⟨k, k1, k2, e⟩ := oin_t q
    rw [e, nI_clamp (by omega)]
    exact ⟨⟨k1, k2⟩, kok_0 _ _ _, kok_0 _ _ _, vok_0 _, z5⟩
  · exact Z
def empV (h : hp) : hp := sI (sI (rJ h 19 (filJ (hJ h 19) 0 64)) 17 3 0) 17 4 0
theorem VC_emp {h : hp} {rw rw' : Nat} {v : vs} (V : VC h rw v) : VC (empV h) rw' (v0 v) := by
  refine ⟨?_, V.2.1, rfl, ?_⟩
  · show filJ (hJ h 19) 0 64 = filJ v.1 0 64
    rw [V.1]
  · rw [nz_0]
    refine ⟨rfl, Nat.zero_le _, fun k hk => absurd hk (Nat.not_lt_zero k), fun w hw hne => absurd ?_ hne⟩
    show filJ (hJ h 19) 0 64 w = 0
    exact filJ_in hw
theorem FC.emp (h : hp) : FC h (empV h) := ((FC.rj (by decide) _).tr (FC.w (by decide) _ _)).tr (FC.w (by decide) _ _)
theorem Rw_19 {h : hp} {ρ ℓ : Nat} (W : Rw h ρ ℓ) : ρ ≠ 19 := by have := W.2.2; omega
theorem emp_j (h : hp) {k : Nat} (hk : k ≠ 19) : hJ (empV h) k = hJ h k := by
  show u1 h.2.1 19 _ k = _
  rw [u1_n hk]
set_option maxHeartbeats 2000000 in
set_option maxRecDepth 10000 in
theorem xs_inputs {h : hp} {ρ e : Nat} {σ : st8} (C : CI h ρ e σ) (x : Int32) : CStep 75 [.ref 2, .int x] h e (aInp x) (nInp σ x) := by
  have S := C.1.1
  unfold aInp nInp
  by_cases q : oin x = true
  · rw [if_pos q, if_pos q]
    have hx := of_decide_eq_true q
    obtain ⟨k, k1, k2, e⟩ := oin_t q
    subst e
    rw [nI_clamp (by omega)]
    have S0 : Sh (sI h 2 9 (nI k)) := S.to rfl
    have SA : Sh (sI (sI (sI (sI h 2 9 (nI k)) 3 6 (nI k)) 3 7 0) 3 8 0) := S.to rfl
    have SB : Sh (sI (sI (sI (sI (sI (sI (sI h 2 9 (nI k)) 3 6 (nI k)) 3 7 0) 3 8 0) 10 6 (nI k)) 10 7 0) 10 8 0) := S.to rfl
    have SC : Sh (empV (sI (sI (sI (sI (sI (sI (sI h 2 9 (nI k)) 3 6 (nI k)) 3 7 0) 3 8 0) 10 6 (nI k)) 10 7 0) 10 8 0)) := S.to rfl
    have R1 := sp_reset_3 (d := 6) S0 (nI k)
    have R2 := sp_reset_10 (d := 6) SA (nI k)
    have R3 := sp_empty (d := 5) SB
    have R4 := sp_anew (d := 5) SC
    have P' : Pt (anew (empV (sI (sI (sI (sI (sI (sI (sI h 2 9 (nI k)) 3 6 (nI k)) 3 7 0) 3 8 0) 10 6 (nI k)) 10 7 0) 10 8 0))) := ⟨C.1.2.1.1, C.1.2.1.2⟩
    refine CStep.of (ρ := ρ) (?_ : Run (7 + 1) 75 _ h 0 0 _ (anew (empV (sI (sI (sI (sI (sI (sI (sI h 2 9 (nI k)) 3 6 (nI k)) 3 7 0) 3 8 0) 10 6 (nI k)) 10 7 0) 10 8 0)))) ⟨⟨S.to rfl, P', C.1.2.2⟩, ⟨rfl, C.2.1.2⟩, ⟨⟨C.2.2.1.1.1, rfl, C.2.2.1.1.2.2.1, rfl⟩, rfl⟩, ⟨⟨C.2.2.2.1.1.1, rfl, C.2.2.2.1.1.2.2.1, rfl⟩, rfl⟩, VC_emp (h := sI (sI (sI (sI (sI (sI (sI h 2 9 (nI k)) 3 6 (nI k)) 3 7 0) 3 8 0) 10 6 (nI k)) 10 7 0) 10 8 0) (rw := 2 ^ (zn σ - 6)) C.2.2.2.2.1, C.2.2.2.2.2.1, C.2.2.2.2.2.2.1, CGr_st C.2.2.2.2.2.2.2.1 rfl rfl, Or.inl rfl, rfl⟩ ((((((((((FC.w (by decide) _ _).tr (FC.w (by decide) _ _)).tr (FC.w (by decide) _ _)).tr (FC.w (by decide) _ _)).tr (FC.w (by decide) _ _)).tr (FC.w (by decide) _ _)).tr (FC.w (by decide) _ _))).tr (FC.emp _)).tr (FC.anew _))
    refine Run.of (Nat.le_of_ble_eq_true rfl) (fun Q hQ => ?_)
    show Wp (Ex 7) 75 Q 0 [(0, .ref 2), (1, .int (nI k))] [] h 0 0
    refine r_iload_n (q75 (i := 0) rfl) rfl ?_
    refine r_iconst (v := 1) (q75 (i := 1) rfl) (by decide) ?_
    refine r_icmp 11 (q75 (i := 2) rfl) (by decide) (fun zz => absurd zz (show ¬ (nI k < 1) from hx.1)) (fun _ => ?_)
    refine r_iload_n (q75 (i := 3) rfl) rfl ?_
    refine r_bipush (v := 12) (q75 (i := 4) rfl) (by decide) ?_
    refine r_icmp 13 (q75 (i := 5) rfl) (by decide) (fun _ => ?_) (fun zz => absurd (show nI k ≤ 12 from hx.2) zz)
    refine r_aload_n (q75 (i := 8) rfl) rfl ?_
    refine r_iload_n (q75 (i := 9) rfl) rfl ?_
    refine r_putI (q75 (i := 10) rfl) rfl (by decide) (k_2 S) rfl rfl ?_
    refine r_aload_n (q75 (i := 11) rfl) rfl ?_
    refine r_getR (b := 3) (q75 (i := 12) rfl) rfl (by decide) (k_2 S) (fun _ _ _ => rfl) (r_2_0 S) ?_
    refine r_iload_n (q75 (i := 13) rfl) rfl ?_
    refine r_cV (d := _) (q75 (i := 14) rfl) rfl rfl rfl (k_3 S) (Nat.le_of_ble_eq_true rfl) (Nat.zero_le _) (Nat.zero_le _) R1 ?_
    show Wp _ _ _ 26 [(0, .ref 2), (1, .int (nI k))] [] (sI (sI (sI (sI h 2 9 (nI k)) 3 6 (nI k)) 3 7 0) 3 8 0) _ _
    refine r_aload_n (q75 (i := 15) rfl) rfl ?_
    refine r_getR (b := 10) (q75 (i := 16) rfl) rfl (by decide) (k_2 SA) (fun _ _ _ => rfl) (r_2_1 SA) ?_
    refine r_iload_n (q75 (i := 17) rfl) rfl ?_
    refine r_cV (d := _) (q75 (i := 18) rfl) rfl rfl rfl (k_10 SA) (Nat.le_of_ble_eq_true rfl) (Nat.zero_le _) (Nat.zero_le _) R2 ?_
    show Wp _ _ _ 34 [(0, .ref 2), (1, .int (nI k))] [] (sI (sI (sI (sI (sI (sI (sI h 2 9 (nI k)) 3 6 (nI k)) 3 7 0) 3 8 0) 10 6 (nI k)) 10 7 0) 10 8 0) _ _
    refine r_aload_n (q75 (i := 19) rfl) rfl ?_
    refine r_getR (b := 17) (q75 (i := 20) rfl) rfl (by decide) (k_2 SB) (fun _ _ _ => rfl) (r_2_2 SB) ?_
    refine r_cV (d := _) (q75 (i := 21) rfl) rfl rfl rfl (k_17 SB) (Nat.le_of_ble_eq_true rfl) (Nat.zero_le _) (Nat.zero_le _) R3 ?_
    show Wp _ _ _ 41 [(0, .ref 2), (1, .int (nI k))] [] (empV (sI (sI (sI (sI (sI (sI (sI h 2 9 (nI k)) 3 6 (nI k)) 3 7 0) 3 8 0) 10 6 (nI k)) 10 7 0) 10 8 0)) _ _
    refine r_aload_n (q75 (i := 22) rfl) rfl ?_
    refine r_cV (d := _) (q75 (i := 23) rfl) rfl rfl rfl (k_2 SC) (Nat.le_of_ble_eq_true rfl) (Nat.zero_le _) (Nat.zero_le _) R4 ?_
    show Wp _ _ _ 45 [(0, .ref 2), (1, .int (nI k))] [] (anew (empV (sI (sI (sI (sI (sI (sI (sI h 2 9 (nI k)) 3 6 (nI k)) 3 7 0) 3 8 0) 10 6 (nI k)) 10 7 0) 10 8 0))) _ _
    refine r_iconst (v := 1) (q75 (i := 24) rfl) (by decide) ?_
    exact r_zret (q75 (i := 25) rfl) rfl (by decide) hQ
  · rw [if_neg q, if_neg q]
    have hx := of_decide_eq_false (Bool.eq_false_iff.mpr q)
    refine CStep.of (?_ : Run (7 + 1) 75 _ h 0 0 _ h) C (FC.rf h)
    refine Run.of (Nat.le_of_ble_eq_true rfl) (fun Q hQ => ?_)
    show Wp (Ex 7) 75 Q 0 [(0, .ref 2), (1, .int x)] [] h 0 0
    by_cases q1 : x < 1
    · skip
      refine r_iload_n (q75 (i := 0) rfl) rfl ?_
      refine r_iconst (v := 1) (q75 (i := 1) rfl) (by decide) ?_
      refine r_icmp 11 (q75 (i := 2) rfl) (by decide) (fun _ => ?_) (fun zz => absurd (show x < 1 from q1) zz)
      refine r_iconst (v := 0) (q75 (i := 6) rfl) (by decide) ?_
      exact r_zret (q75 (i := 7) rfl) rfl (by decide) hQ
    · have q2 : ¬ x ≤ 12 := fun y => hx ⟨q1, y⟩
      refine r_iload_n (q75 (i := 0) rfl) rfl ?_
      refine r_iconst (v := 1) (q75 (i := 1) rfl) (by decide) ?_
      refine r_icmp 11 (q75 (i := 2) rfl) (by decide) (fun zz => absurd zz (show ¬ (x < 1) from q1)) (fun _ => ?_)
      refine r_iload_n (q75 (i := 3) rfl) rfl ?_
      refine r_bipush (v := 12) (q75 (i := 4) rfl) (by decide) ?_
      refine r_icmp 13 (q75 (i := 5) rfl) (by decide) (fun zz => absurd zz (show ¬ (x ≤ 12) from q2)) (fun _ => ?_)
      refine r_iconst (v := 0) (q75 (i := 6) rfl) (by decide) ?_
      exact r_zret (q75 (i := 7) rfl) rfl (by decide) hQ
