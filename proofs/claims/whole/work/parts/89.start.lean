/-! ===== the start: both are built ===== -/
def D0 : List (Nat × Nat) := [(47, 41), (47, 40), (47, 39), (47, 38), (47, 37), (47, 36), (47, 35), (47, 34), (47, 33), (47, 32), (47, 31), (47, 30), (47, 24), (47, 19), (47, 16), (47, 15), (47, 14), (47, 13), (47, 12), (47, 9), (47, 8), (47, 7), (47, 6), (47, 5), (47, 4), (47, 3), (47, 2), (2, 8), (42, 0), (42, 4), (42, 3), (42, 2), (42, 1), (2, 7), (35, 0), (35, 6), (35, 5), (35, 4), (35, 3), (35, 2), (35, 1), (2, 6), (33, 0), (2, 5), (30, 1), (30, 0), (2, 4), (27, 1), (27, 0), (2, 3), (21, 1), (21, 0), (21, 6), (21, 5), (21, 4), (21, 3), (21, 2), (2, 2), (17, 2), (17, 1), (17, 0), (2, 1), (10, 5), (10, 4), (10, 3), (10, 2), (10, 1), (10, 0), (2, 0), (3, 5), (3, 4), (3, 3), (3, 2), (3, 1), (3, 0)]
def W0 : List (Nat × Nat × Int32) := [(47, 26, (-1)), (47, 1, 4), (2, 12, 0), (2, 11, 0), (2, 10, (-1)), (21, 12, 1), (10, 6, 4), (3, 6, 4), (2, 9, 4)]
def chk (f : Nat → Bool) (l : List (Option Nat)) (i : Nat) : Bool := match l with
  | [] => true
  | o :: l => (o.isNone || f i) && chk f l (i + 1)
theorem chk_ok {f : Nat → Bool} : ∀ (l : List (Option Nat)) (i : Nat), chk f l i = true → ∀ j, f (i + j) = true ∨ l.getD j none = none
  | [], i, _, j => Or.inr rfl
  | o :: l, i, h, j => by
    have h : ((o.isNone || f i) && chk f l (i + 1)) = true := h
    rw [Bool.and_eq_true, Bool.or_eq_true] at h
    cases j with
    | zero =>
      rcases h.1 with a | a
      · exact Or.inr (Option.isNone_iff_eq_none.mp a)
      · exact Or.inl a
    | succ j =>
      rcases chk_ok l (i + 1) h.2 j with a | a
      · exact Or.inl (by rw [show i + (j + 1) = i + 1 + j by omega]; exact a)
      · exact Or.inr a
theorem rr_2 (j : Nat) : inD D0 2 j = true ∨ R1 2 j = none := by
  have := chk_ok (f := inD D0 2) ([some 3, some 10, some 17, some 21, some 27, some 30, some 33, some 35, some 42, none, none, none, none] : List (Option Nat)) 0 (by decide +kernel) j
  rw [Nat.zero_add] at this
  exact this
theorem rr_3 (j : Nat) : inD D0 3 j = true ∨ R1 3 j = none := by
  have := chk_ok (f := inD D0 3) ([some 4, some 5, some 6, some 7, some 8, some 9, none, none, none] : List (Option Nat)) 0 (by decide +kernel) j
  rw [Nat.zero_add] at this
  exact this
theorem rr_10 (j : Nat) : inD D0 10 j = true ∨ R1 10 j = none := by
  have := chk_ok (f := inD D0 10) ([some 11, some 12, some 13, some 14, some 15, some 16, none, none, none] : List (Option Nat)) 0 (by decide +kernel) j
  rw [Nat.zero_add] at this
  exact this
theorem rr_17 (j : Nat) : inD D0 17 j = true ∨ R1 17 j = none := by
  have := chk_ok (f := inD D0 17) ([some 18, some 19, some 20, none, none] : List (Option Nat)) 0 (by decide +kernel) j
  rw [Nat.zero_add] at this
  exact this
theorem rr_21 (j : Nat) : inD D0 21 j = true ∨ R1 21 j = none := by
  have := chk_ok (f := inD D0 21) ([some 3, some 10, some 22, some 23, some 24, some 25, some 26, none, none, none, none, none, none] : List (Option Nat)) 0 (by decide +kernel) j
  rw [Nat.zero_add] at this
  exact this
theorem rr_27 (j : Nat) : inD D0 27 j = true ∨ R1 27 j = none := by
  have := chk_ok (f := inD D0 27) ([some 28, some 29, none] : List (Option Nat)) 0 (by decide +kernel) j
  rw [Nat.zero_add] at this
  exact this
theorem rr_30 (j : Nat) : inD D0 30 j = true ∨ R1 30 j = none := by
  have := chk_ok (f := inD D0 30) ([some 31, some 32, none, none, none, none] : List (Option Nat)) 0 (by decide +kernel) j
  rw [Nat.zero_add] at this
  exact this
theorem rr_33 (j : Nat) : inD D0 33 j = true ∨ R1 33 j = none := by
  have := chk_ok (f := inD D0 33) ([some 34, none] : List (Option Nat)) 0 (by decide +kernel) j
  rw [Nat.zero_add] at this
  exact this
theorem rr_35 (j : Nat) : inD D0 35 j = true ∨ R1 35 j = none := by
  have := chk_ok (f := inD D0 35) ([some 33, some 36, some 37, some 38, some 39, some 40, some 41, none, none, none, none, none, none, none, none, none, none, none] : List (Option Nat)) 0 (by decide +kernel) j
  rw [Nat.zero_add] at this
  exact this
theorem rr_42 (j : Nat) : inD D0 42 j = true ∨ R1 42 j = none := by
  have := chk_ok (f := inD D0 42) ([some 35, some 43, some 44, some 45, some 46, none] : List (Option Nat)) 0 (by decide +kernel) j
  rw [Nat.zero_add] at this
  exact this
theorem rr_47 (j : Nat) : inD D0 47 j = true ∨ R1 47 j = none := by
  have := chk_ok (f := inD D0 47) ([none, none, some 48, some 49, some 50, some 53, some 56, some 59, some 62, some 65, none, none, some 68, some 69, some 70, some 1071, some 1072, none, none, some 1073, none, none, none, none, some 1074, none, none, none, none, none, some 1075, some 1076, some 1077, some 1078, some 1079, some 1200, some 1321, some 1322, some 1323, some 1324, some 1325, some 1326] : List (Option Nat)) 0 (by decide +kernel) j
  rw [Nat.zero_add] at this
  exact this
theorem rr_all (k j : Nat) : (isG k || inD D0 k j) = true ∨ R1 k j = none := by
  by_cases e2 : k = 2
  · rw [e2]
    rcases rr_2 j with a | a
    · rw [a, Bool.or_true]; exact Or.inl rfl
    · exact Or.inr a
  by_cases e3 : k = 3
  · rw [e3]
    rcases rr_3 j with a | a
    · rw [a, Bool.or_true]; exact Or.inl rfl
    · exact Or.inr a
  by_cases e10 : k = 10
  · rw [e10]
    rcases rr_10 j with a | a
    · rw [a, Bool.or_true]; exact Or.inl rfl
    · exact Or.inr a
  by_cases e17 : k = 17
  · rw [e17]
    rcases rr_17 j with a | a
    · rw [a, Bool.or_true]; exact Or.inl rfl
    · exact Or.inr a
  by_cases e21 : k = 21
  · rw [e21]
    rcases rr_21 j with a | a
    · rw [a, Bool.or_true]; exact Or.inl rfl
    · exact Or.inr a
  by_cases e27 : k = 27
  · rw [e27]
    rcases rr_27 j with a | a
    · rw [a, Bool.or_true]; exact Or.inl rfl
    · exact Or.inr a
  by_cases e30 : k = 30
  · rw [e30]
    rcases rr_30 j with a | a
    · rw [a, Bool.or_true]; exact Or.inl rfl
    · exact Or.inr a
  by_cases e33 : k = 33
  · rw [e33]
    rcases rr_33 j with a | a
    · rw [a, Bool.or_true]; exact Or.inl rfl
    · exact Or.inr a
  by_cases e35 : k = 35
  · rw [e35]
    rcases rr_35 j with a | a
    · rw [a, Bool.or_true]; exact Or.inl rfl
    · exact Or.inr a
  by_cases e42 : k = 42
  · rw [e42]
    rcases rr_42 j with a | a
    · rw [a, Bool.or_true]; exact Or.inl rfl
    · exact Or.inr a
  by_cases e47 : k = 47
  · rw [e47]
    rcases rr_47 j with a | a
    · rw [a, Bool.or_true]; exact Or.inl rfl
    · exact Or.inr a
  by_cases e50 : k = 50
  · rw [e50]; exact Or.inl rfl
  by_cases e53 : k = 53
  · rw [e53]; exact Or.inl rfl
  by_cases e56 : k = 56
  · rw [e56]; exact Or.inl rfl
  by_cases e59 : k = 59
  · rw [e59]; exact Or.inl rfl
  by_cases e62 : k = 62
  · rw [e62]; exact Or.inl rfl
  by_cases e65 : k = 65
  · rw [e65]; exact Or.inl rfl
  by_cases e70 : k = 70
  · rw [e70]; exact Or.inl rfl
  by_cases e1079 : k = 1079
  · rw [e1079]; exact Or.inl rfl
  by_cases e1200 : k = 1200
  · rw [e1200]; exact Or.inl rfl
  refine Or.inr ?_
  unfold R1
  rw [if_neg e2, if_neg e3, if_neg e10, if_neg e17, if_neg e21, if_neg e27, if_neg e30, if_neg e33, if_neg e35, if_neg e42, if_neg e47, if_neg e50, if_neg e53, if_neg e56, if_neg e59, if_neg e62, if_neg e65, if_neg e70, if_neg e1079, if_neg e1200]
theorem w_0 {k : Nat} (hk : k ≠ 47 ∧ k ≠ 2 ∧ k ≠ 21 ∧ k ≠ 10 ∧ k ≠ 3) (j : Nat) : vW W0 k j = 0 := by
  show (if k = 47 ∧ j = 26 then (-1) else (if k = 47 ∧ j = 1 then 4 else (if k = 2 ∧ j = 12 then 0 else (if k = 2 ∧ j = 11 then 0 else (if k = 2 ∧ j = 10 then (-1) else (if k = 21 ∧ j = 12 then 1 else (if k = 10 ∧ j = 6 then 4 else (if k = 3 ∧ j = 6 then 4 else (if k = 2 ∧ j = 9 then 4 else 0))))))))) = 0
  rw [if_neg (fun q => absurd q.1 (by omega)), if_neg (fun q => absurd q.1 (by omega)), if_neg (fun q => absurd q.1 (by omega)), if_neg (fun q => absurd q.1 (by omega)), if_neg (fun q => absurd q.1 (by omega)), if_neg (fun q => absurd q.1 (by omega)), if_neg (fun q => absurd q.1 (by omega)), if_neg (fun q => absurd q.1 (by omega)), if_neg (fun q => absurd q.1 (by omega))]
def ck0 : ck := ((fun _ => 0, fun _ => 0, fun _ => 0, fun _ => 0), 0, fun _ => 0, 0)
def s0 : st8 := (4, ck0, ck0, (fun _ => 0, fun _ => 0, 0), (fun _ => 0, 0), -1, fun _ => 0, none)
theorem s0_ok : zok s0 := by
  refine ⟨⟨by decide, by decide⟩, kok_0 _ _ _, kok_0 _ _ _, ?_, Nat.zero_le _, fun k => show (0 : Int32).toInt8.toInt32 = 0 by decide⟩
  show cntB (inV (fun _ => 0)) 4096 = 0
  rw [show inV (fun _ => 0) = (fun _ => false) from funext (fun w => b64_0 _)]
  exact cntB_0 4096
theorem Bd.sh {L : Nat} {xs : Nat → Int32} {h : hp} (B : Bd 1327 D0 W0 L xs h) : Sh h := by
  refine ⟨fun k a b => (B.2.2.1 k a b).1, fun k j a b _ => ?_⟩
  rw [(B.2.2.1 k a b).2.1 j]
  rcases rr_all k j with q | q
  · rw [if_pos q]
  · rw [q]; split <;> rfl
theorem Bd.z {L : Nat} {xs : Nat → Int32} {h : hp} (B : Bd 1327 D0 W0 L xs h) {k : Nat} (hk : k ≠ 47 ∧ k ≠ 2 ∧ k ≠ 21 ∧ k ≠ 10 ∧ k ≠ 3) (a : 2 ≤ k) (b : k < 1327) : hI h k = fun _ => 0 := funext fun j => ((B.2.2.1 k a b).2.2.2 j).trans (w_0 hk j)
theorem Bd.m {L : Nat} {xs : Nat → Int32} {h : hp} (B : Bd 1327 D0 W0 L xs h) : MI h s0 := by
  have w : ∀ k j, 2 ≤ k → k < 1327 → hI h k j = vW W0 k j := fun k j a b => (B.2.2.1 k a b).2.2.2 j
  have z : ∀ k, 48 ≤ k → k < 1327 → hI h k = fun _ => 0 := fun k a b => B.z (by omega) (by omega) b
  refine ⟨⟨B.sh, w 47 1 (by decide) (by decide)⟩, ⟨?_, ?_, ?_, ?_⟩, ⟨?_, ?_, ?_, ?_⟩, ⟨?_, ?_, ?_⟩, ⟨?_, ?_, ?_⟩, ?_, Or.inl (w 47 10 (by decide) (by decide)), w 47 18 (by decide) (by decide)⟩
  · unfold cirA; rw [z 51 (by decide) (by decide), z 54 (by decide) (by decide), z 57 (by decide) (by decide), z 60 (by decide) (by decide)]; rfl
  · exact w 48 0 (by decide) (by decide)
  · exact z 63 (by decide) (by decide)
  · exact w 49 0 (by decide) (by decide)
  · unfold cirB; rw [z 52 (by decide) (by decide), z 55 (by decide) (by decide), z 58 (by decide) (by decide), z 61 (by decide) (by decide)]; rfl
  · exact w 48 1 (by decide) (by decide)
  · exact z 64 (by decide) (by decide)
  · exact w 49 1 (by decide) (by decide)
  · exact funext fun j => (B.2.2.1 1071 (by decide) (by decide)).2.2.1 j
  · exact z 1072 (by decide) (by decide)
  · exact w 47 17 (by decide) (by decide)
  · exact z 1074 (by decide) (by decide)
  · exact w 47 25 (by decide) (by decide)
  · exact w 47 26 (by decide) (by decide)
  · exact z 1073 (by decide) (by decide)
theorem Bd.c {L : Nat} {xs : Nat → Int32} {h : hp} (B : Bd 1327 D0 W0 L xs h) : CI h 26 0 s0 := by
  have S := B.sh
  have w : ∀ k j, 2 ≤ k → k < 1327 → hI h k j = vW W0 k j := fun k j a b => (B.2.2.1 k a b).2.2.2 j
  have z : ∀ k, k ≠ 47 ∧ k ≠ 2 ∧ k ≠ 21 ∧ k ≠ 10 ∧ k ≠ 3 ∧ 2 ≤ k ∧ k < 1327 → hI h k = fun _ => 0 := fun k a => B.z (by omega) (by omega) (by omega)
  have n0 : cntB (nz (fun _ => (0 : Int64))) 64 = 0 := by
    rw [show nz (fun _ => (0 : Int64)) = (fun _ => false) from funext (fun w => decide_eq_false (fun q => q rfl))]
    exact cntB_0 64
  have j19 : hJ h 19 = fun _ => 0 := funext fun j => (B.2.2.1 19 (by decide) (by decide)).2.2.1 j
  have r21 : hR h 21 6 = some 26 := by rw [(B.2.2.1 21 (by decide) (by decide)).2.1 6]; rfl
  refine ⟨⟨S, ⟨B.2.1.2.2.1, B.2.1.2.2.2⟩, by rw [B.1.1]; exact Nat.le_refl _⟩, ⟨w 2 9 (by decide) (by decide), w 2 10 (by decide) (by decide)⟩, ⟨⟨?_, w 3 7 (by decide) (by decide), z 8 (by decide), w 3 8 (by decide) (by decide)⟩, w 3 6 (by decide) (by decide)⟩, ⟨⟨?_, w 10 7 (by decide) (by decide), z 15 (by decide), w 10 8 (by decide) (by decide)⟩, w 10 6 (by decide) (by decide)⟩, ⟨j19, z 18 (by decide), w 17 4 (by decide) (by decide), ?_⟩, ⟨z 34 (by decide), w 33 1 (by decide) (by decide), Nat.zero_le _⟩, z 31 (by decide), ⟨⟨r21, k_26 S, Or.inl rfl⟩, by decide, Or.inl (w 21 12 (by decide) (by decide))⟩, Or.inl (w 2 11 (by decide) (by decide)), w 2 12 (by decide) (by decide)⟩
  · show cirH h 3 = _
    unfold cirH; rw [z (3 + 1) (by decide), z (3 + 2) (by decide), z (3 + 3) (by decide), z (3 + 4) (by decide)]; rfl
  · show cirH h 10 = _
    unfold cirH; rw [z (10 + 1) (by decide), z (10 + 2) (by decide), z (10 + 3) (by decide), z (10 + 4) (by decide)]; rfl
  · show VS h _ (cntB (nz (fun _ => (0 : Int64))) 64)
    rw [n0]
    exact ⟨w 17 3 (by decide) (by decide), by decide, fun k hk => absurd hk (Nat.not_lt_zero k), fun q _ hq => absurd (by rw [j19]) hq⟩
/-! ===== the class leaves the reference alone, the reference the class ===== -/
theorem FC.S {h h' : hp} (F : FC h h') (S : Sh h) : Sh h' := ⟨fun k a b => (F.2.1 k b).trans (S.1 k a b), fun k j a b c => (F.2.2 k j b c).trans (S.2 k j a b c)⟩
theorem MI.fc {h h' : hp} {σ : st8} (M : MI h σ) (Z : zok σ) (F : FC h h') : MI h' σ := by
  obtain ⟨m1, m2, m3, m4, m5, m6, m7, m8⟩ := M
  have i : ∀ k, 47 ≤ k → k < 1327 → hI h' k = hI h k := fun k a b => (F.1 k (Or.inr ⟨a, b⟩)).1
  have ij : ∀ k, 47 ≤ k → k < 1327 → hJ h' k = hJ h k := fun k a b => (F.1 k (Or.inr ⟨a, b⟩)).2
  have i47 := i 47 (by decide) (by decide)
  have g : MGr h σ → MGr h' σ := fun G => by
    obtain ⟨g1, ⟨g2, g3, g4, g5⟩, g6, g7⟩ := G
    have hc := zC Z
    exact ⟨by rw [i47]; exact g1, ⟨by rw [i47]; exact g2, fun k hk => by rw [i 68 (by decide) (by decide), i 69 (by decide) (by decide)]; exact g3 k hk, fun k a b => by rw [i 68 (by decide) (by decide), i 69 (by decide) (by decide)]; exact g4 k a b, fun k hk w hw => by rw [ij (71 + k) (by omega) (by omega)]; exact g5 k hk w hw⟩, fun x hx => by rw [i 66 (by decide) (by decide)]; exact g6 x hx, fun x hx => by rw [i 67 (by decide) (by decide)]; exact g7 x hx⟩
  refine ⟨⟨F.S m1.1, by rw [i47]; exact m1.2⟩, ⟨?_, ?_, ?_, ?_⟩, ⟨?_, ?_, ?_, ?_⟩, ⟨?_, ?_, ?_⟩, ⟨?_, ?_, ?_⟩, ?_, ?_, ?_⟩
  · unfold cirA; rw [i 51 (by decide) (by decide), i 54 (by decide) (by decide), i 57 (by decide) (by decide), i 60 (by decide) (by decide)]; exact m2.1
  · rw [i 48 (by decide) (by decide)]; exact m2.2.1
  · rw [i 63 (by decide) (by decide)]; exact m2.2.2.1
  · rw [i 49 (by decide) (by decide)]; exact m2.2.2.2
  · unfold cirB; rw [i 52 (by decide) (by decide), i 55 (by decide) (by decide), i 58 (by decide) (by decide), i 61 (by decide) (by decide)]; exact m3.1
  · rw [i 48 (by decide) (by decide)]; exact m3.2.1
  · rw [i 64 (by decide) (by decide)]; exact m3.2.2.1
  · rw [i 49 (by decide) (by decide)]; exact m3.2.2.2
  · rw [ij 1071 (by decide) (by decide)]; exact m4.1
  · rw [i 1072 (by decide) (by decide)]; exact m4.2.1
  · rw [i47]; exact m4.2.2
  · rw [i 1074 (by decide) (by decide)]; exact m5.1
  · rw [i47]; exact m5.2.1
  · rw [i47]; exact m5.2.2
  · rw [i 1073 (by decide) (by decide)]; exact m6
  · rcases m7 with a | a
    · exact Or.inl (by rw [i47]; exact a)
    · exact Or.inr (g a)
  · unfold MSs at m8 ⊢
    cases q : zs σ with
    | none =>
      rw [q] at m8
      show hI h' 47 18 = 0
      rw [i47]; exact m8
    | some p =>
      rw [q] at m8
      obtain ⟨a1, a2, a3⟩ := m8
      exact ⟨by rw [i47]; exact a1, g a2, by rw [i47]; exact a3⟩
theorem CI.fm {h h' : hp} {ρ e : Nat} {σ : st8} (C : CI h ρ e σ) (F : FM h h') : CI h' ρ e σ := by
  obtain ⟨c1, c2, c3, c4, c5, c6, c7, c8, c9, c10⟩ := C
  have i : ∀ k, k < 47 → hI h' k = hI h k := fun k a => (F.2 k (Or.inl a)).1
  have e3 : h'.2.2 = h.2.2 := F.1
  have hρ : ρ = 26 ∨ 1327 ≤ ρ := c8.1.2.2
  have ej : hJ h' ρ = hJ h ρ := (F.2 ρ (by omega)).2
  have b : zBU h ρ σ → zBU h' ρ σ := fun B => B.to (fun k hk => i k (by omega)) ej e3
  exact ⟨⟨c1.1.to e3, ⟨by show h'.2.2.2.1 1 = _; rw [e3]; exact c1.2.1.1, (F.2 1 (by decide)).2.trans c1.2.1.2⟩, by show 1327 ≤ h'.2.2.2.2; rw [e3]; exact c1.2.2⟩, by rw [i 2 (by decide)]; exact c2, ⟨c3.1.to (fun k _ _ => i k (by omega)), by rw [i 3 (by decide)]; exact c3.2⟩, ⟨c4.1.to (fun k _ _ => i k (by omega)), by rw [i 10 (by decide)]; exact c4.2⟩, c5.to (fun k _ _ => i k (by omega)) (F.2 19 (by decide)).2, ⟨(i 34 (by decide)).trans c6.1, by rw [i 33 (by decide)]; exact c6.2.1, c6.2.2⟩, by rw [i 31 (by decide)]; exact c7, c8.to (fun k hk => i k (by omega)) ej e3, c9.to (by rw [i 2 (by decide)]) b (fun k _ _ => i k (by omega)), c10.to (by rw [i 2 (by decide)]) (i 30 (by decide)) b⟩
/-- both hold the same pure state, the script is there, the room is enough -/
def LI (L : Nat) (xs : Nat → Int32) (h : hp) (bc bs : Nat) : Prop := ∃ ρ e σ, CI h ρ e σ ∧ MI h σ ∧ zok σ ∧ (hK h 0 = (7, L) ∧ hI h 0 = xs) ∧ 6 - e ≤ bc ∧ 62272 * (6 - e) ≤ bs
theorem LI.step {L : Nat} {xs : Nat → Int32} {h : hp} {bc bs ρ e : Nat} {σ σ' : st8} (C : CI h ρ e σ) (M : MI h σ) (Z : zok σ) (X : hK h 0 = (7, L) ∧ hI h 0 = xs) (b1 : 6 - e ≤ bc) (b2 : 62272 * (6 - e) ≤ bs) {j : Nat} {as : List Value} {v : Int32} (cs : CStep j as h e v σ') {j' : Nat} {as' : List Value} (mf : ∀ h1, MI h1 σ → MStep j' as' h1 v σ') (Z' : zok σ') : ∃ h1 h2 mc ms, Run 8 j as h mc ms (some (.int v)) h1 ∧ Run 8 j' as' h1 0 0 (some (.int v)) h2 ∧ (mc ≤ bc ∧ ms ≤ bs) ∧ LI L xs h2 (bc - mc) (bs - ms) ∧ (Sh h1 ∧ hK h1 0 = (7, L) ∧ hI h1 0 = xs) := by
  obtain ⟨h1, ρ', e', mc, ms, R, C1, ⟨a1, a2, a3, a4⟩, F⟩ := cs
  obtain ⟨h2, R2, M2, F2⟩ := mf h1 (M.fc Z F)
  have X1 : hK h1 0 = (7, L) ∧ hI h1 0 = xs := ⟨(F.2.1 0 (by decide)).trans X.1, (F.1 0 (Or.inl rfl)).1.trans X.2⟩
  refine ⟨h1, h2, mc, ms, R, R2, ⟨by omega, by omega⟩, ⟨ρ', e', σ', C1.fm F2, M2, Z', ⟨?_, ?_⟩, by omega, by omega⟩, C1.1.1, X1⟩
  · show h2.2.2.2.1 0 = _
    rw [F2.1]; exact X1.1
  · exact (F2.2 0 (by decide)).1.trans X1.2
