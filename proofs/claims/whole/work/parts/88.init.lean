theorem gr_50 : (∀ i, R1 50 i = if i < 2 then some (50 + 1 + i) else none) ∧ ∀ a, 50 < a → a ≤ 50 + 2 → K1 a = (1, 120) ∧ isG a = false := by
  refine ⟨fun i => ?_, fun a x y => ?_⟩
  · match i with
    | 0 => rfl
    | 1 => rfl
    | i + 2 => exact (if_neg (show ¬ i + 2 < 2 by omega)).symm
  · rcases (show a = 51 ∨ a = 52 by omega) with e | e <;> subst e <;> exact ⟨rfl, rfl⟩
theorem gr_53 : (∀ i, R1 53 i = if i < 2 then some (53 + 1 + i) else none) ∧ ∀ a, 53 < a → a ≤ 53 + 2 → K1 a = (1, 120) ∧ isG a = false := by
  refine ⟨fun i => ?_, fun a x y => ?_⟩
  · match i with
    | 0 => rfl
    | 1 => rfl
    | i + 2 => exact (if_neg (show ¬ i + 2 < 2 by omega)).symm
  · rcases (show a = 54 ∨ a = 55 by omega) with e | e <;> subst e <;> exact ⟨rfl, rfl⟩
theorem gr_56 : (∀ i, R1 56 i = if i < 2 then some (56 + 1 + i) else none) ∧ ∀ a, 56 < a → a ≤ 56 + 2 → K1 a = (1, 120) ∧ isG a = false := by
  refine ⟨fun i => ?_, fun a x y => ?_⟩
  · match i with
    | 0 => rfl
    | 1 => rfl
    | i + 2 => exact (if_neg (show ¬ i + 2 < 2 by omega)).symm
  · rcases (show a = 57 ∨ a = 58 by omega) with e | e <;> subst e <;> exact ⟨rfl, rfl⟩
theorem gr_59 : (∀ i, R1 59 i = if i < 2 then some (59 + 1 + i) else none) ∧ ∀ a, 59 < a → a ≤ 59 + 2 → K1 a = (1, 120) ∧ isG a = false := by
  refine ⟨fun i => ?_, fun a x y => ?_⟩
  · match i with
    | 0 => rfl
    | 1 => rfl
    | i + 2 => exact (if_neg (show ¬ i + 2 < 2 by omega)).symm
  · rcases (show a = 60 ∨ a = 61 by omega) with e | e <;> subst e <;> exact ⟨rfl, rfl⟩
theorem gr_62 : (∀ i, R1 62 i = if i < 2 then some (62 + 1 + i) else none) ∧ ∀ a, 62 < a → a ≤ 62 + 2 → K1 a = (1, 10) ∧ isG a = false := by
  refine ⟨fun i => ?_, fun a x y => ?_⟩
  · match i with
    | 0 => rfl
    | 1 => rfl
    | i + 2 => exact (if_neg (show ¬ i + 2 < 2 by omega)).symm
  · rcases (show a = 63 ∨ a = 64 by omega) with e | e <;> subst e <;> exact ⟨rfl, rfl⟩
theorem gr_65 : (∀ i, R1 65 i = if i < 2 then some (65 + 1 + i) else none) ∧ ∀ a, 65 < a → a ≤ 65 + 2 → K1 a = (1, 120) ∧ isG a = false := by
  refine ⟨fun i => ?_, fun a x y => ?_⟩
  · match i with
    | 0 => rfl
    | 1 => rfl
    | i + 2 => exact (if_neg (show ¬ i + 2 < 2 by omega)).symm
  · rcases (show a = 66 ∨ a = 67 by omega) with e | e <;> subst e <;> exact ⟨rfl, rfl⟩
theorem gr_70 : (∀ i, R1 70 i = if i < 1000 then some (70 + 1 + i) else none) ∧ ∀ a, 70 < a → a ≤ 70 + 1000 → K1 a = (2, 64) ∧ isG a = false := by
  refine ⟨fun i => rfl, fun a x y => ?_⟩
  have e : K1 a = (2, 64) := by
    unfold K1
    rw [if_neg (by omega), if_pos (by omega)]
  exact ⟨e, by unfold isG; rw [e]; rfl⟩
theorem gr_1079 : (∀ i, R1 1079 i = if i < 120 then some (1079 + 1 + i) else none) ∧ ∀ a, 1079 < a → a ≤ 1079 + 120 → K1 a = (1, 3) ∧ isG a = false := by
  refine ⟨fun i => rfl, fun a x y => ?_⟩
  have e : K1 a = (1, 3) := by
    unfold K1
    rw [if_neg (by omega), if_neg (by omega), if_neg (by omega), if_pos (by omega)]
  exact ⟨e, by unfold isG; rw [e]; rfl⟩
theorem gr_1200 : (∀ i, R1 1200 i = if i < 120 then some (1200 + 1 + i) else none) ∧ ∀ a, 1200 < a → a ≤ 1200 + 120 → K1 a = (1, 3) ∧ isG a = false := by
  refine ⟨fun i => rfl, fun a x y => ?_⟩
  have e : K1 a = (1, 3) := by
    unfold K1
    rw [if_neg (by omega), if_neg (by omega), if_neg (by omega), if_neg (by omega), if_neg (by omega), if_pos (by omega)]
  exact ⟨e, by unfold isG; rw [e]; rfl⟩
set_option maxHeartbeats 2000000 in
set_option maxRecDepth 10000 in
theorem in_X2_3 {d : Nat} {D : List (Nat × Nat)} {W : List (Nat × Nat × Int32)} {L : Nat} {xs : Nat → Int32} {h : hp} (B : Bd 4 D W L xs h) : Ex (d + 1) 31 [.ref 3, .int 4] h 6 622 (fun v h' => v = none ∧ Bd 10 ((3, 5) :: (3, 4) :: (3, 3) :: (3, 2) :: (3, 1) :: (3, 0) :: D) ((3, 6, 4) :: W) L xs h') := by
  refine ⟨Nat.le_of_ble_eq_true rfl, ?_⟩
  show Wp (Ex d) 31 _ 0 [(0, .ref 3), (1, .int 4)] [] h 6 622
  refine r_aload_n (q31 (i := 0) rfl) rfl ?_
  refine r_obj (q31 (i := 1) rfl) rfl (Nat.le_of_ble_eq_true rfl) ?_
  refine r_aload_n (q31 (i := 2) rfl) rfl ?_
  refine r_bipush (v := 120) (q31 (i := 3) rfl) (by decide) ?_
  refine b_newa (n := 120) B (q31 (i := 4) rfl) rfl rfl (Nat.le_of_ble_eq_true rfl) (Nat.le_of_ble_eq_true rfl) (by decide) (by decide) (Nat.le_of_ble_eq_true rfl) (Nat.le_of_ble_eq_true rfl) (Nat.le_of_ble_eq_true rfl) (fun h B => ?_)
  refine b_putR B (q31 (i := 5) rfl) rfl (by decide) rfl (Nat.le_of_ble_eq_true rfl) (Nat.le_of_ble_eq_true rfl) rfl (Or.inr ⟨rfl, rfl, rfl⟩) (Or.inr ⟨_, rfl⟩) (fun h B => ?_)
  refine r_aload_n (q31 (i := 6) rfl) rfl ?_
  refine r_bipush (v := 120) (q31 (i := 7) rfl) (by decide) ?_
  refine b_newa (n := 120) B (q31 (i := 8) rfl) rfl rfl (Nat.le_of_ble_eq_true rfl) (Nat.le_of_ble_eq_true rfl) (by decide) (by decide) (Nat.le_of_ble_eq_true rfl) (Nat.le_of_ble_eq_true rfl) (Nat.le_of_ble_eq_true rfl) (fun h B => ?_)
  refine b_putR B (q31 (i := 9) rfl) rfl (by decide) rfl (Nat.le_of_ble_eq_true rfl) (Nat.le_of_ble_eq_true rfl) rfl (Or.inr ⟨rfl, rfl, rfl⟩) (Or.inr ⟨_, rfl⟩) (fun h B => ?_)
  refine r_aload_n (q31 (i := 10) rfl) rfl ?_
  refine r_bipush (v := 120) (q31 (i := 11) rfl) (by decide) ?_
  refine b_newa (n := 120) B (q31 (i := 12) rfl) rfl rfl (Nat.le_of_ble_eq_true rfl) (Nat.le_of_ble_eq_true rfl) (by decide) (by decide) (Nat.le_of_ble_eq_true rfl) (Nat.le_of_ble_eq_true rfl) (Nat.le_of_ble_eq_true rfl) (fun h B => ?_)
  refine b_putR B (q31 (i := 13) rfl) rfl (by decide) rfl (Nat.le_of_ble_eq_true rfl) (Nat.le_of_ble_eq_true rfl) rfl (Or.inr ⟨rfl, rfl, rfl⟩) (Or.inr ⟨_, rfl⟩) (fun h B => ?_)
  refine r_aload_n (q31 (i := 14) rfl) rfl ?_
  refine r_bipush (v := 120) (q31 (i := 15) rfl) (by decide) ?_
  refine b_newa (n := 120) B (q31 (i := 16) rfl) rfl rfl (Nat.le_of_ble_eq_true rfl) (Nat.le_of_ble_eq_true rfl) (by decide) (by decide) (Nat.le_of_ble_eq_true rfl) (Nat.le_of_ble_eq_true rfl) (Nat.le_of_ble_eq_true rfl) (fun h B => ?_)
  refine b_putR B (q31 (i := 17) rfl) rfl (by decide) rfl (Nat.le_of_ble_eq_true rfl) (Nat.le_of_ble_eq_true rfl) rfl (Or.inr ⟨rfl, rfl, rfl⟩) (Or.inr ⟨_, rfl⟩) (fun h B => ?_)
  refine r_aload_n (q31 (i := 18) rfl) rfl ?_
  refine r_bipush (v := 10) (q31 (i := 19) rfl) (by decide) ?_
  refine b_newa (n := 10) B (q31 (i := 20) rfl) rfl rfl (Nat.le_of_ble_eq_true rfl) (Nat.le_of_ble_eq_true rfl) (by decide) (by decide) (Nat.le_of_ble_eq_true rfl) (Nat.le_of_ble_eq_true rfl) (Nat.le_of_ble_eq_true rfl) (fun h B => ?_)
  refine b_putR B (q31 (i := 21) rfl) rfl (by decide) rfl (Nat.le_of_ble_eq_true rfl) (Nat.le_of_ble_eq_true rfl) rfl (Or.inr ⟨rfl, rfl, rfl⟩) (Or.inr ⟨_, rfl⟩) (fun h B => ?_)
  refine r_aload_n (q31 (i := 22) rfl) rfl ?_
  refine r_sipush (v := 132) (q31 (i := 23) rfl) (by decide) ?_
  refine b_newa (n := 132) B (q31 (i := 24) rfl) rfl rfl (Nat.le_of_ble_eq_true rfl) (Nat.le_of_ble_eq_true rfl) (by decide) (by decide) (Nat.le_of_ble_eq_true rfl) (Nat.le_of_ble_eq_true rfl) (Nat.le_of_ble_eq_true rfl) (fun h B => ?_)
  refine b_putR B (q31 (i := 25) rfl) rfl (by decide) rfl (Nat.le_of_ble_eq_true rfl) (Nat.le_of_ble_eq_true rfl) rfl (Or.inr ⟨rfl, rfl, rfl⟩) (Or.inr ⟨_, rfl⟩) (fun h B => ?_)
  refine r_aload_n (q31 (i := 26) rfl) rfl ?_
  refine r_iload_n (q31 (i := 27) rfl) rfl ?_
  refine b_putI B (q31 (i := 28) rfl) rfl (by decide) rfl (Nat.le_of_ble_eq_true rfl) (Nat.le_of_ble_eq_true rfl) rfl rfl (fun h B => ?_)
  exact r_vret (q31 (i := 29) rfl) rfl ⟨rfl, B⟩
set_option maxHeartbeats 2000000 in
set_option maxRecDepth 10000 in
theorem in_X2_10 {d : Nat} {D : List (Nat × Nat)} {W : List (Nat × Nat × Int32)} {L : Nat} {xs : Nat → Int32} {h : hp} (B : Bd 11 D W L xs h) : Ex (d + 1) 31 [.ref 10, .int 4] h 6 622 (fun v h' => v = none ∧ Bd 17 ((10, 5) :: (10, 4) :: (10, 3) :: (10, 2) :: (10, 1) :: (10, 0) :: D) ((10, 6, 4) :: W) L xs h') := by
  refine ⟨Nat.le_of_ble_eq_true rfl, ?_⟩
  show Wp (Ex d) 31 _ 0 [(0, .ref 10), (1, .int 4)] [] h 6 622
  refine r_aload_n (q31 (i := 0) rfl) rfl ?_
  refine r_obj (q31 (i := 1) rfl) rfl (Nat.le_of_ble_eq_true rfl) ?_
  refine r_aload_n (q31 (i := 2) rfl) rfl ?_
  refine r_bipush (v := 120) (q31 (i := 3) rfl) (by decide) ?_
  refine b_newa (n := 120) B (q31 (i := 4) rfl) rfl rfl (Nat.le_of_ble_eq_true rfl) (Nat.le_of_ble_eq_true rfl) (by decide) (by decide) (Nat.le_of_ble_eq_true rfl) (Nat.le_of_ble_eq_true rfl) (Nat.le_of_ble_eq_true rfl) (fun h B => ?_)
  refine b_putR B (q31 (i := 5) rfl) rfl (by decide) rfl (Nat.le_of_ble_eq_true rfl) (Nat.le_of_ble_eq_true rfl) rfl (Or.inr ⟨rfl, rfl, rfl⟩) (Or.inr ⟨_, rfl⟩) (fun h B => ?_)
  refine r_aload_n (q31 (i := 6) rfl) rfl ?_
  refine r_bipush (v := 120) (q31 (i := 7) rfl) (by decide) ?_
  refine b_newa (n := 120) B (q31 (i := 8) rfl) rfl rfl (Nat.le_of_ble_eq_true rfl) (Nat.le_of_ble_eq_true rfl) (by decide) (by decide) (Nat.le_of_ble_eq_true rfl) (Nat.le_of_ble_eq_true rfl) (Nat.le_of_ble_eq_true rfl) (fun h B => ?_)
  refine b_putR B (q31 (i := 9) rfl) rfl (by decide) rfl (Nat.le_of_ble_eq_true rfl) (Nat.le_of_ble_eq_true rfl) rfl (Or.inr ⟨rfl, rfl, rfl⟩) (Or.inr ⟨_, rfl⟩) (fun h B => ?_)
  refine r_aload_n (q31 (i := 10) rfl) rfl ?_
  refine r_bipush (v := 120) (q31 (i := 11) rfl) (by decide) ?_
  refine b_newa (n := 120) B (q31 (i := 12) rfl) rfl rfl (Nat.le_of_ble_eq_true rfl) (Nat.le_of_ble_eq_true rfl) (by decide) (by decide) (Nat.le_of_ble_eq_true rfl) (Nat.le_of_ble_eq_true rfl) (Nat.le_of_ble_eq_true rfl) (fun h B => ?_)
  refine b_putR B (q31 (i := 13) rfl) rfl (by decide) rfl (Nat.le_of_ble_eq_true rfl) (Nat.le_of_ble_eq_true rfl) rfl (Or.inr ⟨rfl, rfl, rfl⟩) (Or.inr ⟨_, rfl⟩) (fun h B => ?_)
  refine r_aload_n (q31 (i := 14) rfl) rfl ?_
  refine r_bipush (v := 120) (q31 (i := 15) rfl) (by decide) ?_
  refine b_newa (n := 120) B (q31 (i := 16) rfl) rfl rfl (Nat.le_of_ble_eq_true rfl) (Nat.le_of_ble_eq_true rfl) (by decide) (by decide) (Nat.le_of_ble_eq_true rfl) (Nat.le_of_ble_eq_true rfl) (Nat.le_of_ble_eq_true rfl) (fun h B => ?_)
  refine b_putR B (q31 (i := 17) rfl) rfl (by decide) rfl (Nat.le_of_ble_eq_true rfl) (Nat.le_of_ble_eq_true rfl) rfl (Or.inr ⟨rfl, rfl, rfl⟩) (Or.inr ⟨_, rfl⟩) (fun h B => ?_)
  refine r_aload_n (q31 (i := 18) rfl) rfl ?_
  refine r_bipush (v := 10) (q31 (i := 19) rfl) (by decide) ?_
  refine b_newa (n := 10) B (q31 (i := 20) rfl) rfl rfl (Nat.le_of_ble_eq_true rfl) (Nat.le_of_ble_eq_true rfl) (by decide) (by decide) (Nat.le_of_ble_eq_true rfl) (Nat.le_of_ble_eq_true rfl) (Nat.le_of_ble_eq_true rfl) (fun h B => ?_)
  refine b_putR B (q31 (i := 21) rfl) rfl (by decide) rfl (Nat.le_of_ble_eq_true rfl) (Nat.le_of_ble_eq_true rfl) rfl (Or.inr ⟨rfl, rfl, rfl⟩) (Or.inr ⟨_, rfl⟩) (fun h B => ?_)
  refine r_aload_n (q31 (i := 22) rfl) rfl ?_
  refine r_sipush (v := 132) (q31 (i := 23) rfl) (by decide) ?_
  refine b_newa (n := 132) B (q31 (i := 24) rfl) rfl rfl (Nat.le_of_ble_eq_true rfl) (Nat.le_of_ble_eq_true rfl) (by decide) (by decide) (Nat.le_of_ble_eq_true rfl) (Nat.le_of_ble_eq_true rfl) (Nat.le_of_ble_eq_true rfl) (fun h B => ?_)
  refine b_putR B (q31 (i := 25) rfl) rfl (by decide) rfl (Nat.le_of_ble_eq_true rfl) (Nat.le_of_ble_eq_true rfl) rfl (Or.inr ⟨rfl, rfl, rfl⟩) (Or.inr ⟨_, rfl⟩) (fun h B => ?_)
  refine r_aload_n (q31 (i := 26) rfl) rfl ?_
  refine r_iload_n (q31 (i := 27) rfl) rfl ?_
  refine b_putI B (q31 (i := 28) rfl) rfl (by decide) rfl (Nat.le_of_ble_eq_true rfl) (Nat.le_of_ble_eq_true rfl) rfl rfl (fun h B => ?_)
  exact r_vret (q31 (i := 29) rfl) rfl ⟨rfl, B⟩
set_option maxHeartbeats 2000000 in
set_option maxRecDepth 10000 in
theorem in_X7_17 {d : Nat} {D : List (Nat × Nat)} {W : List (Nat × Nat × Int32)} {L : Nat} {xs : Nat → Int32} {h : hp} (B : Bd 18 D W L xs h) : Ex (d + 1) 70 [.ref 17] h 3 4224 (fun v h' => v = none ∧ Bd 21 ((17, 2) :: (17, 1) :: (17, 0) :: D) (W) L xs h') := by
  refine ⟨Nat.le_of_ble_eq_true rfl, ?_⟩
  show Wp (Ex d) 70 _ 0 [(0, .ref 17)] [] h 3 4224
  refine r_aload_n (q70 (i := 0) rfl) rfl ?_
  refine r_obj (q70 (i := 1) rfl) rfl (Nat.le_of_ble_eq_true rfl) ?_
  refine r_aload_n (q70 (i := 2) rfl) rfl ?_
  refine r_sipush (v := 4096) (q70 (i := 3) rfl) (by decide) ?_
  refine b_newa (n := 4096) B (q70 (i := 4) rfl) rfl rfl (Nat.le_of_ble_eq_true rfl) (Nat.le_of_ble_eq_true rfl) (by decide) (by decide) (Nat.le_of_ble_eq_true rfl) (Nat.le_of_ble_eq_true rfl) (Nat.le_of_ble_eq_true rfl) (fun h B => ?_)
  refine b_putR B (q70 (i := 5) rfl) rfl (by decide) rfl (Nat.le_of_ble_eq_true rfl) (Nat.le_of_ble_eq_true rfl) rfl (Or.inr ⟨rfl, rfl, rfl⟩) (Or.inr ⟨_, rfl⟩) (fun h B => ?_)
  refine r_aload_n (q70 (i := 6) rfl) rfl ?_
  refine r_bipush (v := 64) (q70 (i := 7) rfl) (by decide) ?_
  refine b_newa (n := 64) B (q70 (i := 8) rfl) rfl rfl (Nat.le_of_ble_eq_true rfl) (Nat.le_of_ble_eq_true rfl) (by decide) (by decide) (Nat.le_of_ble_eq_true rfl) (Nat.le_of_ble_eq_true rfl) (Nat.le_of_ble_eq_true rfl) (fun h B => ?_)
  refine b_putR B (q70 (i := 9) rfl) rfl (by decide) rfl (Nat.le_of_ble_eq_true rfl) (Nat.le_of_ble_eq_true rfl) rfl (Or.inr ⟨rfl, rfl, rfl⟩) (Or.inr ⟨_, rfl⟩) (fun h B => ?_)
  refine r_aload_n (q70 (i := 10) rfl) rfl ?_
  refine r_bipush (v := 64) (q70 (i := 11) rfl) (by decide) ?_
  refine b_newa (n := 64) B (q70 (i := 12) rfl) rfl rfl (Nat.le_of_ble_eq_true rfl) (Nat.le_of_ble_eq_true rfl) (by decide) (by decide) (Nat.le_of_ble_eq_true rfl) (Nat.le_of_ble_eq_true rfl) (Nat.le_of_ble_eq_true rfl) (fun h B => ?_)
  refine b_putR B (q70 (i := 13) rfl) rfl (by decide) rfl (Nat.le_of_ble_eq_true rfl) (Nat.le_of_ble_eq_true rfl) rfl (Or.inr ⟨rfl, rfl, rfl⟩) (Or.inr ⟨_, rfl⟩) (fun h B => ?_)
  exact r_vret (q70 (i := 14) rfl) rfl ⟨rfl, B⟩
set_option maxHeartbeats 2000000 in
set_option maxRecDepth 10000 in
theorem in_X3_21 {d : Nat} {D : List (Nat × Nat)} {W : List (Nat × Nat × Int32)} {L : Nat} {xs : Nat → Int32} {h : hp} (B : Bd 22 D W L xs h) : Ex (d + 1) 39 [.ref 21, .ref 3, .ref 10] h 5 5838 (fun v h' => v = none ∧ Bd 27 ((21, 1) :: (21, 0) :: (21, 6) :: (21, 5) :: (21, 4) :: (21, 3) :: (21, 2) :: D) ((21, 12, 1) :: W) L xs h') := by
  refine ⟨Nat.le_of_ble_eq_true rfl, ?_⟩
  show Wp (Ex d) 39 _ 0 [(0, .ref 21), (1, .ref 3), (2, .ref 10)] [] h 5 5838
  refine r_aload_n (q39 (i := 0) rfl) rfl ?_
  refine r_obj (q39 (i := 1) rfl) rfl (Nat.le_of_ble_eq_true rfl) ?_
  refine r_aload_n (q39 (i := 2) rfl) rfl ?_
  refine r_sipush (v := 973) (q39 (i := 3) rfl) (by decide) ?_
  refine b_newa (n := 973) B (q39 (i := 4) rfl) rfl rfl (Nat.le_of_ble_eq_true rfl) (Nat.le_of_ble_eq_true rfl) (by decide) (by decide) (Nat.le_of_ble_eq_true rfl) (Nat.le_of_ble_eq_true rfl) (Nat.le_of_ble_eq_true rfl) (fun h B => ?_)
  refine b_putR B (q39 (i := 5) rfl) rfl (by decide) rfl (Nat.le_of_ble_eq_true rfl) (Nat.le_of_ble_eq_true rfl) rfl (Or.inr ⟨rfl, rfl, rfl⟩) (Or.inr ⟨_, rfl⟩) (fun h B => ?_)
  refine r_aload_n (q39 (i := 6) rfl) rfl ?_
  refine r_sipush (v := 973) (q39 (i := 7) rfl) (by decide) ?_
  refine b_newa (n := 973) B (q39 (i := 8) rfl) rfl rfl (Nat.le_of_ble_eq_true rfl) (Nat.le_of_ble_eq_true rfl) (by decide) (by decide) (Nat.le_of_ble_eq_true rfl) (Nat.le_of_ble_eq_true rfl) (Nat.le_of_ble_eq_true rfl) (fun h B => ?_)
  refine b_putR B (q39 (i := 9) rfl) rfl (by decide) rfl (Nat.le_of_ble_eq_true rfl) (Nat.le_of_ble_eq_true rfl) rfl (Or.inr ⟨rfl, rfl, rfl⟩) (Or.inr ⟨_, rfl⟩) (fun h B => ?_)
  refine r_aload_n (q39 (i := 10) rfl) rfl ?_
  refine r_sipush (v := 1946) (q39 (i := 11) rfl) (by decide) ?_
  refine b_newa (n := 1946) B (q39 (i := 12) rfl) rfl rfl (Nat.le_of_ble_eq_true rfl) (Nat.le_of_ble_eq_true rfl) (by decide) (by decide) (Nat.le_of_ble_eq_true rfl) (Nat.le_of_ble_eq_true rfl) (Nat.le_of_ble_eq_true rfl) (fun h B => ?_)
  refine b_putR B (q39 (i := 13) rfl) rfl (by decide) rfl (Nat.le_of_ble_eq_true rfl) (Nat.le_of_ble_eq_true rfl) rfl (Or.inr ⟨rfl, rfl, rfl⟩) (Or.inr ⟨_, rfl⟩) (fun h B => ?_)
  refine r_aload_n (q39 (i := 14) rfl) rfl ?_
  refine r_sipush (v := 973) (q39 (i := 15) rfl) (by decide) ?_
  refine b_newa (n := 973) B (q39 (i := 16) rfl) rfl rfl (Nat.le_of_ble_eq_true rfl) (Nat.le_of_ble_eq_true rfl) (by decide) (by decide) (Nat.le_of_ble_eq_true rfl) (Nat.le_of_ble_eq_true rfl) (Nat.le_of_ble_eq_true rfl) (fun h B => ?_)
  refine b_putR B (q39 (i := 17) rfl) rfl (by decide) rfl (Nat.le_of_ble_eq_true rfl) (Nat.le_of_ble_eq_true rfl) rfl (Or.inr ⟨rfl, rfl, rfl⟩) (Or.inr ⟨_, rfl⟩) (fun h B => ?_)
  refine r_aload_n (q39 (i := 18) rfl) rfl ?_
  refine r_sipush (v := 973) (q39 (i := 19) rfl) (by decide) ?_
  refine b_newa (n := 973) B (q39 (i := 20) rfl) rfl rfl (Nat.le_of_ble_eq_true rfl) (Nat.le_of_ble_eq_true rfl) (by decide) (by decide) (Nat.le_of_ble_eq_true rfl) (Nat.le_of_ble_eq_true rfl) (Nat.le_of_ble_eq_true rfl) (fun h B => ?_)
  refine b_putR B (q39 (i := 21) rfl) rfl (by decide) rfl (Nat.le_of_ble_eq_true rfl) (Nat.le_of_ble_eq_true rfl) rfl (Or.inl rfl) (Or.inr ⟨_, rfl⟩) (fun h B => ?_)
  refine r_aload_n (q39 (i := 22) rfl) rfl ?_
  refine r_iconst (v := 1) (q39 (i := 23) rfl) (by decide) ?_
  refine b_putZ B (q39 (i := 24) rfl) rfl (by decide) rfl (Nat.le_of_ble_eq_true rfl) (Nat.le_of_ble_eq_true rfl) rfl rfl (by decide) (fun h B => ?_)
  refine r_aload_n (q39 (i := 25) rfl) rfl ?_
  refine r_aload_n (q39 (i := 26) rfl) rfl ?_
  refine b_putR B (q39 (i := 27) rfl) rfl (by decide) rfl (Nat.le_of_ble_eq_true rfl) (Nat.le_of_ble_eq_true rfl) rfl (Or.inr ⟨rfl, rfl, rfl⟩) (Or.inl ⟨_, rfl⟩) (fun h B => ?_)
  refine r_aload_n (q39 (i := 28) rfl) rfl ?_
  refine r_aload_n (q39 (i := 29) rfl) rfl ?_
  refine b_putR B (q39 (i := 30) rfl) rfl (by decide) rfl (Nat.le_of_ble_eq_true rfl) (Nat.le_of_ble_eq_true rfl) rfl (Or.inr ⟨rfl, rfl, rfl⟩) (Or.inl ⟨_, rfl⟩) (fun h B => ?_)
  exact r_vret (q39 (i := 31) rfl) rfl ⟨rfl, B⟩
set_option maxHeartbeats 2000000 in
set_option maxRecDepth 10000 in
theorem in_X4_27 {d : Nat} {D : List (Nat × Nat)} {W : List (Nat × Nat × Int32)} {L : Nat} {xs : Nat → Int32} {h : hp} (B : Bd 28 D W L xs h) : Ex (d + 1) 56 [.ref 27] h 2 1946 (fun v h' => v = none ∧ Bd 30 ((27, 1) :: (27, 0) :: D) (W) L xs h') := by
  refine ⟨Nat.le_of_ble_eq_true rfl, ?_⟩
  show Wp (Ex d) 56 _ 0 [(0, .ref 27)] [] h 2 1946
  refine r_aload_n (q56 (i := 0) rfl) rfl ?_
  refine r_obj (q56 (i := 1) rfl) rfl (Nat.le_of_ble_eq_true rfl) ?_
  refine r_aload_n (q56 (i := 2) rfl) rfl ?_
  refine r_sipush (v := 973) (q56 (i := 3) rfl) (by decide) ?_
  refine b_newa (n := 973) B (q56 (i := 4) rfl) rfl rfl (Nat.le_of_ble_eq_true rfl) (Nat.le_of_ble_eq_true rfl) (by decide) (by decide) (Nat.le_of_ble_eq_true rfl) (Nat.le_of_ble_eq_true rfl) (Nat.le_of_ble_eq_true rfl) (fun h B => ?_)
  refine b_putR B (q56 (i := 5) rfl) rfl (by decide) rfl (Nat.le_of_ble_eq_true rfl) (Nat.le_of_ble_eq_true rfl) rfl (Or.inr ⟨rfl, rfl, rfl⟩) (Or.inr ⟨_, rfl⟩) (fun h B => ?_)
  refine r_aload_n (q56 (i := 6) rfl) rfl ?_
  refine r_sipush (v := 973) (q56 (i := 7) rfl) (by decide) ?_
  refine b_newa (n := 973) B (q56 (i := 8) rfl) rfl rfl (Nat.le_of_ble_eq_true rfl) (Nat.le_of_ble_eq_true rfl) (by decide) (by decide) (Nat.le_of_ble_eq_true rfl) (Nat.le_of_ble_eq_true rfl) (Nat.le_of_ble_eq_true rfl) (fun h B => ?_)
  refine b_putR B (q56 (i := 9) rfl) rfl (by decide) rfl (Nat.le_of_ble_eq_true rfl) (Nat.le_of_ble_eq_true rfl) rfl (Or.inr ⟨rfl, rfl, rfl⟩) (Or.inr ⟨_, rfl⟩) (fun h B => ?_)
  exact r_vret (q56 (i := 10) rfl) rfl ⟨rfl, B⟩
set_option maxHeartbeats 2000000 in
set_option maxRecDepth 10000 in
theorem in_X5_30 {d : Nat} {D : List (Nat × Nat)} {W : List (Nat × Nat × Int32)} {L : Nat} {xs : Nat → Int32} {h : hp} (B : Bd 31 D W L xs h) : Ex (d + 1) 59 [.ref 30] h 2 1946 (fun v h' => v = none ∧ Bd 33 ((30, 1) :: (30, 0) :: D) (W) L xs h') := by
  refine ⟨Nat.le_of_ble_eq_true rfl, ?_⟩
  show Wp (Ex d) 59 _ 0 [(0, .ref 30)] [] h 2 1946
  refine r_aload_n (q59 (i := 0) rfl) rfl ?_
  refine r_obj (q59 (i := 1) rfl) rfl (Nat.le_of_ble_eq_true rfl) ?_
  refine r_aload_n (q59 (i := 2) rfl) rfl ?_
  refine r_sipush (v := 973) (q59 (i := 3) rfl) (by decide) ?_
  refine b_newa (n := 973) B (q59 (i := 4) rfl) rfl rfl (Nat.le_of_ble_eq_true rfl) (Nat.le_of_ble_eq_true rfl) (by decide) (by decide) (Nat.le_of_ble_eq_true rfl) (Nat.le_of_ble_eq_true rfl) (Nat.le_of_ble_eq_true rfl) (fun h B => ?_)
  refine b_putR B (q59 (i := 5) rfl) rfl (by decide) rfl (Nat.le_of_ble_eq_true rfl) (Nat.le_of_ble_eq_true rfl) rfl (Or.inr ⟨rfl, rfl, rfl⟩) (Or.inr ⟨_, rfl⟩) (fun h B => ?_)
  refine r_aload_n (q59 (i := 6) rfl) rfl ?_
  refine r_sipush (v := 973) (q59 (i := 7) rfl) (by decide) ?_
  refine b_newa (n := 973) B (q59 (i := 8) rfl) rfl rfl (Nat.le_of_ble_eq_true rfl) (Nat.le_of_ble_eq_true rfl) (by decide) (by decide) (Nat.le_of_ble_eq_true rfl) (Nat.le_of_ble_eq_true rfl) (Nat.le_of_ble_eq_true rfl) (fun h B => ?_)
  refine b_putR B (q59 (i := 9) rfl) rfl (by decide) rfl (Nat.le_of_ble_eq_true rfl) (Nat.le_of_ble_eq_true rfl) rfl (Or.inr ⟨rfl, rfl, rfl⟩) (Or.inr ⟨_, rfl⟩) (fun h B => ?_)
  exact r_vret (q59 (i := 10) rfl) rfl ⟨rfl, B⟩
set_option maxHeartbeats 2000000 in
set_option maxRecDepth 10000 in
theorem in_X6_33 {d : Nat} {D : List (Nat × Nat)} {W : List (Nat × Nat × Int32)} {L : Nat} {xs : Nat → Int32} {h : hp} (B : Bd 34 D W L xs h) : Ex (d + 1) 66 [.ref 33] h 1 3000 (fun v h' => v = none ∧ Bd 35 ((33, 0) :: D) (W) L xs h') := by
  refine ⟨Nat.le_of_ble_eq_true rfl, ?_⟩
  show Wp (Ex d) 66 _ 0 [(0, .ref 33)] [] h 1 3000
  refine r_aload_n (q66 (i := 0) rfl) rfl ?_
  refine r_obj (q66 (i := 1) rfl) rfl (Nat.le_of_ble_eq_true rfl) ?_
  refine r_aload_n (q66 (i := 2) rfl) rfl ?_
  refine r_sipush (v := 3000) (q66 (i := 3) rfl) (by decide) ?_
  refine b_newa (n := 3000) B (q66 (i := 4) rfl) rfl rfl (Nat.le_of_ble_eq_true rfl) (Nat.le_of_ble_eq_true rfl) (by decide) (by decide) (Nat.le_of_ble_eq_true rfl) (Nat.le_of_ble_eq_true rfl) (Nat.le_of_ble_eq_true rfl) (fun h B => ?_)
  refine b_putR B (q66 (i := 5) rfl) rfl (by decide) rfl (Nat.le_of_ble_eq_true rfl) (Nat.le_of_ble_eq_true rfl) rfl (Or.inr ⟨rfl, rfl, rfl⟩) (Or.inr ⟨_, rfl⟩) (fun h B => ?_)
  exact r_vret (q66 (i := 6) rfl) rfl ⟨rfl, B⟩
set_option maxHeartbeats 2000000 in
set_option maxRecDepth 10000 in
theorem in_X0_35 {d : Nat} {D : List (Nat × Nat)} {W : List (Nat × Nat × Int32)} {L : Nat} {xs : Nat → Int32} {h : hp} (B : Bd 36 D W L xs h) : Ex (d + 1) 1 [.ref 35, .ref 33] h 6 1626 (fun v h' => v = none ∧ Bd 42 ((35, 0) :: (35, 6) :: (35, 5) :: (35, 4) :: (35, 3) :: (35, 2) :: (35, 1) :: D) (W) L xs h') := by
  refine ⟨Nat.le_of_ble_eq_true rfl, ?_⟩
  show Wp (Ex d) 1 _ 0 [(0, .ref 35), (1, .ref 33)] [] h 6 1626
  refine r_aload_n (q1 (i := 0) rfl) rfl ?_
  refine r_obj (q1 (i := 1) rfl) rfl (Nat.le_of_ble_eq_true rfl) ?_
  refine r_aload_n (q1 (i := 2) rfl) rfl ?_
  refine r_iconst (v := 5) (q1 (i := 3) rfl) (by decide) ?_
  refine b_newa (n := 5) B (q1 (i := 4) rfl) rfl rfl (Nat.le_of_ble_eq_true rfl) (Nat.le_of_ble_eq_true rfl) (by decide) (by decide) (Nat.le_of_ble_eq_true rfl) (Nat.le_of_ble_eq_true rfl) (Nat.le_of_ble_eq_true rfl) (fun h B => ?_)
  refine b_putR B (q1 (i := 5) rfl) rfl (by decide) rfl (Nat.le_of_ble_eq_true rfl) (Nat.le_of_ble_eq_true rfl) rfl (Or.inr ⟨rfl, rfl, rfl⟩) (Or.inr ⟨_, rfl⟩) (fun h B => ?_)
  refine r_aload_n (q1 (i := 6) rfl) rfl ?_
  refine r_iconst (v := 5) (q1 (i := 7) rfl) (by decide) ?_
  refine b_newa (n := 5) B (q1 (i := 8) rfl) rfl rfl (Nat.le_of_ble_eq_true rfl) (Nat.le_of_ble_eq_true rfl) (by decide) (by decide) (Nat.le_of_ble_eq_true rfl) (Nat.le_of_ble_eq_true rfl) (Nat.le_of_ble_eq_true rfl) (fun h B => ?_)
  refine b_putR B (q1 (i := 9) rfl) rfl (by decide) rfl (Nat.le_of_ble_eq_true rfl) (Nat.le_of_ble_eq_true rfl) rfl (Or.inr ⟨rfl, rfl, rfl⟩) (Or.inr ⟨_, rfl⟩) (fun h B => ?_)
  refine r_aload_n (q1 (i := 10) rfl) rfl ?_
  refine r_sipush (v := 1001) (q1 (i := 11) rfl) (by decide) ?_
  refine b_newa (n := 1001) B (q1 (i := 12) rfl) rfl rfl (Nat.le_of_ble_eq_true rfl) (Nat.le_of_ble_eq_true rfl) (by decide) (by decide) (Nat.le_of_ble_eq_true rfl) (Nat.le_of_ble_eq_true rfl) (Nat.le_of_ble_eq_true rfl) (fun h B => ?_)
  refine b_putR B (q1 (i := 13) rfl) rfl (by decide) rfl (Nat.le_of_ble_eq_true rfl) (Nat.le_of_ble_eq_true rfl) rfl (Or.inr ⟨rfl, rfl, rfl⟩) (Or.inr ⟨_, rfl⟩) (fun h B => ?_)
  refine r_aload_n (q1 (i := 14) rfl) rfl ?_
  refine r_sipush (v := 248) (q1 (i := 15) rfl) (by decide) ?_
  refine b_newa (n := 248) B (q1 (i := 16) rfl) rfl rfl (Nat.le_of_ble_eq_true rfl) (Nat.le_of_ble_eq_true rfl) (by decide) (by decide) (Nat.le_of_ble_eq_true rfl) (Nat.le_of_ble_eq_true rfl) (Nat.le_of_ble_eq_true rfl) (fun h B => ?_)
  refine b_putR B (q1 (i := 17) rfl) rfl (by decide) rfl (Nat.le_of_ble_eq_true rfl) (Nat.le_of_ble_eq_true rfl) rfl (Or.inr ⟨rfl, rfl, rfl⟩) (Or.inr ⟨_, rfl⟩) (fun h B => ?_)
  refine r_aload_n (q1 (i := 18) rfl) rfl ?_
  refine r_sipush (v := 248) (q1 (i := 19) rfl) (by decide) ?_
  refine b_newa (n := 248) B (q1 (i := 20) rfl) rfl rfl (Nat.le_of_ble_eq_true rfl) (Nat.le_of_ble_eq_true rfl) (by decide) (by decide) (Nat.le_of_ble_eq_true rfl) (Nat.le_of_ble_eq_true rfl) (Nat.le_of_ble_eq_true rfl) (fun h B => ?_)
  refine b_putR B (q1 (i := 21) rfl) rfl (by decide) rfl (Nat.le_of_ble_eq_true rfl) (Nat.le_of_ble_eq_true rfl) rfl (Or.inr ⟨rfl, rfl, rfl⟩) (Or.inr ⟨_, rfl⟩) (fun h B => ?_)
  refine r_aload_n (q1 (i := 22) rfl) rfl ?_
  refine r_bipush (v := 119) (q1 (i := 23) rfl) (by decide) ?_
  refine b_newa (n := 119) B (q1 (i := 24) rfl) rfl rfl (Nat.le_of_ble_eq_true rfl) (Nat.le_of_ble_eq_true rfl) (by decide) (by decide) (Nat.le_of_ble_eq_true rfl) (Nat.le_of_ble_eq_true rfl) (Nat.le_of_ble_eq_true rfl) (fun h B => ?_)
  refine b_putR B (q1 (i := 25) rfl) rfl (by decide) rfl (Nat.le_of_ble_eq_true rfl) (Nat.le_of_ble_eq_true rfl) rfl (Or.inr ⟨rfl, rfl, rfl⟩) (Or.inr ⟨_, rfl⟩) (fun h B => ?_)
  refine r_aload_n (q1 (i := 26) rfl) rfl ?_
  refine r_aload_n (q1 (i := 27) rfl) rfl ?_
  refine b_putR B (q1 (i := 28) rfl) rfl (by decide) rfl (Nat.le_of_ble_eq_true rfl) (Nat.le_of_ble_eq_true rfl) rfl (Or.inr ⟨rfl, rfl, rfl⟩) (Or.inl ⟨_, rfl⟩) (fun h B => ?_)
  exact r_vret (q1 (i := 29) rfl) rfl ⟨rfl, B⟩
set_option maxHeartbeats 2000000 in
set_option maxRecDepth 10000 in
theorem in_X1_42 {d : Nat} {D : List (Nat × Nat)} {W : List (Nat × Nat × Int32)} {L : Nat} {xs : Nat → Int32} {h : hp} (B : Bd 43 D W L xs h) : Ex (d + 1) 21 [.ref 42, .ref 35] h 4 476 (fun v h' => v = none ∧ Bd 47 ((42, 0) :: (42, 4) :: (42, 3) :: (42, 2) :: (42, 1) :: D) (W) L xs h') := by
  refine ⟨Nat.le_of_ble_eq_true rfl, ?_⟩
  show Wp (Ex d) 21 _ 0 [(0, .ref 42), (1, .ref 35)] [] h 4 476
  refine r_aload_n (q21 (i := 0) rfl) rfl ?_
  refine r_obj (q21 (i := 1) rfl) rfl (Nat.le_of_ble_eq_true rfl) ?_
  refine r_aload_n (q21 (i := 2) rfl) rfl ?_
  refine r_bipush (v := 119) (q21 (i := 3) rfl) (by decide) ?_
  refine b_newa (n := 119) B (q21 (i := 4) rfl) rfl rfl (Nat.le_of_ble_eq_true rfl) (Nat.le_of_ble_eq_true rfl) (by decide) (by decide) (Nat.le_of_ble_eq_true rfl) (Nat.le_of_ble_eq_true rfl) (Nat.le_of_ble_eq_true rfl) (fun h B => ?_)
  refine b_putR B (q21 (i := 5) rfl) rfl (by decide) rfl (Nat.le_of_ble_eq_true rfl) (Nat.le_of_ble_eq_true rfl) rfl (Or.inr ⟨rfl, rfl, rfl⟩) (Or.inr ⟨_, rfl⟩) (fun h B => ?_)
  refine r_aload_n (q21 (i := 6) rfl) rfl ?_
  refine r_bipush (v := 119) (q21 (i := 7) rfl) (by decide) ?_
  refine b_newa (n := 119) B (q21 (i := 8) rfl) rfl rfl (Nat.le_of_ble_eq_true rfl) (Nat.le_of_ble_eq_true rfl) (by decide) (by decide) (Nat.le_of_ble_eq_true rfl) (Nat.le_of_ble_eq_true rfl) (Nat.le_of_ble_eq_true rfl) (fun h B => ?_)
  refine b_putR B (q21 (i := 9) rfl) rfl (by decide) rfl (Nat.le_of_ble_eq_true rfl) (Nat.le_of_ble_eq_true rfl) rfl (Or.inr ⟨rfl, rfl, rfl⟩) (Or.inr ⟨_, rfl⟩) (fun h B => ?_)
  refine r_aload_n (q21 (i := 10) rfl) rfl ?_
  refine r_bipush (v := 119) (q21 (i := 11) rfl) (by decide) ?_
  refine b_newa (n := 119) B (q21 (i := 12) rfl) rfl rfl (Nat.le_of_ble_eq_true rfl) (Nat.le_of_ble_eq_true rfl) (by decide) (by decide) (Nat.le_of_ble_eq_true rfl) (Nat.le_of_ble_eq_true rfl) (Nat.le_of_ble_eq_true rfl) (fun h B => ?_)
  refine b_putR B (q21 (i := 13) rfl) rfl (by decide) rfl (Nat.le_of_ble_eq_true rfl) (Nat.le_of_ble_eq_true rfl) rfl (Or.inr ⟨rfl, rfl, rfl⟩) (Or.inr ⟨_, rfl⟩) (fun h B => ?_)
  refine r_aload_n (q21 (i := 14) rfl) rfl ?_
  refine r_bipush (v := 119) (q21 (i := 15) rfl) (by decide) ?_
  refine b_newa (n := 119) B (q21 (i := 16) rfl) rfl rfl (Nat.le_of_ble_eq_true rfl) (Nat.le_of_ble_eq_true rfl) (by decide) (by decide) (Nat.le_of_ble_eq_true rfl) (Nat.le_of_ble_eq_true rfl) (Nat.le_of_ble_eq_true rfl) (fun h B => ?_)
  refine b_putR B (q21 (i := 17) rfl) rfl (by decide) rfl (Nat.le_of_ble_eq_true rfl) (Nat.le_of_ble_eq_true rfl) rfl (Or.inr ⟨rfl, rfl, rfl⟩) (Or.inr ⟨_, rfl⟩) (fun h B => ?_)
  refine r_aload_n (q21 (i := 18) rfl) rfl ?_
  refine r_aload_n (q21 (i := 19) rfl) rfl ?_
  refine b_putR B (q21 (i := 20) rfl) rfl (by decide) rfl (Nat.le_of_ble_eq_true rfl) (Nat.le_of_ble_eq_true rfl) rfl (Or.inr ⟨rfl, rfl, rfl⟩) (Or.inl ⟨_, rfl⟩) (fun h B => ?_)
  exact r_vret (q21 (i := 21) rfl) rfl ⟨rfl, B⟩
set_option maxHeartbeats 2000000 in
set_option maxRecDepth 10000 in
theorem in_8 {d : Nat} {D : List (Nat × Nat)} {W : List (Nat × Nat × Int32)} {L : Nat} {xs : Nat → Int32} {h : hp} (B : Bd 3 D W L xs h) : Ex (d + 1 + 1) 74 [.ref 2] h 44 20371 (fun v h' => v = none ∧ Bd 47 ((2, 8) :: (42, 0) :: (42, 4) :: (42, 3) :: (42, 2) :: (42, 1) :: (2, 7) :: (35, 0) :: (35, 6) :: (35, 5) :: (35, 4) :: (35, 3) :: (35, 2) :: (35, 1) :: (2, 6) :: (33, 0) :: (2, 5) :: (30, 1) :: (30, 0) :: (2, 4) :: (27, 1) :: (27, 0) :: (2, 3) :: (21, 1) :: (21, 0) :: (21, 6) :: (21, 5) :: (21, 4) :: (21, 3) :: (21, 2) :: (2, 2) :: (17, 2) :: (17, 1) :: (17, 0) :: (2, 1) :: (10, 5) :: (10, 4) :: (10, 3) :: (10, 2) :: (10, 1) :: (10, 0) :: (2, 0) :: (3, 5) :: (3, 4) :: (3, 3) :: (3, 2) :: (3, 1) :: (3, 0) :: D) ((2, 12, 0) :: (2, 11, 0) :: (2, 10, (-1)) :: (21, 12, 1) :: (10, 6, 4) :: (3, 6, 4) :: (2, 9, 4) :: W) L xs h') := by
  refine ⟨Nat.le_of_ble_eq_true rfl, ?_⟩
  show Wp (Ex (d + 1)) 74 _ 0 [(0, .ref 2)] [] h 44 20371
  refine r_aload_n (q74 (i := 0) rfl) rfl ?_
  refine r_obj (q74 (i := 1) rfl) rfl (Nat.le_of_ble_eq_true rfl) ?_
  refine r_aload_n (q74 (i := 2) rfl) rfl ?_
  refine r_iconst (v := 4) (q74 (i := 3) rfl) (by decide) ?_
  refine b_putI B (q74 (i := 4) rfl) rfl (by decide) rfl (Nat.le_of_ble_eq_true rfl) (Nat.le_of_ble_eq_true rfl) rfl rfl (fun h B => ?_)
  refine r_aload_n (q74 (i := 5) rfl) rfl ?_
  refine b_new B (q74 (i := 6) rfl) rfl (by decide) rfl rfl (Nat.le_of_ble_eq_true rfl) (Nat.le_of_ble_eq_true rfl) (fun h B => ?_)
  refine r_dup (q74 (i := 7) rfl) rfl ?_
  refine r_iconst (v := 4) (q74 (i := 8) rfl) (by decide) ?_
  refine b_call (d := _) (n := 1) (mc := 6) (ms := 622) (q74 (i := 9) rfl) rfl (Or.inl rfl) rfl rfl (Nat.le_of_ble_eq_true rfl) (Nat.le_of_ble_eq_true rfl) (Nat.le_of_ble_eq_true rfl) (in_X2_3 B) (fun h B => ?_)
  refine b_putR B (q74 (i := 10) rfl) rfl (by decide) rfl (Nat.le_of_ble_eq_true rfl) (Nat.le_of_ble_eq_true rfl) rfl (Or.inr ⟨rfl, rfl, rfl⟩) (Or.inl ⟨_, rfl⟩) (fun h B => ?_)
  refine r_aload_n (q74 (i := 11) rfl) rfl ?_
  refine b_new B (q74 (i := 12) rfl) rfl (by decide) rfl rfl (Nat.le_of_ble_eq_true rfl) (Nat.le_of_ble_eq_true rfl) (fun h B => ?_)
  refine r_dup (q74 (i := 13) rfl) rfl ?_
  refine r_iconst (v := 4) (q74 (i := 14) rfl) (by decide) ?_
  refine b_call (d := _) (n := 1) (mc := 6) (ms := 622) (q74 (i := 15) rfl) rfl (Or.inl rfl) rfl rfl (Nat.le_of_ble_eq_true rfl) (Nat.le_of_ble_eq_true rfl) (Nat.le_of_ble_eq_true rfl) (in_X2_10 B) (fun h B => ?_)
  refine b_putR B (q74 (i := 16) rfl) rfl (by decide) rfl (Nat.le_of_ble_eq_true rfl) (Nat.le_of_ble_eq_true rfl) rfl (Or.inr ⟨rfl, rfl, rfl⟩) (Or.inl ⟨_, rfl⟩) (fun h B => ?_)
  refine r_aload_n (q74 (i := 17) rfl) rfl ?_
  refine b_new B (q74 (i := 18) rfl) rfl (by decide) rfl rfl (Nat.le_of_ble_eq_true rfl) (Nat.le_of_ble_eq_true rfl) (fun h B => ?_)
  refine r_dup (q74 (i := 19) rfl) rfl ?_
  refine b_call (d := _) (n := 0) (mc := 3) (ms := 4224) (q74 (i := 20) rfl) rfl (Or.inr rfl) rfl rfl (Nat.le_of_ble_eq_true rfl) (Nat.le_of_ble_eq_true rfl) (Nat.le_of_ble_eq_true rfl) (in_X7_17 B) (fun h B => ?_)
  refine b_putR B (q74 (i := 21) rfl) rfl (by decide) rfl (Nat.le_of_ble_eq_true rfl) (Nat.le_of_ble_eq_true rfl) rfl (Or.inr ⟨rfl, rfl, rfl⟩) (Or.inl ⟨_, rfl⟩) (fun h B => ?_)
  refine r_aload_n (q74 (i := 22) rfl) rfl ?_
  refine b_new B (q74 (i := 23) rfl) rfl (by decide) rfl rfl (Nat.le_of_ble_eq_true rfl) (Nat.le_of_ble_eq_true rfl) (fun h B => ?_)
  refine r_dup (q74 (i := 24) rfl) rfl ?_
  refine r_aload_n (q74 (i := 25) rfl) rfl ?_
  refine b_getR B (q74 (i := 26) rfl) rfl (by decide) rfl (Nat.le_of_ble_eq_true rfl) (Nat.le_of_ble_eq_true rfl) (fun _ _ _ => rfl) rfl rfl ?_
  refine r_aload_n (q74 (i := 27) rfl) rfl ?_
  refine b_getR B (q74 (i := 28) rfl) rfl (by decide) rfl (Nat.le_of_ble_eq_true rfl) (Nat.le_of_ble_eq_true rfl) (fun _ _ _ => rfl) rfl rfl ?_
  refine b_call (d := _) (n := 2) (mc := 5) (ms := 5838) (q74 (i := 29) rfl) rfl (Or.inl rfl) rfl rfl (Nat.le_of_ble_eq_true rfl) (Nat.le_of_ble_eq_true rfl) (Nat.le_of_ble_eq_true rfl) (in_X3_21 B) (fun h B => ?_)
  refine b_putR B (q74 (i := 30) rfl) rfl (by decide) rfl (Nat.le_of_ble_eq_true rfl) (Nat.le_of_ble_eq_true rfl) rfl (Or.inr ⟨rfl, rfl, rfl⟩) (Or.inl ⟨_, rfl⟩) (fun h B => ?_)
  refine r_aload_n (q74 (i := 31) rfl) rfl ?_
  refine b_new B (q74 (i := 32) rfl) rfl (by decide) rfl rfl (Nat.le_of_ble_eq_true rfl) (Nat.le_of_ble_eq_true rfl) (fun h B => ?_)
  refine r_dup (q74 (i := 33) rfl) rfl ?_
  refine b_call (d := _) (n := 0) (mc := 2) (ms := 1946) (q74 (i := 34) rfl) rfl (Or.inr rfl) rfl rfl (Nat.le_of_ble_eq_true rfl) (Nat.le_of_ble_eq_true rfl) (Nat.le_of_ble_eq_true rfl) (in_X4_27 B) (fun h B => ?_)
  refine b_putR B (q74 (i := 35) rfl) rfl (by decide) rfl (Nat.le_of_ble_eq_true rfl) (Nat.le_of_ble_eq_true rfl) rfl (Or.inr ⟨rfl, rfl, rfl⟩) (Or.inl ⟨_, rfl⟩) (fun h B => ?_)
  refine r_aload_n (q74 (i := 36) rfl) rfl ?_
  refine b_new B (q74 (i := 37) rfl) rfl (by decide) rfl rfl (Nat.le_of_ble_eq_true rfl) (Nat.le_of_ble_eq_true rfl) (fun h B => ?_)
  refine r_dup (q74 (i := 38) rfl) rfl ?_
  refine b_call (d := _) (n := 0) (mc := 2) (ms := 1946) (q74 (i := 39) rfl) rfl (Or.inr rfl) rfl rfl (Nat.le_of_ble_eq_true rfl) (Nat.le_of_ble_eq_true rfl) (Nat.le_of_ble_eq_true rfl) (in_X5_30 B) (fun h B => ?_)
  refine b_putR B (q74 (i := 40) rfl) rfl (by decide) rfl (Nat.le_of_ble_eq_true rfl) (Nat.le_of_ble_eq_true rfl) rfl (Or.inr ⟨rfl, rfl, rfl⟩) (Or.inl ⟨_, rfl⟩) (fun h B => ?_)
  refine r_aload_n (q74 (i := 41) rfl) rfl ?_
  refine b_new B (q74 (i := 42) rfl) rfl (by decide) rfl rfl (Nat.le_of_ble_eq_true rfl) (Nat.le_of_ble_eq_true rfl) (fun h B => ?_)
  refine r_dup (q74 (i := 43) rfl) rfl ?_
  refine b_call (d := _) (n := 0) (mc := 1) (ms := 3000) (q74 (i := 44) rfl) rfl (Or.inr rfl) rfl rfl (Nat.le_of_ble_eq_true rfl) (Nat.le_of_ble_eq_true rfl) (Nat.le_of_ble_eq_true rfl) (in_X6_33 B) (fun h B => ?_)
  refine b_putR B (q74 (i := 45) rfl) rfl (by decide) rfl (Nat.le_of_ble_eq_true rfl) (Nat.le_of_ble_eq_true rfl) rfl (Or.inr ⟨rfl, rfl, rfl⟩) (Or.inl ⟨_, rfl⟩) (fun h B => ?_)
  refine r_aload_n (q74 (i := 46) rfl) rfl ?_
  refine b_new B (q74 (i := 47) rfl) rfl (by decide) rfl rfl (Nat.le_of_ble_eq_true rfl) (Nat.le_of_ble_eq_true rfl) (fun h B => ?_)
  refine r_dup (q74 (i := 48) rfl) rfl ?_
  refine r_aload_n (q74 (i := 49) rfl) rfl ?_
  refine b_getR B (q74 (i := 50) rfl) rfl (by decide) rfl (Nat.le_of_ble_eq_true rfl) (Nat.le_of_ble_eq_true rfl) (fun _ _ _ => rfl) rfl rfl ?_
  refine b_call (d := _) (n := 1) (mc := 6) (ms := 1626) (q74 (i := 51) rfl) rfl (Or.inl rfl) rfl rfl (Nat.le_of_ble_eq_true rfl) (Nat.le_of_ble_eq_true rfl) (Nat.le_of_ble_eq_true rfl) (in_X0_35 B) (fun h B => ?_)
  refine b_putR B (q74 (i := 52) rfl) rfl (by decide) rfl (Nat.le_of_ble_eq_true rfl) (Nat.le_of_ble_eq_true rfl) rfl (Or.inr ⟨rfl, rfl, rfl⟩) (Or.inl ⟨_, rfl⟩) (fun h B => ?_)
  refine r_aload_n (q74 (i := 53) rfl) rfl ?_
  refine b_new B (q74 (i := 54) rfl) rfl (by decide) rfl rfl (Nat.le_of_ble_eq_true rfl) (Nat.le_of_ble_eq_true rfl) (fun h B => ?_)
  refine r_dup (q74 (i := 55) rfl) rfl ?_
  refine r_aload_n (q74 (i := 56) rfl) rfl ?_
  refine b_getR B (q74 (i := 57) rfl) rfl (by decide) rfl (Nat.le_of_ble_eq_true rfl) (Nat.le_of_ble_eq_true rfl) (fun _ _ _ => rfl) rfl rfl ?_
  refine b_call (d := _) (n := 1) (mc := 4) (ms := 476) (q74 (i := 58) rfl) rfl (Or.inl rfl) rfl rfl (Nat.le_of_ble_eq_true rfl) (Nat.le_of_ble_eq_true rfl) (Nat.le_of_ble_eq_true rfl) (in_X1_42 B) (fun h B => ?_)
  refine b_putR B (q74 (i := 59) rfl) rfl (by decide) rfl (Nat.le_of_ble_eq_true rfl) (Nat.le_of_ble_eq_true rfl) rfl (Or.inr ⟨rfl, rfl, rfl⟩) (Or.inl ⟨_, rfl⟩) (fun h B => ?_)
  refine r_aload_n (q74 (i := 60) rfl) rfl ?_
  refine r_iconst (v := (-1)) (q74 (i := 61) rfl) (by decide) ?_
  refine b_putI B (q74 (i := 62) rfl) rfl (by decide) rfl (Nat.le_of_ble_eq_true rfl) (Nat.le_of_ble_eq_true rfl) rfl rfl (fun h B => ?_)
  refine r_aload_n (q74 (i := 63) rfl) rfl ?_
  refine r_iconst (v := 0) (q74 (i := 64) rfl) (by decide) ?_
  refine b_putZ B (q74 (i := 65) rfl) rfl (by decide) rfl (Nat.le_of_ble_eq_true rfl) (Nat.le_of_ble_eq_true rfl) rfl rfl (by decide) (fun h B => ?_)
  refine r_aload_n (q74 (i := 66) rfl) rfl ?_
  refine r_iconst (v := 0) (q74 (i := 67) rfl) (by decide) ?_
  refine b_putZ B (q74 (i := 68) rfl) rfl (by decide) rfl (Nat.le_of_ble_eq_true rfl) (Nat.le_of_ble_eq_true rfl) rfl rfl (by decide) (fun h B => ?_)
  exact r_vret (q74 (i := 69) rfl) rfl ⟨rfl, B⟩
set_option maxHeartbeats 2000000 in
set_option maxRecDepth 10000 in
theorem in_9 {d : Nat} {D : List (Nat × Nat)} {W : List (Nat × Nat × Int32)} {L : Nat} {xs : Nat → Int32} {h : hp} (B : Bd 48 D W L xs h) : Ex (d + 1) 103 [.ref 47] h 1279 82514 (fun v h' => v = none ∧ Bd 1327 ((47, 41) :: (47, 40) :: (47, 39) :: (47, 38) :: (47, 37) :: (47, 36) :: (47, 35) :: (47, 34) :: (47, 33) :: (47, 32) :: (47, 31) :: (47, 30) :: (47, 24) :: (47, 19) :: (47, 16) :: (47, 15) :: (47, 14) :: (47, 13) :: (47, 12) :: (47, 9) :: (47, 8) :: (47, 7) :: (47, 6) :: (47, 5) :: (47, 4) :: (47, 3) :: (47, 2) :: D) ((47, 26, (-1)) :: (47, 1, 4) :: W) L xs h') := by
  refine ⟨Nat.le_of_ble_eq_true rfl, ?_⟩
  show Wp (Ex d) 103 _ 0 [(0, .ref 47)] [] h 1279 82514
  refine r_aload_n (q103 (i := 0) rfl) rfl ?_
  refine r_obj (q103 (i := 1) rfl) rfl (Nat.le_of_ble_eq_true rfl) ?_
  refine r_aload_n (q103 (i := 2) rfl) rfl ?_
  refine r_iconst (v := 4) (q103 (i := 3) rfl) (by decide) ?_
  refine b_putI B (q103 (i := 4) rfl) rfl (by decide) rfl (Nat.le_of_ble_eq_true rfl) (Nat.le_of_ble_eq_true rfl) rfl rfl (fun h B => ?_)
  refine r_aload_n (q103 (i := 5) rfl) rfl ?_
  refine r_iconst (v := 2) (q103 (i := 6) rfl) (by decide) ?_
  refine b_newa (n := 2) B (q103 (i := 7) rfl) rfl rfl (Nat.le_of_ble_eq_true rfl) (Nat.le_of_ble_eq_true rfl) (by decide) (by decide) (Nat.le_of_ble_eq_true rfl) (Nat.le_of_ble_eq_true rfl) (Nat.le_of_ble_eq_true rfl) (fun h B => ?_)
  refine b_putR B (q103 (i := 8) rfl) rfl (by decide) rfl (Nat.le_of_ble_eq_true rfl) (Nat.le_of_ble_eq_true rfl) rfl (Or.inr ⟨rfl, rfl, rfl⟩) (Or.inr ⟨_, rfl⟩) (fun h B => ?_)
  refine r_aload_n (q103 (i := 9) rfl) rfl ?_
  refine r_iconst (v := 2) (q103 (i := 10) rfl) (by decide) ?_
  refine b_newa (n := 2) B (q103 (i := 11) rfl) rfl rfl (Nat.le_of_ble_eq_true rfl) (Nat.le_of_ble_eq_true rfl) (by decide) (by decide) (Nat.le_of_ble_eq_true rfl) (Nat.le_of_ble_eq_true rfl) (Nat.le_of_ble_eq_true rfl) (fun h B => ?_)
  refine b_putR B (q103 (i := 12) rfl) rfl (by decide) rfl (Nat.le_of_ble_eq_true rfl) (Nat.le_of_ble_eq_true rfl) rfl (Or.inr ⟨rfl, rfl, rfl⟩) (Or.inr ⟨_, rfl⟩) (fun h B => ?_)
  refine r_aload_n (q103 (i := 13) rfl) rfl ?_
  refine r_iconst (v := 2) (q103 (i := 14) rfl) (by decide) ?_
  refine r_bipush (v := 120) (q103 (i := 15) rfl) (by decide) ?_
  refine b_grid (n := 2) (k := 120) (m' := 53) B rfl (q103 (i := 16) rfl) rfl (Or.inl rfl) (by decide) (by decide) (by decide) (by decide) (Nat.le_of_ble_eq_true rfl) (Nat.le_of_ble_eq_true rfl) (Nat.le_of_ble_eq_true rfl) (Nat.le_of_ble_eq_true rfl) rfl rfl gr_50.1 gr_50.2 (fun h B => ?_)
  refine b_putR B (q103 (i := 17) rfl) rfl (by decide) rfl (Nat.le_of_ble_eq_true rfl) (Nat.le_of_ble_eq_true rfl) rfl (Or.inr ⟨rfl, rfl, rfl⟩) (Or.inr ⟨_, rfl⟩) (fun h B => ?_)
  refine r_aload_n (q103 (i := 18) rfl) rfl ?_
  refine r_iconst (v := 2) (q103 (i := 19) rfl) (by decide) ?_
  refine r_bipush (v := 120) (q103 (i := 20) rfl) (by decide) ?_
  refine b_grid (n := 2) (k := 120) (m' := 56) B rfl (q103 (i := 21) rfl) rfl (Or.inl rfl) (by decide) (by decide) (by decide) (by decide) (Nat.le_of_ble_eq_true rfl) (Nat.le_of_ble_eq_true rfl) (Nat.le_of_ble_eq_true rfl) (Nat.le_of_ble_eq_true rfl) rfl rfl gr_53.1 gr_53.2 (fun h B => ?_)
  refine b_putR B (q103 (i := 22) rfl) rfl (by decide) rfl (Nat.le_of_ble_eq_true rfl) (Nat.le_of_ble_eq_true rfl) rfl (Or.inr ⟨rfl, rfl, rfl⟩) (Or.inr ⟨_, rfl⟩) (fun h B => ?_)
  refine r_aload_n (q103 (i := 23) rfl) rfl ?_
  refine r_iconst (v := 2) (q103 (i := 24) rfl) (by decide) ?_
  refine r_bipush (v := 120) (q103 (i := 25) rfl) (by decide) ?_
  refine b_grid (n := 2) (k := 120) (m' := 59) B rfl (q103 (i := 26) rfl) rfl (Or.inl rfl) (by decide) (by decide) (by decide) (by decide) (Nat.le_of_ble_eq_true rfl) (Nat.le_of_ble_eq_true rfl) (Nat.le_of_ble_eq_true rfl) (Nat.le_of_ble_eq_true rfl) rfl rfl gr_56.1 gr_56.2 (fun h B => ?_)
  refine b_putR B (q103 (i := 27) rfl) rfl (by decide) rfl (Nat.le_of_ble_eq_true rfl) (Nat.le_of_ble_eq_true rfl) rfl (Or.inr ⟨rfl, rfl, rfl⟩) (Or.inr ⟨_, rfl⟩) (fun h B => ?_)
  refine r_aload_n (q103 (i := 28) rfl) rfl ?_
  refine r_iconst (v := 2) (q103 (i := 29) rfl) (by decide) ?_
  refine r_bipush (v := 120) (q103 (i := 30) rfl) (by decide) ?_
  refine b_grid (n := 2) (k := 120) (m' := 62) B rfl (q103 (i := 31) rfl) rfl (Or.inl rfl) (by decide) (by decide) (by decide) (by decide) (Nat.le_of_ble_eq_true rfl) (Nat.le_of_ble_eq_true rfl) (Nat.le_of_ble_eq_true rfl) (Nat.le_of_ble_eq_true rfl) rfl rfl gr_59.1 gr_59.2 (fun h B => ?_)
  refine b_putR B (q103 (i := 32) rfl) rfl (by decide) rfl (Nat.le_of_ble_eq_true rfl) (Nat.le_of_ble_eq_true rfl) rfl (Or.inr ⟨rfl, rfl, rfl⟩) (Or.inr ⟨_, rfl⟩) (fun h B => ?_)
  refine r_aload_n (q103 (i := 33) rfl) rfl ?_
  refine r_iconst (v := 2) (q103 (i := 34) rfl) (by decide) ?_
  refine r_bipush (v := 10) (q103 (i := 35) rfl) (by decide) ?_
  refine b_grid (n := 2) (k := 10) (m' := 65) B rfl (q103 (i := 36) rfl) rfl (Or.inl rfl) (by decide) (by decide) (by decide) (by decide) (Nat.le_of_ble_eq_true rfl) (Nat.le_of_ble_eq_true rfl) (Nat.le_of_ble_eq_true rfl) (Nat.le_of_ble_eq_true rfl) rfl rfl gr_62.1 gr_62.2 (fun h B => ?_)
  refine b_putR B (q103 (i := 37) rfl) rfl (by decide) rfl (Nat.le_of_ble_eq_true rfl) (Nat.le_of_ble_eq_true rfl) rfl (Or.inr ⟨rfl, rfl, rfl⟩) (Or.inr ⟨_, rfl⟩) (fun h B => ?_)
  refine r_aload_n (q103 (i := 38) rfl) rfl ?_
  refine r_iconst (v := 2) (q103 (i := 39) rfl) (by decide) ?_
  refine r_bipush (v := 120) (q103 (i := 40) rfl) (by decide) ?_
  refine b_grid (n := 2) (k := 120) (m' := 68) B rfl (q103 (i := 41) rfl) rfl (Or.inl rfl) (by decide) (by decide) (by decide) (by decide) (Nat.le_of_ble_eq_true rfl) (Nat.le_of_ble_eq_true rfl) (Nat.le_of_ble_eq_true rfl) (Nat.le_of_ble_eq_true rfl) rfl rfl gr_65.1 gr_65.2 (fun h B => ?_)
  refine b_putR B (q103 (i := 42) rfl) rfl (by decide) rfl (Nat.le_of_ble_eq_true rfl) (Nat.le_of_ble_eq_true rfl) rfl (Or.inr ⟨rfl, rfl, rfl⟩) (Or.inr ⟨_, rfl⟩) (fun h B => ?_)
  refine r_aload_n (q103 (i := 43) rfl) rfl ?_
  refine r_sipush (v := 1000) (q103 (i := 44) rfl) (by decide) ?_
  refine b_newa (n := 1000) B (q103 (i := 45) rfl) rfl rfl (Nat.le_of_ble_eq_true rfl) (Nat.le_of_ble_eq_true rfl) (by decide) (by decide) (Nat.le_of_ble_eq_true rfl) (Nat.le_of_ble_eq_true rfl) (Nat.le_of_ble_eq_true rfl) (fun h B => ?_)
  refine b_putR B (q103 (i := 46) rfl) rfl (by decide) rfl (Nat.le_of_ble_eq_true rfl) (Nat.le_of_ble_eq_true rfl) rfl (Or.inr ⟨rfl, rfl, rfl⟩) (Or.inr ⟨_, rfl⟩) (fun h B => ?_)
  refine r_aload_n (q103 (i := 47) rfl) rfl ?_
  refine r_sipush (v := 1000) (q103 (i := 48) rfl) (by decide) ?_
  refine b_newa (n := 1000) B (q103 (i := 49) rfl) rfl rfl (Nat.le_of_ble_eq_true rfl) (Nat.le_of_ble_eq_true rfl) (by decide) (by decide) (Nat.le_of_ble_eq_true rfl) (Nat.le_of_ble_eq_true rfl) (Nat.le_of_ble_eq_true rfl) (fun h B => ?_)
  refine b_putR B (q103 (i := 50) rfl) rfl (by decide) rfl (Nat.le_of_ble_eq_true rfl) (Nat.le_of_ble_eq_true rfl) rfl (Or.inr ⟨rfl, rfl, rfl⟩) (Or.inr ⟨_, rfl⟩) (fun h B => ?_)
  refine r_aload_n (q103 (i := 51) rfl) rfl ?_
  refine r_sipush (v := 1000) (q103 (i := 52) rfl) (by decide) ?_
  refine r_bipush (v := 64) (q103 (i := 53) rfl) (by decide) ?_
  refine b_grid (n := 1000) (k := 64) (m' := 1071) B rfl (q103 (i := 54) rfl) rfl (Or.inr rfl) (by decide) (by decide) (by decide) (by decide) (Nat.le_of_ble_eq_true rfl) (Nat.le_of_ble_eq_true rfl) (Nat.le_of_ble_eq_true rfl) (Nat.le_of_ble_eq_true rfl) rfl rfl gr_70.1 gr_70.2 (fun h B => ?_)
  refine b_putR B (q103 (i := 55) rfl) rfl (by decide) rfl (Nat.le_of_ble_eq_true rfl) (Nat.le_of_ble_eq_true rfl) rfl (Or.inr ⟨rfl, rfl, rfl⟩) (Or.inr ⟨_, rfl⟩) (fun h B => ?_)
  refine r_aload_n (q103 (i := 56) rfl) rfl ?_
  refine r_bipush (v := 64) (q103 (i := 57) rfl) (by decide) ?_
  refine b_newa (n := 64) B (q103 (i := 58) rfl) rfl rfl (Nat.le_of_ble_eq_true rfl) (Nat.le_of_ble_eq_true rfl) (by decide) (by decide) (Nat.le_of_ble_eq_true rfl) (Nat.le_of_ble_eq_true rfl) (Nat.le_of_ble_eq_true rfl) (fun h B => ?_)
  refine b_putR B (q103 (i := 59) rfl) rfl (by decide) rfl (Nat.le_of_ble_eq_true rfl) (Nat.le_of_ble_eq_true rfl) rfl (Or.inr ⟨rfl, rfl, rfl⟩) (Or.inr ⟨_, rfl⟩) (fun h B => ?_)
  refine r_aload_n (q103 (i := 60) rfl) rfl ?_
  refine r_sipush (v := 4096) (q103 (i := 61) rfl) (by decide) ?_
  refine b_newa (n := 4096) B (q103 (i := 62) rfl) rfl rfl (Nat.le_of_ble_eq_true rfl) (Nat.le_of_ble_eq_true rfl) (by decide) (by decide) (Nat.le_of_ble_eq_true rfl) (Nat.le_of_ble_eq_true rfl) (Nat.le_of_ble_eq_true rfl) (fun h B => ?_)
  refine b_putR B (q103 (i := 63) rfl) rfl (by decide) rfl (Nat.le_of_ble_eq_true rfl) (Nat.le_of_ble_eq_true rfl) rfl (Or.inr ⟨rfl, rfl, rfl⟩) (Or.inr ⟨_, rfl⟩) (fun h B => ?_)
  refine r_aload_n (q103 (i := 64) rfl) rfl ?_
  refine r_sipush (v := 1000) (q103 (i := 65) rfl) (by decide) ?_
  refine b_newa (n := 1000) B (q103 (i := 66) rfl) rfl rfl (Nat.le_of_ble_eq_true rfl) (Nat.le_of_ble_eq_true rfl) (by decide) (by decide) (Nat.le_of_ble_eq_true rfl) (Nat.le_of_ble_eq_true rfl) (Nat.le_of_ble_eq_true rfl) (fun h B => ?_)
  refine b_putR B (q103 (i := 67) rfl) rfl (by decide) rfl (Nat.le_of_ble_eq_true rfl) (Nat.le_of_ble_eq_true rfl) rfl (Or.inr ⟨rfl, rfl, rfl⟩) (Or.inr ⟨_, rfl⟩) (fun h B => ?_)
  refine r_aload_n (q103 (i := 68) rfl) rfl ?_
  refine r_sipush (v := 3000) (q103 (i := 69) rfl) (by decide) ?_
  refine b_newa (n := 3000) B (q103 (i := 70) rfl) rfl rfl (Nat.le_of_ble_eq_true rfl) (Nat.le_of_ble_eq_true rfl) (by decide) (by decide) (Nat.le_of_ble_eq_true rfl) (Nat.le_of_ble_eq_true rfl) (Nat.le_of_ble_eq_true rfl) (fun h B => ?_)
  refine b_putR B (q103 (i := 71) rfl) rfl (by decide) rfl (Nat.le_of_ble_eq_true rfl) (Nat.le_of_ble_eq_true rfl) rfl (Or.inr ⟨rfl, rfl, rfl⟩) (Or.inr ⟨_, rfl⟩) (fun h B => ?_)
  refine r_aload_n (q103 (i := 72) rfl) rfl ?_
  refine r_iconst (v := (-1)) (q103 (i := 73) rfl) (by decide) ?_
  refine b_putI B (q103 (i := 74) rfl) rfl (by decide) rfl (Nat.le_of_ble_eq_true rfl) (Nat.le_of_ble_eq_true rfl) rfl rfl (fun h B => ?_)
  refine r_aload_n (q103 (i := 75) rfl) rfl ?_
  refine r_iconst (v := 5) (q103 (i := 76) rfl) (by decide) ?_
  refine b_newa (n := 5) B (q103 (i := 77) rfl) rfl rfl (Nat.le_of_ble_eq_true rfl) (Nat.le_of_ble_eq_true rfl) (by decide) (by decide) (Nat.le_of_ble_eq_true rfl) (Nat.le_of_ble_eq_true rfl) (Nat.le_of_ble_eq_true rfl) (fun h B => ?_)
  refine b_putR B (q103 (i := 78) rfl) rfl (by decide) rfl (Nat.le_of_ble_eq_true rfl) (Nat.le_of_ble_eq_true rfl) rfl (Or.inr ⟨rfl, rfl, rfl⟩) (Or.inr ⟨_, rfl⟩) (fun h B => ?_)
  refine r_aload_n (q103 (i := 79) rfl) rfl ?_
  refine r_iconst (v := 5) (q103 (i := 80) rfl) (by decide) ?_
  refine b_newa (n := 5) B (q103 (i := 81) rfl) rfl rfl (Nat.le_of_ble_eq_true rfl) (Nat.le_of_ble_eq_true rfl) (by decide) (by decide) (Nat.le_of_ble_eq_true rfl) (Nat.le_of_ble_eq_true rfl) (Nat.le_of_ble_eq_true rfl) (fun h B => ?_)
  refine b_putR B (q103 (i := 82) rfl) rfl (by decide) rfl (Nat.le_of_ble_eq_true rfl) (Nat.le_of_ble_eq_true rfl) rfl (Or.inr ⟨rfl, rfl, rfl⟩) (Or.inr ⟨_, rfl⟩) (fun h B => ?_)
  refine r_aload_n (q103 (i := 83) rfl) rfl ?_
  refine r_sipush (v := 1002) (q103 (i := 84) rfl) (by decide) ?_
  refine b_newa (n := 1002) B (q103 (i := 85) rfl) rfl rfl (Nat.le_of_ble_eq_true rfl) (Nat.le_of_ble_eq_true rfl) (by decide) (by decide) (Nat.le_of_ble_eq_true rfl) (Nat.le_of_ble_eq_true rfl) (Nat.le_of_ble_eq_true rfl) (fun h B => ?_)
  refine b_putR B (q103 (i := 86) rfl) rfl (by decide) rfl (Nat.le_of_ble_eq_true rfl) (Nat.le_of_ble_eq_true rfl) rfl (Or.inr ⟨rfl, rfl, rfl⟩) (Or.inr ⟨_, rfl⟩) (fun h B => ?_)
  refine r_aload_n (q103 (i := 87) rfl) rfl ?_
  refine r_sipush (v := 1002) (q103 (i := 88) rfl) (by decide) ?_
  refine b_newa (n := 1002) B (q103 (i := 89) rfl) rfl rfl (Nat.le_of_ble_eq_true rfl) (Nat.le_of_ble_eq_true rfl) (by decide) (by decide) (Nat.le_of_ble_eq_true rfl) (Nat.le_of_ble_eq_true rfl) (Nat.le_of_ble_eq_true rfl) (fun h B => ?_)
  refine b_putR B (q103 (i := 90) rfl) rfl (by decide) rfl (Nat.le_of_ble_eq_true rfl) (Nat.le_of_ble_eq_true rfl) rfl (Or.inr ⟨rfl, rfl, rfl⟩) (Or.inr ⟨_, rfl⟩) (fun h B => ?_)
  refine r_aload_n (q103 (i := 91) rfl) rfl ?_
  refine r_bipush (v := 120) (q103 (i := 92) rfl) (by decide) ?_
  refine r_iconst (v := 3) (q103 (i := 93) rfl) (by decide) ?_
  refine b_grid (n := 120) (k := 3) (m' := 1200) B rfl (q103 (i := 94) rfl) rfl (Or.inl rfl) (by decide) (by decide) (by decide) (by decide) (Nat.le_of_ble_eq_true rfl) (Nat.le_of_ble_eq_true rfl) (Nat.le_of_ble_eq_true rfl) (Nat.le_of_ble_eq_true rfl) rfl rfl gr_1079.1 gr_1079.2 (fun h B => ?_)
  refine b_putR B (q103 (i := 95) rfl) rfl (by decide) rfl (Nat.le_of_ble_eq_true rfl) (Nat.le_of_ble_eq_true rfl) rfl (Or.inr ⟨rfl, rfl, rfl⟩) (Or.inr ⟨_, rfl⟩) (fun h B => ?_)
  refine r_aload_n (q103 (i := 96) rfl) rfl ?_
  refine r_bipush (v := 120) (q103 (i := 97) rfl) (by decide) ?_
  refine r_iconst (v := 3) (q103 (i := 98) rfl) (by decide) ?_
  refine b_grid (n := 120) (k := 3) (m' := 1321) B rfl (q103 (i := 99) rfl) rfl (Or.inl rfl) (by decide) (by decide) (by decide) (by decide) (Nat.le_of_ble_eq_true rfl) (Nat.le_of_ble_eq_true rfl) (Nat.le_of_ble_eq_true rfl) (Nat.le_of_ble_eq_true rfl) rfl rfl gr_1200.1 gr_1200.2 (fun h B => ?_)
  refine b_putR B (q103 (i := 100) rfl) rfl (by decide) rfl (Nat.le_of_ble_eq_true rfl) (Nat.le_of_ble_eq_true rfl) rfl (Or.inr ⟨rfl, rfl, rfl⟩) (Or.inr ⟨_, rfl⟩) (fun h B => ?_)
  refine r_aload_n (q103 (i := 101) rfl) rfl ?_
  refine r_bipush (v := 10) (q103 (i := 102) rfl) (by decide) ?_
  refine b_newa (n := 10) B (q103 (i := 103) rfl) rfl rfl (Nat.le_of_ble_eq_true rfl) (Nat.le_of_ble_eq_true rfl) (by decide) (by decide) (Nat.le_of_ble_eq_true rfl) (Nat.le_of_ble_eq_true rfl) (Nat.le_of_ble_eq_true rfl) (fun h B => ?_)
  refine b_putR B (q103 (i := 104) rfl) rfl (by decide) rfl (Nat.le_of_ble_eq_true rfl) (Nat.le_of_ble_eq_true rfl) rfl (Or.inr ⟨rfl, rfl, rfl⟩) (Or.inr ⟨_, rfl⟩) (fun h B => ?_)
  refine r_aload_n (q103 (i := 105) rfl) rfl ?_
  refine r_bipush (v := 10) (q103 (i := 106) rfl) (by decide) ?_
  refine b_newa (n := 10) B (q103 (i := 107) rfl) rfl rfl (Nat.le_of_ble_eq_true rfl) (Nat.le_of_ble_eq_true rfl) (by decide) (by decide) (Nat.le_of_ble_eq_true rfl) (Nat.le_of_ble_eq_true rfl) (Nat.le_of_ble_eq_true rfl) (fun h B => ?_)
  refine b_putR B (q103 (i := 108) rfl) rfl (by decide) rfl (Nat.le_of_ble_eq_true rfl) (Nat.le_of_ble_eq_true rfl) rfl (Or.inr ⟨rfl, rfl, rfl⟩) (Or.inr ⟨_, rfl⟩) (fun h B => ?_)
  refine r_aload_n (q103 (i := 109) rfl) rfl ?_
  refine r_bipush (v := 120) (q103 (i := 110) rfl) (by decide) ?_
  refine b_newa (n := 120) B (q103 (i := 111) rfl) rfl rfl (Nat.le_of_ble_eq_true rfl) (Nat.le_of_ble_eq_true rfl) (by decide) (by decide) (Nat.le_of_ble_eq_true rfl) (Nat.le_of_ble_eq_true rfl) (Nat.le_of_ble_eq_true rfl) (fun h B => ?_)
  refine b_putR B (q103 (i := 112) rfl) rfl (by decide) rfl (Nat.le_of_ble_eq_true rfl) (Nat.le_of_ble_eq_true rfl) rfl (Or.inr ⟨rfl, rfl, rfl⟩) (Or.inr ⟨_, rfl⟩) (fun h B => ?_)
  refine r_aload_n (q103 (i := 113) rfl) rfl ?_
  refine r_sipush (v := 1002) (q103 (i := 114) rfl) (by decide) ?_
  refine b_newa (n := 1002) B (q103 (i := 115) rfl) rfl rfl (Nat.le_of_ble_eq_true rfl) (Nat.le_of_ble_eq_true rfl) (by decide) (by decide) (Nat.le_of_ble_eq_true rfl) (Nat.le_of_ble_eq_true rfl) (Nat.le_of_ble_eq_true rfl) (fun h B => ?_)
  refine b_putR B (q103 (i := 116) rfl) rfl (by decide) rfl (Nat.le_of_ble_eq_true rfl) (Nat.le_of_ble_eq_true rfl) rfl (Or.inr ⟨rfl, rfl, rfl⟩) (Or.inr ⟨_, rfl⟩) (fun h B => ?_)
  refine r_aload_n (q103 (i := 117) rfl) rfl ?_
  refine r_sipush (v := 1002) (q103 (i := 118) rfl) (by decide) ?_
  refine b_newa (n := 1002) B (q103 (i := 119) rfl) rfl rfl (Nat.le_of_ble_eq_true rfl) (Nat.le_of_ble_eq_true rfl) (by decide) (by decide) (Nat.le_of_ble_eq_true rfl) (Nat.le_of_ble_eq_true rfl) (Nat.le_of_ble_eq_true rfl) (fun h B => ?_)
  refine b_putR B (q103 (i := 120) rfl) rfl (by decide) rfl (Nat.le_of_ble_eq_true rfl) (Nat.le_of_ble_eq_true rfl) rfl (Or.inr ⟨rfl, rfl, rfl⟩) (Or.inr ⟨_, rfl⟩) (fun h B => ?_)
  refine r_aload_n (q103 (i := 121) rfl) rfl ?_
  refine r_sipush (v := 1000) (q103 (i := 122) rfl) (by decide) ?_
  refine b_newa (n := 1000) B (q103 (i := 123) rfl) rfl rfl (Nat.le_of_ble_eq_true rfl) (Nat.le_of_ble_eq_true rfl) (by decide) (by decide) (Nat.le_of_ble_eq_true rfl) (Nat.le_of_ble_eq_true rfl) (Nat.le_of_ble_eq_true rfl) (fun h B => ?_)
  refine b_putR B (q103 (i := 124) rfl) rfl (by decide) rfl (Nat.le_of_ble_eq_true rfl) (Nat.le_of_ble_eq_true rfl) rfl (Or.inr ⟨rfl, rfl, rfl⟩) (Or.inr ⟨_, rfl⟩) (fun h B => ?_)
  exact r_vret (q103 (i := 125) rfl) rfl ⟨rfl, B⟩
