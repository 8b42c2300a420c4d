/-! ===== Circuit ===== -/
def pl (s : Int32) : Int32 := if s < 0 then s ^^^ (-1) else s
/-- there is a SIGNAL s among the first n -/
def hasS (n : Int32) (s : Int32) : Int32 := if pl s < n then 1 else 0
theorem hasS01 (n s : Int32) : hasS n s = 0 ∨ hasS n s = 1 := by unfold hasS; split <;> simp
def canT (n g kd a b c : Int32) : Int32 := if kd < 0 then 0 else if 8 < kd then 0 else if 120 ≤ g then 0 else if kd = 8 then 1 else if hasS n a = 0 then 0 else if hasS n b = 0 then 0 else if (kd = 6 ∨ kd = 7) ∧ hasS n c = 0 then 0 else 1
/-- the LITERAL of a SIGNAL -/
def litS (f : Nat → Int32) (n : Int32) (s : Int32) : Int32 := if pl s < n then (if s < 0 then f (pl s).toNatClampNeg ^^^ 1 else f s.toNatClampNeg) else 0
theorem lt0 {a b : Int32} (h : ¬ b ≤ a) : a < b := by rw [← Int32.not_le]; exact h
theorem nlt0 {a b : Int32} (h : b ≤ a) : ¬ a < b := by rw [Int32.not_lt]; exact h
theorem ltz (s : Int32) : s < 0 ↔ s.toBitVec.msb = true := by
  rw [Int32.lt_iff_toInt_lt, BitVec.msb_eq_toInt, decide_eq_true_iff]
  exact Iff.rfl
theorem pl0 (s : Int32) : ¬ pl s < 0 := by
  unfold pl
  split
  · next h =>
    rw [ltz] at h ⊢
    show ¬ (s.toBitVec ^^^ (-1 : Int32).toBitVec).msb = true
    rw [show (-1 : Int32).toBitVec = BitVec.allOnes 32 by decide, BitVec.xor_allOnes, BitVec.msb_not, h]
    decide
  · next h => exact h
theorem pl_nat (s : Int32) {m : Nat} (hm : m < 2 ^ 31) (h : pl s < nI m) : ∃ k : Nat, k < m ∧ pl s = nI k := by
  rcases pk_ix (pl s) hm with q | q | q
  · exact absurd q (pl0 s)
  · exact absurd h (nlt0 q)
  · exact q
set_option maxHeartbeats 2000000 in
set_option maxRecDepth 10000 in
theorem sp_plain {d : Nat} {h : hp} (s : Int32) : Run (d + 1) 38 [.int s] h 0 0 (some (.int (pl s))) h := by
  refine Run.of (Nat.le_of_ble_eq_true rfl) (fun Q hQ => ?_)
  show Wp (Ex (d)) 38 Q 0 [(0, .int s)] [] h 0 0
  refine r_iload_n (q38 (i := 0) rfl) rfl ?_
  refine r_if 10 (q38 (i := 1) rfl) (by decide) (fun c => ?_) (fun c => ?_)
  · have c : 0 ≤ s := c
    refine r_iload_n (q38 (i := 6) rfl) rfl ?_
    exact r_iret (q38 (i := 7) rfl) rfl (by unfold pl at hQ; first | (rw [if_neg (nlt0 c)] at hQ; exact hQ) | (rw [if_pos (lt0 c)] at hQ; exact hQ))
  · have c : ¬ (0 ≤ s) := c
    refine r_iload_n (q38 (i := 2) rfl) rfl ?_
    refine r_iconst (v := (-1)) (q38 (i := 3) rfl) (by decide) ?_
    refine r_ixor (q38 (i := 4) rfl) ?_
    refine r_goto 11 (q38 (i := 5) rfl) (by decide) ?_
    exact r_iret (q38 (i := 7) rfl) rfl (by unfold pl at hQ; first | (rw [if_neg (nlt0 c)] at hQ; exact hQ) | (rw [if_pos (lt0 c)] at hQ; exact hQ))
set_option maxHeartbeats 2000000 in
set_option maxRecDepth 10000 in
theorem sp_hasSignal_3 {d : Nat} {h : hp} (S : Sh h) (s : Int32) : Run (d + 1 + 1) 33 [.ref 3, .int s] h 0 0 (some (.int (hasS (hI h 3 6 + hI h 3 7) s))) h := by
  refine Run.of (Nat.le_of_ble_eq_true rfl) (fun Q hQ => ?_)
  show Wp (Ex (d + 1)) 33 Q 0 [(0, .ref 3), (1, .int s)] [] h 0 0
  refine r_iload_n (q33 (i := 0) rfl) rfl ?_
  refine r_cS (d := _) (q33 (i := 1) rfl) rfl (Nat.le_of_ble_eq_true rfl) rfl rfl (Nat.le_of_ble_eq_true rfl) (Nat.zero_le _) (Nat.zero_le _) (sp_plain s) ?_
  show Wp _ _ _ 4 [(0, .ref 3), (1, .int s)] [.int (pl s)] h _ _
  refine r_aload_n (q33 (i := 2) rfl) rfl ?_
  refine r_getI (x := hI h 3 6) (q33 (i := 3) rfl) rfl (by decide) (k_3 S) (fun _ _ _ => rfl) rfl ?_
  refine r_aload_n (q33 (i := 4) rfl) rfl ?_
  refine r_getI (x := hI h 3 7) (q33 (i := 5) rfl) rfl (by decide) (k_3 S) (fun _ _ _ => rfl) rfl ?_
  refine r_iadd (q33 (i := 6) rfl) ?_
  refine r_icmp 20 (q33 (i := 7) rfl) (by decide) (fun c => ?_) (fun c => ?_)
  · have c : (hI h 3 6) + (hI h 3 7) ≤ pl s := c
    refine r_iconst (v := 0) (q33 (i := 10) rfl) (by decide) ?_
    exact r_zret (q33 (i := 11) rfl) rfl (by decide) (by unfold hasS at hQ; first | (rw [if_pos (lt0 c)] at hQ; exact hQ) | (rw [if_neg (nlt0 c)] at hQ; exact hQ))
  · have c : ¬ ((hI h 3 6) + (hI h 3 7) ≤ pl s) := c
    refine r_iconst (v := 1) (q33 (i := 8) rfl) (by decide) ?_
    refine r_goto 21 (q33 (i := 9) rfl) (by decide) ?_
    exact r_zret (q33 (i := 11) rfl) rfl (by decide) (by unfold hasS at hQ; first | (rw [if_pos (lt0 c)] at hQ; exact hQ) | (rw [if_neg (nlt0 c)] at hQ; exact hQ))
set_option maxHeartbeats 2000000 in
set_option maxRecDepth 10000 in
theorem sp_reset_3 {d : Nat} {h : hp} (S : Sh h) (n : Int32) : Run (d + 1) 32 [.ref 3, .int n] h 0 0 none (sI (sI (sI h 3 6 n) 3 7 0) 3 8 0) := by
  refine Run.of (Nat.le_of_ble_eq_true rfl) (fun Q hQ => ?_)
  show Wp (Ex (d)) 32 Q 0 [(0, .ref 3), (1, .int n)] [] h 0 0
  refine r_aload_n (q32 (i := 0) rfl) rfl ?_
  refine r_iload_n (q32 (i := 1) rfl) rfl ?_
  refine r_putI (q32 (i := 2) rfl) rfl (by decide) (k_3 S) rfl rfl ?_
  refine r_aload_n (q32 (i := 3) rfl) rfl ?_
  refine r_iconst (v := 0) (q32 (i := 4) rfl) (by decide) ?_
  refine r_putI (q32 (i := 5) rfl) rfl (by decide) (k_3 S) rfl rfl ?_
  refine r_aload_n (q32 (i := 6) rfl) rfl ?_
  refine r_iconst (v := 0) (q32 (i := 7) rfl) (by decide) ?_
  refine r_putI (q32 (i := 8) rfl) rfl (by decide) (k_3 S) rfl rfl ?_
  exact r_vret (q32 (i := 9) rfl) rfl hQ
set_option maxHeartbeats 2000000 in
set_option maxRecDepth 10000 in
theorem sp_canTake_3 {d : Nat} {h : hp} (S : Sh h) (kd a b c : Int32) : Run (d + 2 + 1) 34 [.ref 3, .int kd, .int a, .int b, .int c] h 0 0 (some (.int (canT (hI h 3 6 + hI h 3 7) (hI h 3 7) kd a b c))) h := by
  refine Run.of (Nat.le_of_ble_eq_true rfl) (fun Q hQ => ?_)
  show Wp (Ex (d + 2)) 34 Q 0 [(0, .ref 3), (1, .int kd), (2, .int a), (3, .int b), (4, .int c)] [] h 0 0
  refine r_iload_n (q34 (i := 0) rfl) rfl ?_
  refine r_if 19 (q34 (i := 1) rfl) (by decide) (fun c1 => ?_) (fun c1 => ?_)
  · have c1 : kd < 0 := c1
    refine r_iconst (v := 0) (q34 (i := 9) rfl) (by decide) ?_
    exact r_zret (q34 (i := 10) rfl) rfl (by decide) (by unfold canT at hQ; simp_all)
  · have c1 : ¬ (kd < 0) := c1
    refine r_iload_n (q34 (i := 2) rfl) rfl ?_
    refine r_bipush (v := 8) (q34 (i := 3) rfl) (by decide) ?_
    refine r_icmp 19 (q34 (i := 4) rfl) (by decide) (fun c2 => ?_) (fun c2 => ?_)
    · have c2 : 8 < kd := c2
      refine r_iconst (v := 0) (q34 (i := 9) rfl) (by decide) ?_
      exact r_zret (q34 (i := 10) rfl) rfl (by decide) (by unfold canT at hQ; simp_all)
    · have c2 : ¬ (8 < kd) := c2
      refine r_aload_n (q34 (i := 5) rfl) rfl ?_
      refine r_getI (x := hI h 3 7) (q34 (i := 6) rfl) rfl (by decide) (k_3 S) (fun _ _ _ => rfl) rfl ?_
      refine r_bipush (v := 120) (q34 (i := 7) rfl) (by decide) ?_
      refine r_icmp 21 (q34 (i := 8) rfl) (by decide) (fun c3 => ?_) (fun c3 => ?_)
      · have c3 : hI h 3 7 < 120 := c3
        have c3x : ¬ (120 : Int32) ≤ hI h 3 7 := by rw [Int32.not_le]; exact c3
        refine r_iload_n (q34 (i := 11) rfl) rfl ?_
        refine r_bipush (v := 8) (q34 (i := 12) rfl) (by decide) ?_
        refine r_icmp 29 (q34 (i := 13) rfl) (by decide) (fun c4 => ?_) (fun c4 => ?_)
        · have c4 : ¬ kd = 8 := c4
          refine r_iload_n (q34 (i := 16) rfl) rfl ?_
          refine r_bipush (v := 6) (q34 (i := 17) rfl) (by decide) ?_
          refine r_icmp 41 (q34 (i := 18) rfl) (by decide) (fun c5 => ?_) (fun c5 => ?_)
          · have c5 : kd = 6 := c5
            refine r_iconst (v := 1) (q34 (i := 22) rfl) (by decide) ?_
            refine r_goto 46 (q34 (i := 23) rfl) (by decide) ?_
            refine r_istore (ls' := [(5, .int 1), (0, .ref 3), (1, .int kd), (2, .int a), (3, .int b), (4, .int c)]) (q34 (i := 25) rfl) (Nat.le_of_ble_eq_true rfl) rfl ?_
            refine r_aload_n (q34 (i := 26) rfl) rfl ?_
            refine r_iload_n (q34 (i := 27) rfl) rfl ?_
            refine r_cV (d := _) (q34 (i := 28) rfl) rfl rfl rfl (k_3 S) (Nat.le_of_ble_eq_true rfl) (Nat.zero_le _) (Nat.zero_le _) (sp_hasSignal_3 S a) ?_
            show Wp _ _ _ 53 [(5, .int 1), (0, .ref 3), (1, .int kd), (2, .int a), (3, .int b), (4, .int c)] [.int (hasS (hI h 3 6 + hI h 3 7) a)] h _ _
            refine r_if 82 (q34 (i := 29) rfl) (by decide) (fun c7 => ?_) (fun c7 => ?_)
            · have c7 : hasS (hI h 3 6 + hI h 3 7) a = 0 := c7
              refine r_iconst (v := 0) (q34 (i := 42) rfl) (by decide) ?_
              exact r_zret (q34 (i := 43) rfl) rfl (by decide) (by unfold canT at hQ; simp_all)
            · have c7 : ¬ (hasS (hI h 3 6 + hI h 3 7) a = 0) := c7
              refine r_aload_n (q34 (i := 30) rfl) rfl ?_
              refine r_iload_n (q34 (i := 31) rfl) rfl ?_
              refine r_cV (d := _) (q34 (i := 32) rfl) rfl rfl rfl (k_3 S) (Nat.le_of_ble_eq_true rfl) (Nat.zero_le _) (Nat.zero_le _) (sp_hasSignal_3 S b) ?_
              show Wp _ _ _ 61 [(5, .int 1), (0, .ref 3), (1, .int kd), (2, .int a), (3, .int b), (4, .int c)] [.int (hasS (hI h 3 6 + hI h 3 7) b)] h _ _
              refine r_if 82 (q34 (i := 33) rfl) (by decide) (fun c8 => ?_) (fun c8 => ?_)
              · have c8 : hasS (hI h 3 6 + hI h 3 7) b = 0 := c8
                refine r_iconst (v := 0) (q34 (i := 42) rfl) (by decide) ?_
                exact r_zret (q34 (i := 43) rfl) rfl (by decide) (by unfold canT at hQ; simp_all)
              · have c8 : ¬ (hasS (hI h 3 6 + hI h 3 7) b = 0) := c8
                refine r_iload (q34 (i := 34) rfl) rfl ?_
                refine r_if 78 (q34 (i := 35) rfl) (by decide) (fun c => absurd c (show ¬ ((1 : Int32) = 0) from by decide)) (fun _ => ?_)
                refine r_aload_n (q34 (i := 36) rfl) rfl ?_
                refine r_iload (q34 (i := 37) rfl) rfl ?_
                refine r_cV (d := _) (q34 (i := 38) rfl) rfl rfl rfl (k_3 S) (Nat.le_of_ble_eq_true rfl) (Nat.zero_le _) (Nat.zero_le _) (sp_hasSignal_3 S c) ?_
                show Wp _ _ _ 75 [(5, .int 1), (0, .ref 3), (1, .int kd), (2, .int a), (3, .int b), (4, .int c)] [.int (hasS (hI h 3 6 + hI h 3 7) c)] h _ _
                refine r_if 82 (q34 (i := 39) rfl) (by decide) (fun c10 => ?_) (fun c10 => ?_)
                · have c10 : hasS (hI h 3 6 + hI h 3 7) c = 0 := c10
                  refine r_iconst (v := 0) (q34 (i := 42) rfl) (by decide) ?_
                  exact r_zret (q34 (i := 43) rfl) rfl (by decide) (by unfold canT at hQ; simp_all)
                · have c10 : ¬ (hasS (hI h 3 6 + hI h 3 7) c = 0) := c10
                  refine r_iconst (v := 1) (q34 (i := 40) rfl) (by decide) ?_
                  refine r_goto 83 (q34 (i := 41) rfl) (by decide) ?_
                  exact r_zret (q34 (i := 43) rfl) rfl (by decide) (by unfold canT at hQ; simp_all)
          · have c5 : ¬ (kd = 6) := c5
            refine r_iload_n (q34 (i := 19) rfl) rfl ?_
            refine r_bipush (v := 7) (q34 (i := 20) rfl) (by decide) ?_
            refine r_icmp 45 (q34 (i := 21) rfl) (by decide) (fun c6 => ?_) (fun c6 => ?_)
            · have c6 : ¬ kd = 7 := c6
              refine r_iconst (v := 0) (q34 (i := 24) rfl) (by decide) ?_
              refine r_istore (ls' := [(5, .int 0), (0, .ref 3), (1, .int kd), (2, .int a), (3, .int b), (4, .int c)]) (q34 (i := 25) rfl) (Nat.le_of_ble_eq_true rfl) rfl ?_
              refine r_aload_n (q34 (i := 26) rfl) rfl ?_
              refine r_iload_n (q34 (i := 27) rfl) rfl ?_
              refine r_cV (d := _) (q34 (i := 28) rfl) rfl rfl rfl (k_3 S) (Nat.le_of_ble_eq_true rfl) (Nat.zero_le _) (Nat.zero_le _) (sp_hasSignal_3 S a) ?_
              show Wp _ _ _ 53 [(5, .int 0), (0, .ref 3), (1, .int kd), (2, .int a), (3, .int b), (4, .int c)] [.int (hasS (hI h 3 6 + hI h 3 7) a)] h _ _
              refine r_if 82 (q34 (i := 29) rfl) (by decide) (fun c7 => ?_) (fun c7 => ?_)
              · have c7 : hasS (hI h 3 6 + hI h 3 7) a = 0 := c7
                refine r_iconst (v := 0) (q34 (i := 42) rfl) (by decide) ?_
                exact r_zret (q34 (i := 43) rfl) rfl (by decide) (by unfold canT at hQ; simp_all)
              · have c7 : ¬ (hasS (hI h 3 6 + hI h 3 7) a = 0) := c7
                refine r_aload_n (q34 (i := 30) rfl) rfl ?_
                refine r_iload_n (q34 (i := 31) rfl) rfl ?_
                refine r_cV (d := _) (q34 (i := 32) rfl) rfl rfl rfl (k_3 S) (Nat.le_of_ble_eq_true rfl) (Nat.zero_le _) (Nat.zero_le _) (sp_hasSignal_3 S b) ?_
                show Wp _ _ _ 61 [(5, .int 0), (0, .ref 3), (1, .int kd), (2, .int a), (3, .int b), (4, .int c)] [.int (hasS (hI h 3 6 + hI h 3 7) b)] h _ _
                refine r_if 82 (q34 (i := 33) rfl) (by decide) (fun c8 => ?_) (fun c8 => ?_)
                · have c8 : hasS (hI h 3 6 + hI h 3 7) b = 0 := c8
                  refine r_iconst (v := 0) (q34 (i := 42) rfl) (by decide) ?_
                  exact r_zret (q34 (i := 43) rfl) rfl (by decide) (by unfold canT at hQ; simp_all)
                · have c8 : ¬ (hasS (hI h 3 6 + hI h 3 7) b = 0) := c8
                  refine r_iload (q34 (i := 34) rfl) rfl ?_
                  refine r_if 78 (q34 (i := 35) rfl) (by decide) (fun _ => ?_) (fun c => absurd (show (0 : Int32) = 0 from by decide) c)
                  refine r_iconst (v := 1) (q34 (i := 40) rfl) (by decide) ?_
                  refine r_goto 83 (q34 (i := 41) rfl) (by decide) ?_
                  exact r_zret (q34 (i := 43) rfl) rfl (by decide) (by unfold canT at hQ; simp_all)
            · have c6 : ¬ (¬ kd = 7) := c6
              refine r_iconst (v := 1) (q34 (i := 22) rfl) (by decide) ?_
              refine r_goto 46 (q34 (i := 23) rfl) (by decide) ?_
              refine r_istore (ls' := [(5, .int 1), (0, .ref 3), (1, .int kd), (2, .int a), (3, .int b), (4, .int c)]) (q34 (i := 25) rfl) (Nat.le_of_ble_eq_true rfl) rfl ?_
              refine r_aload_n (q34 (i := 26) rfl) rfl ?_
              refine r_iload_n (q34 (i := 27) rfl) rfl ?_
              refine r_cV (d := _) (q34 (i := 28) rfl) rfl rfl rfl (k_3 S) (Nat.le_of_ble_eq_true rfl) (Nat.zero_le _) (Nat.zero_le _) (sp_hasSignal_3 S a) ?_
              show Wp _ _ _ 53 [(5, .int 1), (0, .ref 3), (1, .int kd), (2, .int a), (3, .int b), (4, .int c)] [.int (hasS (hI h 3 6 + hI h 3 7) a)] h _ _
              refine r_if 82 (q34 (i := 29) rfl) (by decide) (fun c7 => ?_) (fun c7 => ?_)
              · have c7 : hasS (hI h 3 6 + hI h 3 7) a = 0 := c7
                refine r_iconst (v := 0) (q34 (i := 42) rfl) (by decide) ?_
                exact r_zret (q34 (i := 43) rfl) rfl (by decide) (by unfold canT at hQ; simp_all)
              · have c7 : ¬ (hasS (hI h 3 6 + hI h 3 7) a = 0) := c7
                refine r_aload_n (q34 (i := 30) rfl) rfl ?_
                refine r_iload_n (q34 (i := 31) rfl) rfl ?_
                refine r_cV (d := _) (q34 (i := 32) rfl) rfl rfl rfl (k_3 S) (Nat.le_of_ble_eq_true rfl) (Nat.zero_le _) (Nat.zero_le _) (sp_hasSignal_3 S b) ?_
                show Wp _ _ _ 61 [(5, .int 1), (0, .ref 3), (1, .int kd), (2, .int a), (3, .int b), (4, .int c)] [.int (hasS (hI h 3 6 + hI h 3 7) b)] h _ _
                refine r_if 82 (q34 (i := 33) rfl) (by decide) (fun c8 => ?_) (fun c8 => ?_)
                · have c8 : hasS (hI h 3 6 + hI h 3 7) b = 0 := c8
                  refine r_iconst (v := 0) (q34 (i := 42) rfl) (by decide) ?_
                  exact r_zret (q34 (i := 43) rfl) rfl (by decide) (by unfold canT at hQ; simp_all)
                · have c8 : ¬ (hasS (hI h 3 6 + hI h 3 7) b = 0) := c8
                  refine r_iload (q34 (i := 34) rfl) rfl ?_
                  refine r_if 78 (q34 (i := 35) rfl) (by decide) (fun c => absurd c (show ¬ ((1 : Int32) = 0) from by decide)) (fun _ => ?_)
                  refine r_aload_n (q34 (i := 36) rfl) rfl ?_
                  refine r_iload (q34 (i := 37) rfl) rfl ?_
                  refine r_cV (d := _) (q34 (i := 38) rfl) rfl rfl rfl (k_3 S) (Nat.le_of_ble_eq_true rfl) (Nat.zero_le _) (Nat.zero_le _) (sp_hasSignal_3 S c) ?_
                  show Wp _ _ _ 75 [(5, .int 1), (0, .ref 3), (1, .int kd), (2, .int a), (3, .int b), (4, .int c)] [.int (hasS (hI h 3 6 + hI h 3 7) c)] h _ _
                  refine r_if 82 (q34 (i := 39) rfl) (by decide) (fun c10 => ?_) (fun c10 => ?_)
                  · have c10 : hasS (hI h 3 6 + hI h 3 7) c = 0 := c10
                    refine r_iconst (v := 0) (q34 (i := 42) rfl) (by decide) ?_
                    exact r_zret (q34 (i := 43) rfl) rfl (by decide) (by unfold canT at hQ; simp_all)
                  · have c10 : ¬ (hasS (hI h 3 6 + hI h 3 7) c = 0) := c10
                    refine r_iconst (v := 1) (q34 (i := 40) rfl) (by decide) ?_
                    refine r_goto 83 (q34 (i := 41) rfl) (by decide) ?_
                    exact r_zret (q34 (i := 43) rfl) rfl (by decide) (by unfold canT at hQ; simp_all)
        · have c4 : ¬ (¬ kd = 8) := c4
          refine r_iconst (v := 1) (q34 (i := 14) rfl) (by decide) ?_
          exact r_zret (q34 (i := 15) rfl) rfl (by decide) (by unfold canT at hQ; simp_all)
      · have c3 : ¬ (hI h 3 7 < 120) := c3
        have c3x : (120 : Int32) ≤ hI h 3 7 := by rw [← Int32.not_lt]; exact c3
        refine r_iconst (v := 0) (q34 (i := 9) rfl) (by decide) ?_
        exact r_zret (q34 (i := 10) rfl) rfl (by decide) (by unfold canT at hQ; simp_all)
set_option maxHeartbeats 2000000 in
set_option maxRecDepth 10000 in
theorem sp_addGate_3 {d : Nat} {h : hp} (S : Sh h) {g : Nat} (hg : hI h 3 7 = nI g) (hg1 : g < 120) (kd a b c : Int32) : Run (d + 1) 35 [.ref 3, .int kd, .int a, .int b, .int c] h 0 0 (some (.int (hI h 3 6 + nI (g + 1) - 1))) (sI (sI (sI (sI (sI h 4 g kd) 5 g a) 6 g b) 7 g c) 3 7 (nI (g + 1))) := by
  refine Run.of (Nat.le_of_ble_eq_true rfl) (fun Q hQ => ?_)
  show Wp (Ex (d)) 35 Q 0 [(0, .ref 3), (1, .int kd), (2, .int a), (3, .int b), (4, .int c)] [] h 0 0
  refine r_aload_n (q35 (i := 0) rfl) rfl ?_
  refine r_getI (x := nI g) (q35 (i := 1) rfl) rfl (by decide) (k_3 S) (fun _ _ _ => rfl) hg ?_
  refine r_bipush (v := 120) (q35 (i := 2) rfl) (by decide) ?_
  refine r_icmp 11 (q35 (i := 3) rfl) (by decide) (fun _ => ?_) (fun c => absurd (show nI g < 120 from nI_lt (b := 120) hg1 (by decide)) c)
  refine r_aload_n (q35 (i := 6) rfl) rfl ?_
  refine r_getR (b := 4) (q35 (i := 7) rfl) rfl (by decide) (k_3 S) (fun _ _ _ => rfl) (r_3_0 S) ?_
  refine r_aload_n (q35 (i := 8) rfl) rfl ?_
  refine r_getI (x := nI g) (q35 (i := 9) rfl) rfl (by decide) (k_3 S) (fun _ _ _ => rfl) hg ?_
  refine r_iload_n (q35 (i := 10) rfl) rfl ?_
  refine r_iasN (q35 (i := 11) rfl) (k_4 S) (by omega) (by decide) ?_
  refine r_aload_n (q35 (i := 12) rfl) rfl ?_
  refine r_getR (b := 5) (q35 (i := 13) rfl) rfl (by decide) (k_3 S) (fun _ _ _ => rfl) (r_3_1 S) ?_
  refine r_aload_n (q35 (i := 14) rfl) rfl ?_
  refine r_getI (x := nI g) (q35 (i := 15) rfl) rfl (by decide) (k_3 S) (fun _ _ _ => rfl) hg ?_
  refine r_iload_n (q35 (i := 16) rfl) rfl ?_
  refine r_iasN (q35 (i := 17) rfl) (k_5 S) (by omega) (by decide) ?_
  refine r_aload_n (q35 (i := 18) rfl) rfl ?_
  refine r_getR (b := 6) (q35 (i := 19) rfl) rfl (by decide) (k_3 S) (fun _ _ _ => rfl) (r_3_2 S) ?_
  refine r_aload_n (q35 (i := 20) rfl) rfl ?_
  refine r_getI (x := nI g) (q35 (i := 21) rfl) rfl (by decide) (k_3 S) (fun _ _ _ => rfl) hg ?_
  refine r_iload_n (q35 (i := 22) rfl) rfl ?_
  refine r_iasN (q35 (i := 23) rfl) (k_6 S) (by omega) (by decide) ?_
  refine r_aload_n (q35 (i := 24) rfl) rfl ?_
  refine r_getR (b := 7) (q35 (i := 25) rfl) rfl (by decide) (k_3 S) (fun _ _ _ => rfl) (r_3_3 S) ?_
  refine r_aload_n (q35 (i := 26) rfl) rfl ?_
  refine r_getI (x := nI g) (q35 (i := 27) rfl) rfl (by decide) (k_3 S) (fun _ _ _ => rfl) hg ?_
  refine r_iload (q35 (i := 28) rfl) rfl ?_
  refine r_iasN (q35 (i := 29) rfl) (k_7 S) (by omega) (by decide) ?_
  refine r_aload_n (q35 (i := 30) rfl) rfl ?_
  refine r_dup (q35 (i := 31) rfl) rfl ?_
  refine r_getI (x := nI g) (q35 (i := 32) rfl) rfl (by decide) (k_3 S) (fun _ _ _ => rfl) hg ?_
  refine r_iconst (v := 1) (q35 (i := 33) rfl) (by decide) ?_
  refine r_iadd (q35 (i := 34) rfl) ?_
  rw [show ((nI g) + 1 : Int32) = nI (g + 1) from nI_1 g]
  refine r_putI (q35 (i := 35) rfl) rfl (by decide) (k_3 S) rfl rfl ?_
  refine r_aload_n (q35 (i := 36) rfl) rfl ?_
  refine r_getI (x := hI h 3 6) (q35 (i := 37) rfl) rfl (by decide) (k_3 S) (fun _ _ _ => rfl) rfl ?_
  refine r_aload_n (q35 (i := 38) rfl) rfl ?_
  refine r_getI (x := nI (g + 1)) (q35 (i := 39) rfl) rfl (by decide) (k_3 S) (fun _ _ _ => rfl) rfl ?_
  refine r_iadd (q35 (i := 40) rfl) ?_
  refine r_iconst (v := 1) (q35 (i := 41) rfl) (by decide) ?_
  refine r_isub (q35 (i := 42) rfl) ?_
  exact r_iret (q35 (i := 43) rfl) rfl hQ
set_option maxHeartbeats 2000000 in
set_option maxRecDepth 10000 in
theorem sp_addOut_3 {d : Nat} {h : hp} (S : Sh h) {g : Nat} (hg : hI h 3 8 = nI g) (hg1 : g < 10) (s : Int32) : Run (d + 1) 36 [.ref 3, .int s] h 0 0 (some (.int (nI (g + 1) - 1))) (sI (sI h 8 g s) 3 8 (nI (g + 1))) := by
  refine Run.of (Nat.le_of_ble_eq_true rfl) (fun Q hQ => ?_)
  show Wp (Ex (d)) 36 Q 0 [(0, .ref 3), (1, .int s)] [] h 0 0
  refine r_aload_n (q36 (i := 0) rfl) rfl ?_
  refine r_getI (x := nI g) (q36 (i := 1) rfl) rfl (by decide) (k_3 S) (fun _ _ _ => rfl) hg ?_
  refine r_bipush (v := 10) (q36 (i := 2) rfl) (by decide) ?_
  refine r_icmp 11 (q36 (i := 3) rfl) (by decide) (fun _ => ?_) (fun c => absurd (show nI g < 10 from nI_lt (b := 10) hg1 (by decide)) c)
  refine r_aload_n (q36 (i := 6) rfl) rfl ?_
  refine r_getR (b := 8) (q36 (i := 7) rfl) rfl (by decide) (k_3 S) (fun _ _ _ => rfl) (r_3_4 S) ?_
  refine r_aload_n (q36 (i := 8) rfl) rfl ?_
  refine r_getI (x := nI g) (q36 (i := 9) rfl) rfl (by decide) (k_3 S) (fun _ _ _ => rfl) hg ?_
  refine r_iload_n (q36 (i := 10) rfl) rfl ?_
  refine r_iasN (q36 (i := 11) rfl) (k_8 S) (by omega) (by decide) ?_
  refine r_aload_n (q36 (i := 12) rfl) rfl ?_
  refine r_dup (q36 (i := 13) rfl) rfl ?_
  refine r_getI (x := nI g) (q36 (i := 14) rfl) rfl (by decide) (k_3 S) (fun _ _ _ => rfl) hg ?_
  refine r_iconst (v := 1) (q36 (i := 15) rfl) (by decide) ?_
  refine r_iadd (q36 (i := 16) rfl) ?_
  rw [show ((nI g) + 1 : Int32) = nI (g + 1) from nI_1 g]
  refine r_putI (q36 (i := 17) rfl) rfl (by decide) (k_3 S) rfl rfl ?_
  refine r_aload_n (q36 (i := 18) rfl) rfl ?_
  refine r_getI (x := nI (g + 1)) (q36 (i := 19) rfl) rfl (by decide) (k_3 S) (fun _ _ _ => rfl) rfl ?_
  refine r_iconst (v := 1) (q36 (i := 20) rfl) (by decide) ?_
  refine r_isub (q36 (i := 21) rfl) ?_
  exact r_iret (q36 (i := 22) rfl) rfl hQ
set_option maxHeartbeats 2000000 in
set_option maxRecDepth 10000 in
theorem sp_hasSignal_10 {d : Nat} {h : hp} (S : Sh h) (s : Int32) : Run (d + 1 + 1) 33 [.ref 10, .int s] h 0 0 (some (.int (hasS (hI h 10 6 + hI h 10 7) s))) h := by
  refine Run.of (Nat.le_of_ble_eq_true rfl) (fun Q hQ => ?_)
  show Wp (Ex (d + 1)) 33 Q 0 [(0, .ref 10), (1, .int s)] [] h 0 0
  refine r_iload_n (q33 (i := 0) rfl) rfl ?_
  refine r_cS (d := _) (q33 (i := 1) rfl) rfl (Nat.le_of_ble_eq_true rfl) rfl rfl (Nat.le_of_ble_eq_true rfl) (Nat.zero_le _) (Nat.zero_le _) (sp_plain s) ?_
  show Wp _ _ _ 4 [(0, .ref 10), (1, .int s)] [.int (pl s)] h _ _
  refine r_aload_n (q33 (i := 2) rfl) rfl ?_
  refine r_getI (x := hI h 10 6) (q33 (i := 3) rfl) rfl (by decide) (k_10 S) (fun _ _ _ => rfl) rfl ?_
  refine r_aload_n (q33 (i := 4) rfl) rfl ?_
  refine r_getI (x := hI h 10 7) (q33 (i := 5) rfl) rfl (by decide) (k_10 S) (fun _ _ _ => rfl) rfl ?_
  refine r_iadd (q33 (i := 6) rfl) ?_
  refine r_icmp 20 (q33 (i := 7) rfl) (by decide) (fun c => ?_) (fun c => ?_)
  · have c : (hI h 10 6) + (hI h 10 7) ≤ pl s := c
    refine r_iconst (v := 0) (q33 (i := 10) rfl) (by decide) ?_
    exact r_zret (q33 (i := 11) rfl) rfl (by decide) (by unfold hasS at hQ; first | (rw [if_pos (lt0 c)] at hQ; exact hQ) | (rw [if_neg (nlt0 c)] at hQ; exact hQ))
  · have c : ¬ ((hI h 10 6) + (hI h 10 7) ≤ pl s) := c
    refine r_iconst (v := 1) (q33 (i := 8) rfl) (by decide) ?_
    refine r_goto 21 (q33 (i := 9) rfl) (by decide) ?_
    exact r_zret (q33 (i := 11) rfl) rfl (by decide) (by unfold hasS at hQ; first | (rw [if_pos (lt0 c)] at hQ; exact hQ) | (rw [if_neg (nlt0 c)] at hQ; exact hQ))
set_option maxHeartbeats 2000000 in
set_option maxRecDepth 10000 in
theorem sp_reset_10 {d : Nat} {h : hp} (S : Sh h) (n : Int32) : Run (d + 1) 32 [.ref 10, .int n] h 0 0 none (sI (sI (sI h 10 6 n) 10 7 0) 10 8 0) := by
  refine Run.of (Nat.le_of_ble_eq_true rfl) (fun Q hQ => ?_)
  show Wp (Ex (d)) 32 Q 0 [(0, .ref 10), (1, .int n)] [] h 0 0
  refine r_aload_n (q32 (i := 0) rfl) rfl ?_
  refine r_iload_n (q32 (i := 1) rfl) rfl ?_
  refine r_putI (q32 (i := 2) rfl) rfl (by decide) (k_10 S) rfl rfl ?_
  refine r_aload_n (q32 (i := 3) rfl) rfl ?_
  refine r_iconst (v := 0) (q32 (i := 4) rfl) (by decide) ?_
  refine r_putI (q32 (i := 5) rfl) rfl (by decide) (k_10 S) rfl rfl ?_
  refine r_aload_n (q32 (i := 6) rfl) rfl ?_
  refine r_iconst (v := 0) (q32 (i := 7) rfl) (by decide) ?_
  refine r_putI (q32 (i := 8) rfl) rfl (by decide) (k_10 S) rfl rfl ?_
  exact r_vret (q32 (i := 9) rfl) rfl hQ
set_option maxHeartbeats 2000000 in
set_option maxRecDepth 10000 in
theorem sp_canTake_10 {d : Nat} {h : hp} (S : Sh h) (kd a b c : Int32) : Run (d + 2 + 1) 34 [.ref 10, .int kd, .int a, .int b, .int c] h 0 0 (some (.int (canT (hI h 10 6 + hI h 10 7) (hI h 10 7) kd a b c))) h := by
  refine Run.of (Nat.le_of_ble_eq_true rfl) (fun Q hQ => ?_)
  show Wp (Ex (d + 2)) 34 Q 0 [(0, .ref 10), (1, .int kd), (2, .int a), (3, .int b), (4, .int c)] [] h 0 0
  refine r_iload_n (q34 (i := 0) rfl) rfl ?_
  refine r_if 19 (q34 (i := 1) rfl) (by decide) (fun c1 => ?_) (fun c1 => ?_)
  · have c1 : kd < 0 := c1
    refine r_iconst (v := 0) (q34 (i := 9) rfl) (by decide) ?_
    exact r_zret (q34 (i := 10) rfl) rfl (by decide) (by unfold canT at hQ; simp_all)
  · have c1 : ¬ (kd < 0) := c1
    refine r_iload_n (q34 (i := 2) rfl) rfl ?_
    refine r_bipush (v := 8) (q34 (i := 3) rfl) (by decide) ?_
    refine r_icmp 19 (q34 (i := 4) rfl) (by decide) (fun c2 => ?_) (fun c2 => ?_)
    · have c2 : 8 < kd := c2
      refine r_iconst (v := 0) (q34 (i := 9) rfl) (by decide) ?_
      exact r_zret (q34 (i := 10) rfl) rfl (by decide) (by unfold canT at hQ; simp_all)
    · have c2 : ¬ (8 < kd) := c2
      refine r_aload_n (q34 (i := 5) rfl) rfl ?_
      refine r_getI (x := hI h 10 7) (q34 (i := 6) rfl) rfl (by decide) (k_10 S) (fun _ _ _ => rfl) rfl ?_
      refine r_bipush (v := 120) (q34 (i := 7) rfl) (by decide) ?_
      refine r_icmp 21 (q34 (i := 8) rfl) (by decide) (fun c3 => ?_) (fun c3 => ?_)
      · have c3 : hI h 10 7 < 120 := c3
        have c3x : ¬ (120 : Int32) ≤ hI h 10 7 := by rw [Int32.not_le]; exact c3
        refine r_iload_n (q34 (i := 11) rfl) rfl ?_
        refine r_bipush (v := 8) (q34 (i := 12) rfl) (by decide) ?_
        refine r_icmp 29 (q34 (i := 13) rfl) (by decide) (fun c4 => ?_) (fun c4 => ?_)
        · have c4 : ¬ kd = 8 := c4
          refine r_iload_n (q34 (i := 16) rfl) rfl ?_
          refine r_bipush (v := 6) (q34 (i := 17) rfl) (by decide) ?_
          refine r_icmp 41 (q34 (i := 18) rfl) (by decide) (fun c5 => ?_) (fun c5 => ?_)
          · have c5 : kd = 6 := c5
            refine r_iconst (v := 1) (q34 (i := 22) rfl) (by decide) ?_
            refine r_goto 46 (q34 (i := 23) rfl) (by decide) ?_
            refine r_istore (ls' := [(5, .int 1), (0, .ref 10), (1, .int kd), (2, .int a), (3, .int b), (4, .int c)]) (q34 (i := 25) rfl) (Nat.le_of_ble_eq_true rfl) rfl ?_
            refine r_aload_n (q34 (i := 26) rfl) rfl ?_
            refine r_iload_n (q34 (i := 27) rfl) rfl ?_
            refine r_cV (d := _) (q34 (i := 28) rfl) rfl rfl rfl (k_10 S) (Nat.le_of_ble_eq_true rfl) (Nat.zero_le _) (Nat.zero_le _) (sp_hasSignal_10 S a) ?_
            show Wp _ _ _ 53 [(5, .int 1), (0, .ref 10), (1, .int kd), (2, .int a), (3, .int b), (4, .int c)] [.int (hasS (hI h 10 6 + hI h 10 7) a)] h _ _
            refine r_if 82 (q34 (i := 29) rfl) (by decide) (fun c7 => ?_) (fun c7 => ?_)
            · have c7 : hasS (hI h 10 6 + hI h 10 7) a = 0 := c7
              refine r_iconst (v := 0) (q34 (i := 42) rfl) (by decide) ?_
              exact r_zret (q34 (i := 43) rfl) rfl (by decide) (by unfold canT at hQ; simp_all)
            · have c7 : ¬ (hasS (hI h 10 6 + hI h 10 7) a = 0) := c7
              refine r_aload_n (q34 (i := 30) rfl) rfl ?_
              refine r_iload_n (q34 (i := 31) rfl) rfl ?_
              refine r_cV (d := _) (q34 (i := 32) rfl) rfl rfl rfl (k_10 S) (Nat.le_of_ble_eq_true rfl) (Nat.zero_le _) (Nat.zero_le _) (sp_hasSignal_10 S b) ?_
              show Wp _ _ _ 61 [(5, .int 1), (0, .ref 10), (1, .int kd), (2, .int a), (3, .int b), (4, .int c)] [.int (hasS (hI h 10 6 + hI h 10 7) b)] h _ _
              refine r_if 82 (q34 (i := 33) rfl) (by decide) (fun c8 => ?_) (fun c8 => ?_)
              · have c8 : hasS (hI h 10 6 + hI h 10 7) b = 0 := c8
                refine r_iconst (v := 0) (q34 (i := 42) rfl) (by decide) ?_
                exact r_zret (q34 (i := 43) rfl) rfl (by decide) (by unfold canT at hQ; simp_all)
              · have c8 : ¬ (hasS (hI h 10 6 + hI h 10 7) b = 0) := c8
                refine r_iload (q34 (i := 34) rfl) rfl ?_
                refine r_if 78 (q34 (i := 35) rfl) (by decide) (fun c => absurd c (show ¬ ((1 : Int32) = 0) from by decide)) (fun _ => ?_)
                refine r_aload_n (q34 (i := 36) rfl) rfl ?_
                refine r_iload (q34 (i := 37) rfl) rfl ?_
                refine r_cV (d := _) (q34 (i := 38) rfl) rfl rfl rfl (k_10 S) (Nat.le_of_ble_eq_true rfl) (Nat.zero_le _) (Nat.zero_le _) (sp_hasSignal_10 S c) ?_
                show Wp _ _ _ 75 [(5, .int 1), (0, .ref 10), (1, .int kd), (2, .int a), (3, .int b), (4, .int c)] [.int (hasS (hI h 10 6 + hI h 10 7) c)] h _ _
                refine r_if 82 (q34 (i := 39) rfl) (by decide) (fun c10 => ?_) (fun c10 => ?_)
                · have c10 : hasS (hI h 10 6 + hI h 10 7) c = 0 := c10
                  refine r_iconst (v := 0) (q34 (i := 42) rfl) (by decide) ?_
                  exact r_zret (q34 (i := 43) rfl) rfl (by decide) (by unfold canT at hQ; simp_all)
                · have c10 : ¬ (hasS (hI h 10 6 + hI h 10 7) c = 0) := c10
                  refine r_iconst (v := 1) (q34 (i := 40) rfl) (by decide) ?_
                  refine r_goto 83 (q34 (i := 41) rfl) (by decide) ?_
                  exact r_zret (q34 (i := 43) rfl) rfl (by decide) (by unfold canT at hQ; simp_all)
          · have c5 : ¬ (kd = 6) := c5
            refine r_iload_n (q34 (i := 19) rfl) rfl ?_
            refine r_bipush (v := 7) (q34 (i := 20) rfl) (by decide) ?_
            refine r_icmp 45 (q34 (i := 21) rfl) (by decide) (fun c6 => ?_) (fun c6 => ?_)
            · have c6 : ¬ kd = 7 := c6
              refine r_iconst (v := 0) (q34 (i := 24) rfl) (by decide) ?_
              refine r_istore (ls' := [(5, .int 0), (0, .ref 10), (1, .int kd), (2, .int a), (3, .int b), (4, .int c)]) (q34 (i := 25) rfl) (Nat.le_of_ble_eq_true rfl) rfl ?_
              refine r_aload_n (q34 (i := 26) rfl) rfl ?_
              refine r_iload_n (q34 (i := 27) rfl) rfl ?_
              refine r_cV (d := _) (q34 (i := 28) rfl) rfl rfl rfl (k_10 S) (Nat.le_of_ble_eq_true rfl) (Nat.zero_le _) (Nat.zero_le _) (sp_hasSignal_10 S a) ?_
              show Wp _ _ _ 53 [(5, .int 0), (0, .ref 10), (1, .int kd), (2, .int a), (3, .int b), (4, .int c)] [.int (hasS (hI h 10 6 + hI h 10 7) a)] h _ _
              refine r_if 82 (q34 (i := 29) rfl) (by decide) (fun c7 => ?_) (fun c7 => ?_)
              · have c7 : hasS (hI h 10 6 + hI h 10 7) a = 0 := c7
                refine r_iconst (v := 0) (q34 (i := 42) rfl) (by decide) ?_
                exact r_zret (q34 (i := 43) rfl) rfl (by decide) (by unfold canT at hQ; simp_all)
              · have c7 : ¬ (hasS (hI h 10 6 + hI h 10 7) a = 0) := c7
                refine r_aload_n (q34 (i := 30) rfl) rfl ?_
                refine r_iload_n (q34 (i := 31) rfl) rfl ?_
                refine r_cV (d := _) (q34 (i := 32) rfl) rfl rfl rfl (k_10 S) (Nat.le_of_ble_eq_true rfl) (Nat.zero_le _) (Nat.zero_le _) (sp_hasSignal_10 S b) ?_
                show Wp _ _ _ 61 [(5, .int 0), (0, .ref 10), (1, .int kd), (2, .int a), (3, .int b), (4, .int c)] [.int (hasS (hI h 10 6 + hI h 10 7) b)] h _ _
                refine r_if 82 (q34 (i := 33) rfl) (by decide) (fun c8 => ?_) (fun c8 => ?_)
                · have c8 : hasS (hI h 10 6 + hI h 10 7) b = 0 := c8
                  refine r_iconst (v := 0) (q34 (i := 42) rfl) (by decide) ?_
                  exact r_zret (q34 (i := 43) rfl) rfl (by decide) (by unfold canT at hQ; simp_all)
                · have c8 : ¬ (hasS (hI h 10 6 + hI h 10 7) b = 0) := c8
                  refine r_iload (q34 (i := 34) rfl) rfl ?_
                  refine r_if 78 (q34 (i := 35) rfl) (by decide) (fun _ => ?_) (fun c => absurd (show (0 : Int32) = 0 from by decide) c)
                  refine r_iconst (v := 1) (q34 (i := 40) rfl) (by decide) ?_
                  refine r_goto 83 (q34 (i := 41) rfl) (by decide) ?_
                  exact r_zret (q34 (i := 43) rfl) rfl (by decide) (by unfold canT at hQ; simp_all)
            · have c6 : ¬ (¬ kd = 7) := c6
              refine r_iconst (v := 1) (q34 (i := 22) rfl) (by decide) ?_
              refine r_goto 46 (q34 (i := 23) rfl) (by decide) ?_
              refine r_istore (ls' := [(5, .int 1), (0, .ref 10), (1, .int kd), (2, .int a), (3, .int b), (4, .int c)]) (q34 (i := 25) rfl) (Nat.le_of_ble_eq_true rfl) rfl ?_
              refine r_aload_n (q34 (i := 26) rfl) rfl ?_
              refine r_iload_n (q34 (i := 27) rfl) rfl ?_
              refine r_cV (d := _) (q34 (i := 28) rfl) rfl rfl rfl (k_10 S) (Nat.le_of_ble_eq_true rfl) (Nat.zero_le _) (Nat.zero_le _) (sp_hasSignal_10 S a) ?_
              show Wp _ _ _ 53 [(5, .int 1), (0, .ref 10), (1, .int kd), (2, .int a), (3, .int b), (4, .int c)] [.int (hasS (hI h 10 6 + hI h 10 7) a)] h _ _
              refine r_if 82 (q34 (i := 29) rfl) (by decide) (fun c7 => ?_) (fun c7 => ?_)
              · have c7 : hasS (hI h 10 6 + hI h 10 7) a = 0 := c7
                refine r_iconst (v := 0) (q34 (i := 42) rfl) (by decide) ?_
                exact r_zret (q34 (i := 43) rfl) rfl (by decide) (by unfold canT at hQ; simp_all)
              · have c7 : ¬ (hasS (hI h 10 6 + hI h 10 7) a = 0) := c7
                refine r_aload_n (q34 (i := 30) rfl) rfl ?_
                refine r_iload_n (q34 (i := 31) rfl) rfl ?_
                refine r_cV (d := _) (q34 (i := 32) rfl) rfl rfl rfl (k_10 S) (Nat.le_of_ble_eq_true rfl) (Nat.zero_le _) (Nat.zero_le _) (sp_hasSignal_10 S b) ?_
                show Wp _ _ _ 61 [(5, .int 1), (0, .ref 10), (1, .int kd), (2, .int a), (3, .int b), (4, .int c)] [.int (hasS (hI h 10 6 + hI h 10 7) b)] h _ _
                refine r_if 82 (q34 (i := 33) rfl) (by decide) (fun c8 => ?_) (fun c8 => ?_)
                · have c8 : hasS (hI h 10 6 + hI h 10 7) b = 0 := c8
                  refine r_iconst (v := 0) (q34 (i := 42) rfl) (by decide) ?_
                  exact r_zret (q34 (i := 43) rfl) rfl (by decide) (by unfold canT at hQ; simp_all)
                · have c8 : ¬ (hasS (hI h 10 6 + hI h 10 7) b = 0) := c8
                  refine r_iload (q34 (i := 34) rfl) rfl ?_
                  refine r_if 78 (q34 (i := 35) rfl) (by decide) (fun c => absurd c (show ¬ ((1 : Int32) = 0) from by decide)) (fun _ => ?_)
                  refine r_aload_n (q34 (i := 36) rfl) rfl ?_
                  refine r_iload (q34 (i := 37) rfl) rfl ?_
                  refine r_cV (d := _) (q34 (i := 38) rfl) rfl rfl rfl (k_10 S) (Nat.le_of_ble_eq_true rfl) (Nat.zero_le _) (Nat.zero_le _) (sp_hasSignal_10 S c) ?_
                  show Wp _ _ _ 75 [(5, .int 1), (0, .ref 10), (1, .int kd), (2, .int a), (3, .int b), (4, .int c)] [.int (hasS (hI h 10 6 + hI h 10 7) c)] h _ _
                  refine r_if 82 (q34 (i := 39) rfl) (by decide) (fun c10 => ?_) (fun c10 => ?_)
                  · have c10 : hasS (hI h 10 6 + hI h 10 7) c = 0 := c10
                    refine r_iconst (v := 0) (q34 (i := 42) rfl) (by decide) ?_
                    exact r_zret (q34 (i := 43) rfl) rfl (by decide) (by unfold canT at hQ; simp_all)
                  · have c10 : ¬ (hasS (hI h 10 6 + hI h 10 7) c = 0) := c10
                    refine r_iconst (v := 1) (q34 (i := 40) rfl) (by decide) ?_
                    refine r_goto 83 (q34 (i := 41) rfl) (by decide) ?_
                    exact r_zret (q34 (i := 43) rfl) rfl (by decide) (by unfold canT at hQ; simp_all)
        · have c4 : ¬ (¬ kd = 8) := c4
          refine r_iconst (v := 1) (q34 (i := 14) rfl) (by decide) ?_
          exact r_zret (q34 (i := 15) rfl) rfl (by decide) (by unfold canT at hQ; simp_all)
      · have c3 : ¬ (hI h 10 7 < 120) := c3
        have c3x : (120 : Int32) ≤ hI h 10 7 := by rw [← Int32.not_lt]; exact c3
        refine r_iconst (v := 0) (q34 (i := 9) rfl) (by decide) ?_
        exact r_zret (q34 (i := 10) rfl) rfl (by decide) (by unfold canT at hQ; simp_all)
set_option maxHeartbeats 2000000 in
set_option maxRecDepth 10000 in
theorem sp_addGate_10 {d : Nat} {h : hp} (S : Sh h) {g : Nat} (hg : hI h 10 7 = nI g) (hg1 : g < 120) (kd a b c : Int32) : Run (d + 1) 35 [.ref 10, .int kd, .int a, .int b, .int c] h 0 0 (some (.int (hI h 10 6 + nI (g + 1) - 1))) (sI (sI (sI (sI (sI h 11 g kd) 12 g a) 13 g b) 14 g c) 10 7 (nI (g + 1))) := by
  refine Run.of (Nat.le_of_ble_eq_true rfl) (fun Q hQ => ?_)
  show Wp (Ex (d)) 35 Q 0 [(0, .ref 10), (1, .int kd), (2, .int a), (3, .int b), (4, .int c)] [] h 0 0
  refine r_aload_n (q35 (i := 0) rfl) rfl ?_
  refine r_getI (x := nI g) (q35 (i := 1) rfl) rfl (by decide) (k_10 S) (fun _ _ _ => rfl) hg ?_
  refine r_bipush (v := 120) (q35 (i := 2) rfl) (by decide) ?_
  refine r_icmp 11 (q35 (i := 3) rfl) (by decide) (fun _ => ?_) (fun c => absurd (show nI g < 120 from nI_lt (b := 120) hg1 (by decide)) c)
  refine r_aload_n (q35 (i := 6) rfl) rfl ?_
  refine r_getR (b := 11) (q35 (i := 7) rfl) rfl (by decide) (k_10 S) (fun _ _ _ => rfl) (r_10_0 S) ?_
  refine r_aload_n (q35 (i := 8) rfl) rfl ?_
  refine r_getI (x := nI g) (q35 (i := 9) rfl) rfl (by decide) (k_10 S) (fun _ _ _ => rfl) hg ?_
  refine r_iload_n (q35 (i := 10) rfl) rfl ?_
  refine r_iasN (q35 (i := 11) rfl) (k_11 S) (by omega) (by decide) ?_
  refine r_aload_n (q35 (i := 12) rfl) rfl ?_
  refine r_getR (b := 12) (q35 (i := 13) rfl) rfl (by decide) (k_10 S) (fun _ _ _ => rfl) (r_10_1 S) ?_
  refine r_aload_n (q35 (i := 14) rfl) rfl ?_
  refine r_getI (x := nI g) (q35 (i := 15) rfl) rfl (by decide) (k_10 S) (fun _ _ _ => rfl) hg ?_
  refine r_iload_n (q35 (i := 16) rfl) rfl ?_
  refine r_iasN (q35 (i := 17) rfl) (k_12 S) (by omega) (by decide) ?_
  refine r_aload_n (q35 (i := 18) rfl) rfl ?_
  refine r_getR (b := 13) (q35 (i := 19) rfl) rfl (by decide) (k_10 S) (fun _ _ _ => rfl) (r_10_2 S) ?_
  refine r_aload_n (q35 (i := 20) rfl) rfl ?_
  refine r_getI (x := nI g) (q35 (i := 21) rfl) rfl (by decide) (k_10 S) (fun _ _ _ => rfl) hg ?_
  refine r_iload_n (q35 (i := 22) rfl) rfl ?_
  refine r_iasN (q35 (i := 23) rfl) (k_13 S) (by omega) (by decide) ?_
  refine r_aload_n (q35 (i := 24) rfl) rfl ?_
  refine r_getR (b := 14) (q35 (i := 25) rfl) rfl (by decide) (k_10 S) (fun _ _ _ => rfl) (r_10_3 S) ?_
  refine r_aload_n (q35 (i := 26) rfl) rfl ?_
  refine r_getI (x := nI g) (q35 (i := 27) rfl) rfl (by decide) (k_10 S) (fun _ _ _ => rfl) hg ?_
  refine r_iload (q35 (i := 28) rfl) rfl ?_
  refine r_iasN (q35 (i := 29) rfl) (k_14 S) (by omega) (by decide) ?_
  refine r_aload_n (q35 (i := 30) rfl) rfl ?_
  refine r_dup (q35 (i := 31) rfl) rfl ?_
  refine r_getI (x := nI g) (q35 (i := 32) rfl) rfl (by decide) (k_10 S) (fun _ _ _ => rfl) hg ?_
  refine r_iconst (v := 1) (q35 (i := 33) rfl) (by decide) ?_
  refine r_iadd (q35 (i := 34) rfl) ?_
  rw [show ((nI g) + 1 : Int32) = nI (g + 1) from nI_1 g]
  refine r_putI (q35 (i := 35) rfl) rfl (by decide) (k_10 S) rfl rfl ?_
  refine r_aload_n (q35 (i := 36) rfl) rfl ?_
  refine r_getI (x := hI h 10 6) (q35 (i := 37) rfl) rfl (by decide) (k_10 S) (fun _ _ _ => rfl) rfl ?_
  refine r_aload_n (q35 (i := 38) rfl) rfl ?_
  refine r_getI (x := nI (g + 1)) (q35 (i := 39) rfl) rfl (by decide) (k_10 S) (fun _ _ _ => rfl) rfl ?_
  refine r_iadd (q35 (i := 40) rfl) ?_
  refine r_iconst (v := 1) (q35 (i := 41) rfl) (by decide) ?_
  refine r_isub (q35 (i := 42) rfl) ?_
  exact r_iret (q35 (i := 43) rfl) rfl hQ
set_option maxHeartbeats 2000000 in
set_option maxRecDepth 10000 in
theorem sp_addOut_10 {d : Nat} {h : hp} (S : Sh h) {g : Nat} (hg : hI h 10 8 = nI g) (hg1 : g < 10) (s : Int32) : Run (d + 1) 36 [.ref 10, .int s] h 0 0 (some (.int (nI (g + 1) - 1))) (sI (sI h 15 g s) 10 8 (nI (g + 1))) := by
  refine Run.of (Nat.le_of_ble_eq_true rfl) (fun Q hQ => ?_)
  show Wp (Ex (d)) 36 Q 0 [(0, .ref 10), (1, .int s)] [] h 0 0
  refine r_aload_n (q36 (i := 0) rfl) rfl ?_
  refine r_getI (x := nI g) (q36 (i := 1) rfl) rfl (by decide) (k_10 S) (fun _ _ _ => rfl) hg ?_
  refine r_bipush (v := 10) (q36 (i := 2) rfl) (by decide) ?_
  refine r_icmp 11 (q36 (i := 3) rfl) (by decide) (fun _ => ?_) (fun c => absurd (show nI g < 10 from nI_lt (b := 10) hg1 (by decide)) c)
  refine r_aload_n (q36 (i := 6) rfl) rfl ?_
  refine r_getR (b := 15) (q36 (i := 7) rfl) rfl (by decide) (k_10 S) (fun _ _ _ => rfl) (r_10_4 S) ?_
  refine r_aload_n (q36 (i := 8) rfl) rfl ?_
  refine r_getI (x := nI g) (q36 (i := 9) rfl) rfl (by decide) (k_10 S) (fun _ _ _ => rfl) hg ?_
  refine r_iload_n (q36 (i := 10) rfl) rfl ?_
  refine r_iasN (q36 (i := 11) rfl) (k_15 S) (by omega) (by decide) ?_
  refine r_aload_n (q36 (i := 12) rfl) rfl ?_
  refine r_dup (q36 (i := 13) rfl) rfl ?_
  refine r_getI (x := nI g) (q36 (i := 14) rfl) rfl (by decide) (k_10 S) (fun _ _ _ => rfl) hg ?_
  refine r_iconst (v := 1) (q36 (i := 15) rfl) (by decide) ?_
  refine r_iadd (q36 (i := 16) rfl) ?_
  rw [show ((nI g) + 1 : Int32) = nI (g + 1) from nI_1 g]
  refine r_putI (q36 (i := 17) rfl) rfl (by decide) (k_10 S) rfl rfl ?_
  refine r_aload_n (q36 (i := 18) rfl) rfl ?_
  refine r_getI (x := nI (g + 1)) (q36 (i := 19) rfl) rfl (by decide) (k_10 S) (fun _ _ _ => rfl) rfl ?_
  refine r_iconst (v := 1) (q36 (i := 20) rfl) (by decide) ?_
  refine r_isub (q36 (i := 21) rfl) ?_
  exact r_iret (q36 (i := 22) rfl) rfl hQ
