/-! ===== Long.bitCount, Tape, VectorSet ===== -/
def bc1 (x : Int64) : Int64 := x - ((x.toUInt64 >>> ((1 : Int32).toInt64.toUInt64 &&& Int64.toUInt64 63)).toInt64 &&& 6148914691236517205)
def bc2 (x : Int64) : Int64 := (x &&& 3689348814741910323) + ((x.toUInt64 >>> ((2 : Int32).toInt64.toUInt64 &&& Int64.toUInt64 63)).toInt64 &&& 3689348814741910323)
def bc3 (x : Int64) : Int64 := (x + (x.toUInt64 >>> ((4 : Int32).toInt64.toUInt64 &&& Int64.toUInt64 63)).toInt64) &&& 1085102592571150095
def bcs8 (x : Int64) : Int64 := x + (x.toUInt64 >>> ((8 : Int32).toInt64.toUInt64 &&& Int64.toUInt64 63)).toInt64
def bcs16 (x : Int64) : Int64 := x + (x.toUInt64 >>> ((16 : Int32).toInt64.toUInt64 &&& Int64.toUInt64 63)).toInt64
def bcs32 (x : Int64) : Int64 := x + (x.toUInt64 >>> ((32 : Int32).toInt64.toUInt64 &&& Int64.toUInt64 63)).toInt64
def bcnt (x : Int64) : Int32 := (bcs32 (bcs16 (bcs8 (bc3 (bc2 (bc1 x)))))).toInt32 &&& 127
theorem bcnt_pow : ∀ k, k < 64 → bcnt (lN (2 ^ k - 1)) = nI k := by decide +kernel
set_option maxHeartbeats 2000000 in
set_option maxRecDepth 10000 in
theorem sp_bitCount {d : Nat} {h : hp} (x : Int64) : Run (d + 1) 160 [.long x] h 0 0 (some (.int (bcnt x))) h := by
  refine Run.of (Nat.le_of_ble_eq_true rfl) (fun Q hQ => ?_)
  show Wp (Ex (d)) 160 Q 0 [(0, .long x)] [] h 0 0
  refine r_lload_n (q160 (i := 0) rfl) rfl ?_
  refine r_lload_n (q160 (i := 1) rfl) rfl ?_
  refine r_iconst (v := 1) (q160 (i := 2) rfl) (by decide) ?_
  refine r_lushr (q160 (i := 3) rfl) ?_
  refine r_ldc2 (v := 6148914691236517205) (q160 (i := 4) rfl) rfl ?_
  refine r_land (q160 (i := 5) rfl) ?_
  refine r_lsub (q160 (i := 6) rfl) ?_
  rw [show (x - (((x.toUInt64 >>> ((1 : Int32).toInt64.toUInt64 &&& Int64.toUInt64 63)).toInt64) &&& 6148914691236517205) : Int64) = bc1 x from rfl]
  refine r_lstore_n (ls' := [(0, .long (bc1 x))]) (q160 (i := 7) rfl) (Nat.le_of_ble_eq_true rfl) rfl ?_
  refine r_lload_n (q160 (i := 8) rfl) rfl ?_
  refine r_ldc2 (v := 3689348814741910323) (q160 (i := 9) rfl) rfl ?_
  refine r_land (q160 (i := 10) rfl) ?_
  refine r_lload_n (q160 (i := 11) rfl) rfl ?_
  refine r_iconst (v := 2) (q160 (i := 12) rfl) (by decide) ?_
  refine r_lushr (q160 (i := 13) rfl) ?_
  refine r_ldc2 (v := 3689348814741910323) (q160 (i := 14) rfl) rfl ?_
  refine r_land (q160 (i := 15) rfl) ?_
  refine r_ladd (q160 (i := 16) rfl) ?_
  rw [show (((bc1 x) &&& 3689348814741910323) + ((((bc1 x).toUInt64 >>> ((2 : Int32).toInt64.toUInt64 &&& Int64.toUInt64 63)).toInt64) &&& 3689348814741910323) : Int64) = bc2 (bc1 x) from rfl]
  refine r_lstore_n (ls' := [(0, .long (bc2 (bc1 x)))]) (q160 (i := 17) rfl) (Nat.le_of_ble_eq_true rfl) rfl ?_
  refine r_lload_n (q160 (i := 18) rfl) rfl ?_
  refine r_lload_n (q160 (i := 19) rfl) rfl ?_
  refine r_iconst (v := 4) (q160 (i := 20) rfl) (by decide) ?_
  refine r_lushr (q160 (i := 21) rfl) ?_
  refine r_ladd (q160 (i := 22) rfl) ?_
  refine r_ldc2 (v := 1085102592571150095) (q160 (i := 23) rfl) rfl ?_
  refine r_land (q160 (i := 24) rfl) ?_
  rw [show (((bc2 (bc1 x)) + (((bc2 (bc1 x)).toUInt64 >>> ((4 : Int32).toInt64.toUInt64 &&& Int64.toUInt64 63)).toInt64)) &&& 1085102592571150095 : Int64) = bc3 (bc2 (bc1 x)) from rfl]
  refine r_lstore_n (ls' := [(0, .long (bc3 (bc2 (bc1 x))))]) (q160 (i := 25) rfl) (Nat.le_of_ble_eq_true rfl) rfl ?_
  refine r_lload_n (q160 (i := 26) rfl) rfl ?_
  refine r_lload_n (q160 (i := 27) rfl) rfl ?_
  refine r_bipush (v := 8) (q160 (i := 28) rfl) (by decide) ?_
  refine r_lushr (q160 (i := 29) rfl) ?_
  refine r_ladd (q160 (i := 30) rfl) ?_
  rw [show ((bc3 (bc2 (bc1 x))) + (((bc3 (bc2 (bc1 x))).toUInt64 >>> ((8 : Int32).toInt64.toUInt64 &&& Int64.toUInt64 63)).toInt64) : Int64) = bcs8 (bc3 (bc2 (bc1 x))) from rfl]
  refine r_lstore_n (ls' := [(0, .long (bcs8 (bc3 (bc2 (bc1 x)))))]) (q160 (i := 31) rfl) (Nat.le_of_ble_eq_true rfl) rfl ?_
  refine r_lload_n (q160 (i := 32) rfl) rfl ?_
  refine r_lload_n (q160 (i := 33) rfl) rfl ?_
  refine r_bipush (v := 16) (q160 (i := 34) rfl) (by decide) ?_
  refine r_lushr (q160 (i := 35) rfl) ?_
  refine r_ladd (q160 (i := 36) rfl) ?_
  rw [show ((bcs8 (bc3 (bc2 (bc1 x)))) + (((bcs8 (bc3 (bc2 (bc1 x)))).toUInt64 >>> ((16 : Int32).toInt64.toUInt64 &&& Int64.toUInt64 63)).toInt64) : Int64) = bcs16 (bcs8 (bc3 (bc2 (bc1 x)))) from rfl]
  refine r_lstore_n (ls' := [(0, .long (bcs16 (bcs8 (bc3 (bc2 (bc1 x))))))]) (q160 (i := 37) rfl) (Nat.le_of_ble_eq_true rfl) rfl ?_
  refine r_lload_n (q160 (i := 38) rfl) rfl ?_
  refine r_lload_n (q160 (i := 39) rfl) rfl ?_
  refine r_bipush (v := 32) (q160 (i := 40) rfl) (by decide) ?_
  refine r_lushr (q160 (i := 41) rfl) ?_
  refine r_ladd (q160 (i := 42) rfl) ?_
  rw [show ((bcs16 (bcs8 (bc3 (bc2 (bc1 x))))) + (((bcs16 (bcs8 (bc3 (bc2 (bc1 x))))).toUInt64 >>> ((32 : Int32).toInt64.toUInt64 &&& Int64.toUInt64 63)).toInt64) : Int64) = bcs32 (bcs16 (bcs8 (bc3 (bc2 (bc1 x))))) from rfl]
  refine r_lstore_n (ls' := [(0, .long (bcs32 (bcs16 (bcs8 (bc3 (bc2 (bc1 x)))))))]) (q160 (i := 43) rfl) (Nat.le_of_ble_eq_true rfl) rfl ?_
  refine r_lload_n (q160 (i := 44) rfl) rfl ?_
  refine r_l2i (q160 (i := 45) rfl) ?_
  refine r_bipush (v := 127) (q160 (i := 46) rfl) (by decide) ?_
  refine r_iand (q160 (i := 47) rfl) ?_
  exact r_iret (q160 (i := 48) rfl) rfl hQ
/-- the byte of v that begins at bit k -/
def byt (v k : Int32) : Int32 := (v >>> (k &&& 31)).toInt8.toInt32
theorem byt_nar (v k : Int32) : vp_nar .byte (byt v k) = byt v k := pk_vb _
/-- four bytes of v more, at cell a, and the count behind them at place k of the cell o -/
def put4 (h : hp) (a o k z : Nat) (v : Int32) : hp := sI (sI (sI (sI (sI (sI (sI (sI h a z (byt v 24)) o k (nI (z + 1))) a (z + 1) (byt v 16)) o k (nI (z + 2))) a (z + 2) (byt v 8)) o k (nI (z + 3))) a (z + 3) (byt v 0)) o k (nI (z + 4))
set_option maxHeartbeats 2000000 in
set_option maxRecDepth 10000 in
theorem sp_append {d : Nat} {h : hp} (S : Sh h) {z : Nat} (hz : hI h 33 1 = nI z) (hz1 : z + 4 ≤ 3000) (v : Int32) : Run (d + 1) 67 [.ref 33, .int v] h 0 0 none (put4 h 34 33 1 z v) := by
  refine Run.of (Nat.le_of_ble_eq_true rfl) (fun Q hQ => ?_)
  show Wp (Ex (d)) 67 Q 0 [(0, .ref 33), (1, .int v)] [] h 0 0
  refine r_bipush (v := 24) (q67 (i := 0) rfl) (by decide) ?_
  refine r_istore_n (ls' := [(2, .int 24), (0, .ref 33), (1, .int v)]) (q67 (i := 1) rfl) (Nat.le_of_ble_eq_true rfl) rfl ?_
  refine r_iload_n (q67 (i := 2) rfl) rfl ?_
  refine r_if 46 (q67 (i := 3) rfl) (by decide) (fun c => absurd c (show ¬ ((24 : Int32) < 0) from by decide)) (fun _ => ?_)
  refine r_aload_n (q67 (i := 4) rfl) rfl ?_
  refine r_getI (x := nI z) (q67 (i := 5) rfl) rfl (by decide) (k_33 S) (fun _ _ _ => rfl) hz ?_
  refine r_sipush (v := 3000) (q67 (i := 6) rfl) (by decide) ?_
  refine r_icmp 46 (q67 (i := 7) rfl) (by decide) (fun c => absurd c (show ¬ (3000 ≤ nI z) from nI_ge (b := 3000) (a := z) (by omega) (by decide))) (fun _ => ?_)
  refine r_aload_n (q67 (i := 8) rfl) rfl ?_
  refine r_getR (b := 34) (q67 (i := 9) rfl) rfl (by decide) (k_33 S) (fun _ _ _ => rfl) (r_33_0 S) ?_
  refine r_aload_n (q67 (i := 10) rfl) rfl ?_
  refine r_getI (x := nI z) (q67 (i := 11) rfl) rfl (by decide) (k_33 S) (fun _ _ _ => rfl) hz ?_
  refine r_iload_n (q67 (i := 12) rfl) rfl ?_
  refine r_iload_n (q67 (i := 13) rfl) rfl ?_
  refine r_ishr (q67 (i := 14) rfl) ?_
  refine r_i2b (q67 (i := 15) rfl) ?_
  rw [show ((v >>> (24 &&& 31)).toInt8.toInt32 : Int32) = byt v 24 from rfl]
  refine r_basN (y := byt v 24) (q67 (i := 16) rfl) (k_34 S) (by omega) (by decide) (byt_nar v 24) ?_
  refine r_aload_n (q67 (i := 17) rfl) rfl ?_
  refine r_dup (q67 (i := 18) rfl) rfl ?_
  refine r_getI (x := nI z) (q67 (i := 19) rfl) rfl (by decide) (k_33 S) (fun _ _ _ => rfl) hz ?_
  refine r_iconst (v := 1) (q67 (i := 20) rfl) (by decide) ?_
  refine r_iadd (q67 (i := 21) rfl) ?_
  rw [show ((nI z) + 1 : Int32) = nI (z + 1) from nI_1 (z)]
  refine r_putI (q67 (i := 22) rfl) rfl (by decide) (k_33 S) rfl rfl ?_
  refine r_iinc (y := 16) (ls' := [(2, .int 16), (0, .ref 33), (1, .int v)]) (q67 (i := 23) rfl) (Nat.le_of_ble_eq_true rfl) rfl (by decide) rfl ?_
  refine r_goto 3 (q67 (i := 24) rfl) (by decide) ?_
  refine r_iload_n (q67 (i := 2) rfl) rfl ?_
  refine r_if 46 (q67 (i := 3) rfl) (by decide) (fun c => absurd c (show ¬ ((16 : Int32) < 0) from by decide)) (fun _ => ?_)
  refine r_aload_n (q67 (i := 4) rfl) rfl ?_
  refine r_getI (x := nI (z + 1)) (q67 (i := 5) rfl) rfl (by decide) (k_33 S) (fun _ _ _ => rfl) rfl ?_
  refine r_sipush (v := 3000) (q67 (i := 6) rfl) (by decide) ?_
  refine r_icmp 46 (q67 (i := 7) rfl) (by decide) (fun c => absurd c (show ¬ (3000 ≤ nI (z + 1)) from nI_ge (b := 3000) (a := z + 1) (by omega) (by decide))) (fun _ => ?_)
  refine r_aload_n (q67 (i := 8) rfl) rfl ?_
  refine r_getR (b := 34) (q67 (i := 9) rfl) rfl (by decide) (k_33 S) (fun _ _ _ => rfl) (r_33_0 S) ?_
  refine r_aload_n (q67 (i := 10) rfl) rfl ?_
  refine r_getI (x := nI (z + 1)) (q67 (i := 11) rfl) rfl (by decide) (k_33 S) (fun _ _ _ => rfl) rfl ?_
  refine r_iload_n (q67 (i := 12) rfl) rfl ?_
  refine r_iload_n (q67 (i := 13) rfl) rfl ?_
  refine r_ishr (q67 (i := 14) rfl) ?_
  refine r_i2b (q67 (i := 15) rfl) ?_
  rw [show ((v >>> (16 &&& 31)).toInt8.toInt32 : Int32) = byt v 16 from rfl]
  refine r_basN (y := byt v 16) (q67 (i := 16) rfl) (k_34 S) (by omega) (by decide) (byt_nar v 16) ?_
  refine r_aload_n (q67 (i := 17) rfl) rfl ?_
  refine r_dup (q67 (i := 18) rfl) rfl ?_
  refine r_getI (x := nI (z + 1)) (q67 (i := 19) rfl) rfl (by decide) (k_33 S) (fun _ _ _ => rfl) rfl ?_
  refine r_iconst (v := 1) (q67 (i := 20) rfl) (by decide) ?_
  refine r_iadd (q67 (i := 21) rfl) ?_
  rw [show ((nI (z + 1)) + 1 : Int32) = nI (z + 2) from nI_1 (z + 1)]
  refine r_putI (q67 (i := 22) rfl) rfl (by decide) (k_33 S) rfl rfl ?_
  refine r_iinc (y := 8) (ls' := [(2, .int 8), (0, .ref 33), (1, .int v)]) (q67 (i := 23) rfl) (Nat.le_of_ble_eq_true rfl) rfl (by decide) rfl ?_
  refine r_goto 3 (q67 (i := 24) rfl) (by decide) ?_
  refine r_iload_n (q67 (i := 2) rfl) rfl ?_
  refine r_if 46 (q67 (i := 3) rfl) (by decide) (fun c => absurd c (show ¬ ((8 : Int32) < 0) from by decide)) (fun _ => ?_)
  refine r_aload_n (q67 (i := 4) rfl) rfl ?_
  refine r_getI (x := nI (z + 2)) (q67 (i := 5) rfl) rfl (by decide) (k_33 S) (fun _ _ _ => rfl) rfl ?_
  refine r_sipush (v := 3000) (q67 (i := 6) rfl) (by decide) ?_
  refine r_icmp 46 (q67 (i := 7) rfl) (by decide) (fun c => absurd c (show ¬ (3000 ≤ nI (z + 2)) from nI_ge (b := 3000) (a := z + 2) (by omega) (by decide))) (fun _ => ?_)
  refine r_aload_n (q67 (i := 8) rfl) rfl ?_
  refine r_getR (b := 34) (q67 (i := 9) rfl) rfl (by decide) (k_33 S) (fun _ _ _ => rfl) (r_33_0 S) ?_
  refine r_aload_n (q67 (i := 10) rfl) rfl ?_
  refine r_getI (x := nI (z + 2)) (q67 (i := 11) rfl) rfl (by decide) (k_33 S) (fun _ _ _ => rfl) rfl ?_
  refine r_iload_n (q67 (i := 12) rfl) rfl ?_
  refine r_iload_n (q67 (i := 13) rfl) rfl ?_
  refine r_ishr (q67 (i := 14) rfl) ?_
  refine r_i2b (q67 (i := 15) rfl) ?_
  rw [show ((v >>> (8 &&& 31)).toInt8.toInt32 : Int32) = byt v 8 from rfl]
  refine r_basN (y := byt v 8) (q67 (i := 16) rfl) (k_34 S) (by omega) (by decide) (byt_nar v 8) ?_
  refine r_aload_n (q67 (i := 17) rfl) rfl ?_
  refine r_dup (q67 (i := 18) rfl) rfl ?_
  refine r_getI (x := nI (z + 2)) (q67 (i := 19) rfl) rfl (by decide) (k_33 S) (fun _ _ _ => rfl) rfl ?_
  refine r_iconst (v := 1) (q67 (i := 20) rfl) (by decide) ?_
  refine r_iadd (q67 (i := 21) rfl) ?_
  rw [show ((nI (z + 2)) + 1 : Int32) = nI (z + 3) from nI_1 (z + 2)]
  refine r_putI (q67 (i := 22) rfl) rfl (by decide) (k_33 S) rfl rfl ?_
  refine r_iinc (y := 0) (ls' := [(2, .int 0), (0, .ref 33), (1, .int v)]) (q67 (i := 23) rfl) (Nat.le_of_ble_eq_true rfl) rfl (by decide) rfl ?_
  refine r_goto 3 (q67 (i := 24) rfl) (by decide) ?_
  refine r_iload_n (q67 (i := 2) rfl) rfl ?_
  refine r_if 46 (q67 (i := 3) rfl) (by decide) (fun c => absurd c (show ¬ ((0 : Int32) < 0) from by decide)) (fun _ => ?_)
  refine r_aload_n (q67 (i := 4) rfl) rfl ?_
  refine r_getI (x := nI (z + 3)) (q67 (i := 5) rfl) rfl (by decide) (k_33 S) (fun _ _ _ => rfl) rfl ?_
  refine r_sipush (v := 3000) (q67 (i := 6) rfl) (by decide) ?_
  refine r_icmp 46 (q67 (i := 7) rfl) (by decide) (fun c => absurd c (show ¬ (3000 ≤ nI (z + 3)) from nI_ge (b := 3000) (a := z + 3) (by omega) (by decide))) (fun _ => ?_)
  refine r_aload_n (q67 (i := 8) rfl) rfl ?_
  refine r_getR (b := 34) (q67 (i := 9) rfl) rfl (by decide) (k_33 S) (fun _ _ _ => rfl) (r_33_0 S) ?_
  refine r_aload_n (q67 (i := 10) rfl) rfl ?_
  refine r_getI (x := nI (z + 3)) (q67 (i := 11) rfl) rfl (by decide) (k_33 S) (fun _ _ _ => rfl) rfl ?_
  refine r_iload_n (q67 (i := 12) rfl) rfl ?_
  refine r_iload_n (q67 (i := 13) rfl) rfl ?_
  refine r_ishr (q67 (i := 14) rfl) ?_
  refine r_i2b (q67 (i := 15) rfl) ?_
  rw [show ((v >>> (0 &&& 31)).toInt8.toInt32 : Int32) = byt v 0 from rfl]
  refine r_basN (y := byt v 0) (q67 (i := 16) rfl) (k_34 S) (by omega) (by decide) (byt_nar v 0) ?_
  refine r_aload_n (q67 (i := 17) rfl) rfl ?_
  refine r_dup (q67 (i := 18) rfl) rfl ?_
  refine r_getI (x := nI (z + 3)) (q67 (i := 19) rfl) rfl (by decide) (k_33 S) (fun _ _ _ => rfl) rfl ?_
  refine r_iconst (v := 1) (q67 (i := 20) rfl) (by decide) ?_
  refine r_iadd (q67 (i := 21) rfl) ?_
  rw [show ((nI (z + 3)) + 1 : Int32) = nI (z + 4) from nI_1 (z + 3)]
  refine r_putI (q67 (i := 22) rfl) rfl (by decide) (k_33 S) rfl rfl ?_
  refine r_iinc (y := (-8)) (ls' := [(2, .int (-8)), (0, .ref 33), (1, .int v)]) (q67 (i := 23) rfl) (Nat.le_of_ble_eq_true rfl) rfl (by decide) rfl ?_
  refine r_goto 3 (q67 (i := 24) rfl) (by decide) ?_
  refine r_iload_n (q67 (i := 2) rfl) rfl ?_
  refine r_if 46 (q67 (i := 3) rfl) (by decide) (fun _ => ?_) (fun c => absurd (show (-8 : Int32) < 0 from by decide) c)
  exact r_vret (q67 (i := 25) rfl) rfl hQ
/-- the byte at a place, or -1 behind the end -/
def byAt (f : Nat → Int32) (n : Nat) (a : Int32) : Int32 := if a < 0 then -1 else if nI n ≤ a then -1 else f a.toNatClampNeg &&& 255
set_option maxHeartbeats 2000000 in
set_option maxRecDepth 10000 in
theorem sp_byteAt {d : Nat} {h : hp} (S : Sh h) {z : Nat} (hz : hI h 33 1 = nI z) (hz1 : z ≤ 3000) (a : Int32) : Run (d + 1) 68 [.ref 33, .int a] h 0 0 (some (.int (byAt (hI h 34) z a))) h := by
  refine Run.of (Nat.le_of_ble_eq_true rfl) (fun Q hQ => ?_)
  show Wp (Ex (d)) 68 Q 0 [(0, .ref 33), (1, .int a)] [] h 0 0
  refine r_iload_n (q68 (i := 0) rfl) rfl ?_
  refine r_if 25 (q68 (i := 1) rfl) (by decide) (fun c1 => ?_) (fun c1 => ?_)
  · have c1 : a < 0 := c1
    refine r_iconst (v := (-1)) (q68 (i := 13) rfl) (by decide) ?_
    exact r_iret (q68 (i := 14) rfl) rfl (by unfold byAt at hQ; simp_all)
  · have c1 : ¬ (a < 0) := c1
    refine r_iload_n (q68 (i := 2) rfl) rfl ?_
    refine r_aload_n (q68 (i := 3) rfl) rfl ?_
    refine r_getI (x := nI z) (q68 (i := 4) rfl) rfl (by decide) (k_33 S) (fun _ _ _ => rfl) hz ?_
    refine r_icmp 25 (q68 (i := 5) rfl) (by decide) (fun c2 => ?_) (fun c2 => ?_)
    · have c2 : nI z ≤ a := c2
      refine r_iconst (v := (-1)) (q68 (i := 13) rfl) (by decide) ?_
      exact r_iret (q68 (i := 14) rfl) rfl (by unfold byAt at hQ; simp_all)
    · have c2 : ¬ (nI z ≤ a) := c2
      refine r_aload_n (q68 (i := 6) rfl) rfl ?_
      refine r_getR (b := 34) (q68 (i := 7) rfl) rfl (by decide) (k_33 S) (fun _ _ _ => rfl) (r_33_0 S) ?_
      refine r_iload_n (q68 (i := 8) rfl) rfl ?_
      refine r_baload (x := hI h 34 a.toNatClampNeg) (q68 (i := 9) rfl) (k_34 S) (by rcases pk_ix a (n := z) (by omega) with q | q | ⟨k, hk, rfl⟩; exact absurd q c1; exact absurd q c2; exact vp_in_nI (by omega) (by decide)) rfl ?_
      refine r_sipush (v := 255) (q68 (i := 10) rfl) (by decide) ?_
      refine r_iand (q68 (i := 11) rfl) ?_
      refine r_goto 26 (q68 (i := 12) rfl) (by decide) ?_
      exact r_iret (q68 (i := 14) rfl) rfl (by unfold byAt at hQ; simp_all)
def isDig (x : Int32) : Int32 := if x < 48 then 0 else if 57 < x then 0 else 1
set_option maxHeartbeats 2000000 in
set_option maxRecDepth 10000 in
theorem sp_hasDigitAt {d : Nat} {h : hp} (S : Sh h) {z : Nat} (hz : hI h 33 1 = nI z) (hz1 : z ≤ 3000) (a : Int32) : Run (d + 1 + 1) 69 [.ref 33, .int a] h 0 0 (some (.int (isDig (byAt (hI h 34) z a)))) h := by
  refine Run.of (Nat.le_of_ble_eq_true rfl) (fun Q hQ => ?_)
  show Wp (Ex (d + 1)) 69 Q 0 [(0, .ref 33), (1, .int a)] [] h 0 0
  refine r_aload_n (q69 (i := 0) rfl) rfl ?_
  refine r_iload_n (q69 (i := 1) rfl) rfl ?_
  refine r_cV (d := _) (q69 (i := 2) rfl) rfl rfl rfl (k_33 S) (Nat.le_of_ble_eq_true rfl) (Nat.zero_le _) (Nat.zero_le _) (sp_byteAt S hz hz1 a) ?_
  show Wp _ _ _ 5 [(0, .ref 33), (1, .int a)] [.int (byAt (hI h 34) z a)] h _ _
  refine r_istore_n (ls' := [(2, .int (byAt (hI h 34) z a)), (0, .ref 33), (1, .int a)]) (q69 (i := 3) rfl) (Nat.le_of_ble_eq_true rfl) rfl ?_
  refine r_iload_n (q69 (i := 4) rfl) rfl ?_
  refine r_bipush (v := 48) (q69 (i := 5) rfl) (by decide) ?_
  refine r_icmp 22 (q69 (i := 6) rfl) (by decide) (fun c1 => ?_) (fun c1 => ?_)
  · have c1 : byAt (hI h 34) z a < 48 := c1
    refine r_iconst (v := 0) (q69 (i := 12) rfl) (by decide) ?_
    exact r_zret (q69 (i := 13) rfl) rfl (by decide) (by unfold isDig at hQ; simp_all)
  · have c1 : ¬ (byAt (hI h 34) z a < 48) := c1
    refine r_iload_n (q69 (i := 7) rfl) rfl ?_
    refine r_bipush (v := 57) (q69 (i := 8) rfl) (by decide) ?_
    refine r_icmp 22 (q69 (i := 9) rfl) (by decide) (fun c2 => ?_) (fun c2 => ?_)
    · have c2 : 57 < byAt (hI h 34) z a := c2
      refine r_iconst (v := 0) (q69 (i := 12) rfl) (by decide) ?_
      exact r_zret (q69 (i := 13) rfl) rfl (by decide) (by unfold isDig at hQ; simp_all)
    · have c2 : ¬ (57 < byAt (hI h 34) z a) := c2
      refine r_iconst (v := 1) (q69 (i := 10) rfl) (by decide) ?_
      refine r_goto 23 (q69 (i := 11) rfl) (by decide) ?_
      exact r_zret (q69 (i := 13) rfl) rfl (by decide) (by unfold isDig at hQ; simp_all)
/-- a SIGN as bits: is word w there -/
def inV (V : Nat → Int64) (w : Nat) : Bool := b64 (V (w / 64)) (w % 64)
set_option maxHeartbeats 2000000 in
set_option maxRecDepth 10000 in
theorem sp_empty {d : Nat} {h : hp} (S : Sh h) : Run (d + 1 + 1) 71 [.ref 17] h 0 0 none (sI (sI (rJ h 19 (filJ (hJ h 19) 0 64)) 17 3 0) 17 4 0) := by
  refine Run.of (Nat.le_of_ble_eq_true rfl) (fun Q hQ => ?_)
  show Wp (Ex (d + 1)) 71 Q 0 [(0, .ref 17)] [] h 0 0
  refine r_aload_n (q71 (i := 0) rfl) rfl ?_
  refine r_getR (b := 19) (q71 (i := 1) rfl) rfl (by decide) (k_17 S) (fun _ _ _ => rfl) (r_17_1 S) ?_
  refine r_lconst (v := 0) (q71 (i := 2) rfl) (by decide) ?_
  refine r_cS (d := _) (q71 (i := 3) rfl) rfl (Nat.le_of_ble_eq_true rfl) rfl rfl (Nat.le_of_ble_eq_true rfl) (Nat.zero_le _) (Nat.zero_le _) (sp_fillJ (k_19 S) (by decide) 0) ?_
  show Wp _ _ _ 8 [(0, .ref 17)] [] (rJ h 19 (filJ (hJ h 19) 0 64)) _ _
  refine r_aload_n (q71 (i := 4) rfl) rfl ?_
  refine r_iconst (v := 0) (q71 (i := 5) rfl) (by decide) ?_
  refine r_putI (q71 (i := 6) rfl) rfl (by decide) (k_17 S) rfl rfl ?_
  refine r_aload_n (q71 (i := 7) rfl) rfl ?_
  refine r_iconst (v := 0) (q71 (i := 8) rfl) (by decide) ?_
  refine r_putI (q71 (i := 9) rfl) rfl (by decide) (k_17 S) rfl rfl ?_
  exact r_vret (q71 (i := 10) rfl) rfl hQ
set_option maxHeartbeats 2000000 in
set_option maxRecDepth 10000 in
theorem sp_has {d : Nat} {h : hp} (S : Sh h) {w : Nat} (hw : w < 4096) : Run (d + 1) 72 [.ref 17, .int (nI w)] h 0 0 (some (.int (if inV (hJ h 19) w then 1 else 0))) h := by
  refine Run.of (Nat.le_of_ble_eq_true rfl) (fun Q hQ => ?_)
  show Wp (Ex (d)) 72 Q 0 [(0, .ref 17), (1, .int (nI w))] [] h 0 0
  refine r_iload_n (q72 (i := 0) rfl) rfl ?_
  refine r_if 11 (q72 (i := 1) rfl) (by decide) (fun c => absurd c (show ¬ (nI w < 0) from nI_pos (by omega))) (fun _ => ?_)
  refine r_iload_n (q72 (i := 2) rfl) rfl ?_
  refine r_sipush (v := 4096) (q72 (i := 3) rfl) (by decide) ?_
  refine r_icmp 13 (q72 (i := 4) rfl) (by decide) (fun _ => ?_) (fun c => absurd (show nI w < 4096 from nI_lt (b := 4096) hw (by decide)) c)
  refine r_aload_n (q72 (i := 7) rfl) rfl ?_
  refine r_getR (b := 19) (q72 (i := 8) rfl) rfl (by decide) (k_17 S) (fun _ _ _ => rfl) (r_17_1 S) ?_
  refine r_iload_n (q72 (i := 9) rfl) rfl ?_
  refine r_bipush (v := 6) (q72 (i := 10) rfl) (by decide) ?_
  refine r_ishr (q72 (i := 11) rfl) ?_
  rw [show ((nI w) >>> (6 &&& 31) : Int32) = nI (w / 64) from shr6 (by omega)]
  refine r_laN (x := hJ h 19 (w / 64)) (q72 (i := 12) rfl) (k_19 S) (by omega) (by decide) rfl ?_
  refine r_iload_n (q72 (i := 13) rfl) rfl ?_
  refine r_bipush (v := 63) (q72 (i := 14) rfl) (by decide) ?_
  refine r_iand (q72 (i := 15) rfl) ?_
  rw [show ((nI w) &&& 63 : Int32) = nI (w % 64) from and63 (by omega)]
  refine r_lushr (q72 (i := 16) rfl) ?_
  refine r_lconst (v := 1) (q72 (i := 17) rfl) (by decide) ?_
  refine r_land (q72 (i := 18) rfl) ?_
  rw [show ((((hJ h 19 (w / 64)).toUInt64 >>> ((nI (w % 64)).toInt64.toUInt64 &&& Int64.toUInt64 63)).toInt64) &&& 1 : Int64) = if inV (hJ h 19) w then 1 else 0 from b64_ubit _ (by omega)]
  refine r_lconst (v := 0) (q72 (i := 19) rfl) (by decide) ?_
  refine r_lcmp (q72 (i := 20) rfl) ?_
  refine r_if 38 (q72 (i := 21) rfl) (by decide) (fun c => ?_) (fun c => ?_)
  · have c : lg_cmp (if inV (hJ h 19) w then 1 else 0) 0 = 0 := c
    have hb : ¬ inV (hJ h 19) w = true := fun q => by rw [cmp0, if_pos q] at c; exact absurd c (by decide)
    refine r_iconst (v := 0) (q72 (i := 24) rfl) (by decide) ?_
    exact r_zret (q72 (i := 25) rfl) rfl (by decide) (by first | (rw [if_pos hb] at hQ; exact hQ) | (rw [if_neg hb] at hQ; exact hQ))
  · have c : ¬ (lg_cmp (if inV (hJ h 19) w then 1 else 0) 0 = 0) := c
    have hb : inV (hJ h 19) w = true := Classical.not_not.mp (fun q => c (by rw [if_neg q]; rfl))
    refine r_iconst (v := 1) (q72 (i := 22) rfl) (by decide) ?_
    refine r_goto 39 (q72 (i := 23) rfl) (by decide) ?_
    exact r_zret (q72 (i := 25) rfl) rfl (by decide) (by first | (rw [if_pos hb] at hQ; exact hQ) | (rw [if_neg hb] at hQ; exact hQ))
/-- a VECTOR more: its bit, its place; the word's first bit notes the word -/
def addV (h : hp) (w u z : Nat) : hp := sI (sI (sJ (if hJ h 19 (w / 64) = 0 then sI (sI h 20 u (nI (w / 64))) 17 3 (nI (u + 1)) else h) 19 (w / 64) (hJ h 19 (w / 64) ||| 1 <<< ((nI (w % 64)).toInt64 &&& 63))) 18 z (nI w)) 17 4 (nI (z + 1))
set_option maxHeartbeats 2000000 in
set_option maxRecDepth 10000 in
theorem sp_add {d : Nat} {h : hp} (S : Sh h) {w u z : Nat} (hw : w < 4096) (hz : hI h 17 4 = nI z) (hz1 : z < 4096) (hu : hI h 17 3 = nI u) (hu1 : hJ h 19 (w / 64) = 0 → u < 64) (hv : inV (hJ h 19) w = false) : Run (d + 1 + 1) 73 [.ref 17, .int (nI w)] h 0 0 none (addV h w u z) := by
  refine Run.of (Nat.le_of_ble_eq_true rfl) (fun Q hQ => ?_)
  show Wp (Ex (d + 1)) 73 Q 0 [(0, .ref 17), (1, .int (nI w))] [] h 0 0
  refine r_iload_n (q73 (i := 0) rfl) rfl ?_
  refine r_if 29 (q73 (i := 1) rfl) (by decide) (fun c => absurd c (show ¬ (nI w < 0) from nI_pos (by omega))) (fun _ => ?_)
  refine r_iload_n (q73 (i := 2) rfl) rfl ?_
  refine r_sipush (v := 4096) (q73 (i := 3) rfl) (by decide) ?_
  refine r_icmp 29 (q73 (i := 4) rfl) (by decide) (fun c => absurd c (show ¬ (4096 ≤ nI w) from nI_ge (b := 4096) hw (by decide))) (fun _ => ?_)
  refine r_aload_n (q73 (i := 5) rfl) rfl ?_
  refine r_getI (x := nI z) (q73 (i := 6) rfl) rfl (by decide) (k_17 S) (fun _ _ _ => rfl) hz ?_
  refine r_sipush (v := 4096) (q73 (i := 7) rfl) (by decide) ?_
  refine r_icmp 29 (q73 (i := 8) rfl) (by decide) (fun c => absurd c (show ¬ (4096 ≤ nI z) from nI_ge (b := 4096) hz1 (by decide))) (fun _ => ?_)
  refine r_aload_n (q73 (i := 9) rfl) rfl ?_
  refine r_iload_n (q73 (i := 10) rfl) rfl ?_
  refine r_cV (d := _) (q73 (i := 11) rfl) rfl rfl rfl (k_17 S) (Nat.le_of_ble_eq_true rfl) (Nat.zero_le _) (Nat.zero_le _) (sp_has S hw) ?_
  show Wp _ _ _ 26 [(0, .ref 17), (1, .int (nI w))] [.int (if inV (hJ h 19) w then 1 else 0)] h _ _
  rw [if_neg (by rw [hv]; decide)]
  refine r_if 30 (q73 (i := 12) rfl) (by decide) (fun _ => ?_) (fun c => absurd (show (0 : Int32) = 0 from by decide) c)
  refine r_iload_n (q73 (i := 14) rfl) rfl ?_
  refine r_bipush (v := 6) (q73 (i := 15) rfl) (by decide) ?_
  refine r_ishr (q73 (i := 16) rfl) ?_
  rw [show ((nI w) >>> (6 &&& 31) : Int32) = nI (w / 64) from shr6 (by omega)]
  refine r_istore_n (ls' := [(2, .int (nI (w / 64))), (0, .ref 17), (1, .int (nI w))]) (q73 (i := 17) rfl) (Nat.le_of_ble_eq_true rfl) rfl ?_
  refine r_aload_n (q73 (i := 18) rfl) rfl ?_
  refine r_getR (b := 19) (q73 (i := 19) rfl) rfl (by decide) (k_17 S) (fun _ _ _ => rfl) (r_17_1 S) ?_
  refine r_iload_n (q73 (i := 20) rfl) rfl ?_
  refine r_laN (x := hJ h 19 (w / 64)) (q73 (i := 21) rfl) (k_19 S) (by omega) (by decide) rfl ?_
  refine r_lconst (v := 0) (q73 (i := 22) rfl) (by decide) ?_
  refine r_lcmp (q73 (i := 23) rfl) ?_
  refine r_if 66 (q73 (i := 24) rfl) (by decide) (fun c => ?_) (fun c => ?_)
  · have c : ¬ lg_cmp (hJ h 19 (w / 64)) 0 = 0 := c
    have c : ¬ hJ h 19 (w / 64) = 0 := fun q => c (by rw [q]; rfl)
    refine r_aload_n (q73 (i := 37) rfl) rfl ?_
    refine r_getR (b := 19) (q73 (i := 38) rfl) rfl (by decide) (k_17 S) (fun _ _ _ => rfl) (r_17_1 S) ?_
    refine r_iload_n (q73 (i := 39) rfl) rfl ?_
    refine r_dup2 (q73 (i := 40) rfl) rfl rfl ?_
    refine r_laN (x := hJ h 19 (w / 64)) (q73 (i := 41) rfl) (k_19 S) (by omega) (by decide) rfl ?_
    refine r_lconst (v := 1) (q73 (i := 42) rfl) (by decide) ?_
    refine r_iload_n (q73 (i := 43) rfl) rfl ?_
    refine r_bipush (v := 63) (q73 (i := 44) rfl) (by decide) ?_
    refine r_iand (q73 (i := 45) rfl) ?_
    rw [show ((nI w) &&& 63 : Int32) = nI (w % 64) from and63 (by omega)]
    refine r_lshl (q73 (i := 46) rfl) ?_
    refine r_lor (q73 (i := 47) rfl) ?_
    refine r_lasN (q73 (i := 48) rfl) (k_19 S) (by omega) (by decide) ?_
    refine r_aload_n (q73 (i := 49) rfl) rfl ?_
    refine r_getR (b := 18) (q73 (i := 50) rfl) rfl (by decide) (k_17 S) (fun _ _ _ => rfl) (r_17_0 S) ?_
    refine r_aload_n (q73 (i := 51) rfl) rfl ?_
    refine r_getI (x := nI z) (q73 (i := 52) rfl) rfl (by decide) (k_17 S) (fun _ _ _ => rfl) hz ?_
    refine r_iload_n (q73 (i := 53) rfl) rfl ?_
    refine r_iasN (q73 (i := 54) rfl) (k_18 S) hz1 (by decide) ?_
    refine r_aload_n (q73 (i := 55) rfl) rfl ?_
    refine r_dup (q73 (i := 56) rfl) rfl ?_
    refine r_getI (x := nI z) (q73 (i := 57) rfl) rfl (by decide) (k_17 S) (fun _ _ _ => rfl) hz ?_
    refine r_iconst (v := 1) (q73 (i := 58) rfl) (by decide) ?_
    refine r_iadd (q73 (i := 59) rfl) ?_
    rw [show ((nI z) + 1 : Int32) = nI (z + 1) from nI_1 z]
    refine r_putI (q73 (i := 60) rfl) rfl (by decide) (k_17 S) rfl rfl ?_
    exact r_vret (q73 (i := 61) rfl) rfl (by unfold addV at hQ; first | (rw [if_pos c] at hQ; exact hQ) | (rw [if_neg c] at hQ; exact hQ))
  · have c : ¬ (¬ lg_cmp (hJ h 19 (w / 64)) 0 = 0) := c
    have c : hJ h 19 (w / 64) = 0 := (cmp0 _ _).mp (Classical.not_not.mp c)
    have hu2 := hu1 c
    refine r_aload_n (q73 (i := 25) rfl) rfl ?_
    refine r_getR (b := 20) (q73 (i := 26) rfl) rfl (by decide) (k_17 S) (fun _ _ _ => rfl) (r_17_2 S) ?_
    refine r_aload_n (q73 (i := 27) rfl) rfl ?_
    refine r_getI (x := nI u) (q73 (i := 28) rfl) rfl (by decide) (k_17 S) (fun _ _ _ => rfl) hu ?_
    refine r_iload_n (q73 (i := 29) rfl) rfl ?_
    refine r_iasN (q73 (i := 30) rfl) (k_20 S) hu2 (by decide) ?_
    refine r_aload_n (q73 (i := 31) rfl) rfl ?_
    refine r_dup (q73 (i := 32) rfl) rfl ?_
    refine r_getI (x := nI u) (q73 (i := 33) rfl) rfl (by decide) (k_17 S) (fun _ _ _ => rfl) hu ?_
    refine r_iconst (v := 1) (q73 (i := 34) rfl) (by decide) ?_
    refine r_iadd (q73 (i := 35) rfl) ?_
    rw [show ((nI u) + 1 : Int32) = nI (u + 1) from nI_1 u]
    refine r_putI (q73 (i := 36) rfl) rfl (by decide) (k_17 S) rfl rfl ?_
    refine r_aload_n (q73 (i := 37) rfl) rfl ?_
    refine r_getR (b := 19) (q73 (i := 38) rfl) rfl (by decide) (k_17 S) (fun _ _ _ => rfl) (r_17_1 S) ?_
    refine r_iload_n (q73 (i := 39) rfl) rfl ?_
    refine r_dup2 (q73 (i := 40) rfl) rfl rfl ?_
    refine r_laN (x := hJ h 19 (w / 64)) (q73 (i := 41) rfl) (k_19 S) (by omega) (by decide) rfl ?_
    refine r_lconst (v := 1) (q73 (i := 42) rfl) (by decide) ?_
    refine r_iload_n (q73 (i := 43) rfl) rfl ?_
    refine r_bipush (v := 63) (q73 (i := 44) rfl) (by decide) ?_
    refine r_iand (q73 (i := 45) rfl) ?_
    rw [show ((nI w) &&& 63 : Int32) = nI (w % 64) from and63 (by omega)]
    refine r_lshl (q73 (i := 46) rfl) ?_
    refine r_lor (q73 (i := 47) rfl) ?_
    refine r_lasN (q73 (i := 48) rfl) (k_19 S) (by omega) (by decide) ?_
    refine r_aload_n (q73 (i := 49) rfl) rfl ?_
    refine r_getR (b := 18) (q73 (i := 50) rfl) rfl (by decide) (k_17 S) (fun _ _ _ => rfl) (r_17_0 S) ?_
    refine r_aload_n (q73 (i := 51) rfl) rfl ?_
    refine r_getI (x := nI z) (q73 (i := 52) rfl) rfl (by decide) (k_17 S) (fun _ _ _ => rfl) hz ?_
    refine r_iload_n (q73 (i := 53) rfl) rfl ?_
    refine r_iasN (q73 (i := 54) rfl) (k_18 S) hz1 (by decide) ?_
    refine r_aload_n (q73 (i := 55) rfl) rfl ?_
    refine r_dup (q73 (i := 56) rfl) rfl ?_
    refine r_getI (x := nI z) (q73 (i := 57) rfl) rfl (by decide) (k_17 S) (fun _ _ _ => rfl) hz ?_
    refine r_iconst (v := 1) (q73 (i := 58) rfl) (by decide) ?_
    refine r_iadd (q73 (i := 59) rfl) ?_
    rw [show ((nI z) + 1 : Int32) = nI (z + 1) from nI_1 z]
    refine r_putI (q73 (i := 60) rfl) rfl (by decide) (k_17 S) rfl rfl ?_
    exact r_vret (q73 (i := 61) rfl) rfl (by unfold addV at hQ; first | (rw [if_pos c] at hQ; exact hQ) | (rw [if_neg c] at hQ; exact hQ))
