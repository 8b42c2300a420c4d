/-! ===== longs by their bits (the first rows: BITS.to-paste, one family) ===== -/
theorem wb_tb (n : Nat) : (lN n).toBitVec = BitVec.ofNat 64 n := rfl
theorem wb_inj {a b : Int64} (h : a.toBitVec = b.toBitVec) : a = b := Int64.toBitVec_inj.mp h
theorem wb_tn {n : Nat} (h : n < 2 ^ 64) : (lN n).toBitVec.toNat = n := by rw [wb_tb, BitVec.toNat_ofNat, Nat.mod_eq_of_lt h]
theorem wb_of (x : Int64) : ∃ n, n < 2 ^ 64 ∧ x = lN n := ⟨x.toBitVec.toNat, x.toBitVec.isLt, wb_inj (by rw [wb_tb]; simp)⟩
theorem wb_of32 (x : Int32) : ∃ n, n < 2 ^ 32 ∧ x = nI n := ⟨x.toBitVec.toNat, x.toBitVec.isLt, Int32.toBitVec_inj.mp (by show _ = BitVec.ofNat 32 _; simp)⟩
theorem wb_c : ∀ k, k < 64 → ((nI k).toInt64 &&& 63) = lN k := by decide +kernel
theorem wb_cu : ∀ k, k < 64 → ((nI k).toInt64.toUInt64 &&& Int64.toUInt64 63) = UInt64.ofNat k := by decide +kernel
theorem wb_sm : ∀ k, k < 64 → (BitVec.ofNat 64 k).smod 64 = BitVec.ofNat 64 k := by decide +kernel
theorem wb_pw {a b : Nat} (h : a ≤ b) : 2 ^ b = 2 ^ a * 2 ^ (b - a) := by rw [← Nat.pow_add]; congr 1; omega
theorem wb_lt2 {a b : Nat} (h : a < b) : 2 ^ a < 2 ^ b := Nat.pow_lt_pow_right (by decide) h
theorem wb_mod (n : Nat) : lN n = lN (n % 2 ^ 64) := wb_inj (by rw [wb_tb, wb_tb]; apply BitVec.eq_of_toNat_eq; rw [BitVec.toNat_ofNat, BitVec.toNat_ofNat, Nat.mod_mod])
theorem wb_shr {n k : Nat} (hn : n < 2 ^ 64) (hk : k < 64) : ((lN n).toUInt64 >>> ((nI k).toInt64.toUInt64 &&& Int64.toUInt64 63)).toInt64 = lN (n / 2 ^ k) := by
  rw [wb_cu k hk]
  apply wb_inj
  apply BitVec.eq_of_toNat_eq
  show ((lN n).toUInt64 >>> UInt64.ofNat k).toNat = (BitVec.ofNat 64 _).toNat
  have h1 : (UInt64.ofNat k).toNat = k := by
    show (BitVec.ofNat 64 k).toNat = k
    rw [BitVec.toNat_ofNat, Nat.mod_eq_of_lt (by omega)]
  have h2 : (lN n).toUInt64.toNat = n := wb_tn hn
  rw [UInt64.toNat_shiftRight, h1, h2, Nat.mod_eq_of_lt hk, Nat.shiftRight_eq_div_pow, BitVec.toNat_ofNat, Nat.mod_eq_of_lt (Nat.lt_of_le_of_lt (Nat.div_le_self _ _) hn)]
theorem wb_shl (n : Nat) {k : Nat} (hk : k < 64) : lN n <<< ((nI k).toInt64 &&& 63) = lN (n * 2 ^ k) := by
  rw [wb_c k hk]
  apply wb_inj
  rw [Int64.toBitVec_shiftLeft, wb_tb, wb_tb, wb_tb, wb_sm k hk]
  apply BitVec.eq_of_toNat_eq
  rw [BitVec.shiftLeft_eq', BitVec.toNat_shiftLeft, BitVec.toNat_ofNat, BitVec.toNat_ofNat, BitVec.toNat_ofNat, Nat.mod_eq_of_lt (show k < 2 ^ 64 by omega), Nat.shiftLeft_eq, Nat.mul_mod, Nat.mod_mod, ← Nat.mul_mod]
theorem wb_and {a b : Nat} (ha : a < 2 ^ 64) (hb : b < 2 ^ 64) : lN a &&& lN b = lN (a &&& b) := by
  apply wb_inj
  rw [Int64.toBitVec_and, wb_tb, wb_tb, wb_tb]
  apply BitVec.eq_of_toNat_eq
  rw [BitVec.toNat_and, BitVec.toNat_ofNat, BitVec.toNat_ofNat, BitVec.toNat_ofNat, Nat.mod_eq_of_lt ha, Nat.mod_eq_of_lt hb, Nat.mod_eq_of_lt (Nat.and_lt_two_pow _ hb)]
theorem wb_or {a b : Nat} (ha : a < 2 ^ 64) (hb : b < 2 ^ 64) : lN a ||| lN b = lN (a ||| b) := by
  apply wb_inj
  rw [Int64.toBitVec_or, wb_tb, wb_tb, wb_tb]
  apply BitVec.eq_of_toNat_eq
  rw [BitVec.toNat_or, BitVec.toNat_ofNat, BitVec.toNat_ofNat, BitVec.toNat_ofNat, Nat.mod_eq_of_lt ha, Nat.mod_eq_of_lt hb, Nat.mod_eq_of_lt (Nat.or_lt_two_pow ha hb)]
theorem wb_mask {n k : Nat} (hn : n < 2 ^ 64) (hk : k < 64) : lN n &&& lN (2 ^ k - 1) = lN (n % 2 ^ k) := by
  rw [wb_and hn (by have := wb_lt2 hk; omega), Nat.and_two_pow_sub_one_eq_mod]
theorem wb_a1 {n : Nat} (hn : n < 2 ^ 64) : lN n &&& 1 = lN (n % 2) := wb_mask (k := 1) hn (by decide)
theorem wb_bit {n k : Nat} (hn : n < 2 ^ 64) (hk : k < 64) : ((lN n).toUInt64 >>> ((nI k).toInt64.toUInt64 &&& Int64.toUInt64 63)).toInt64 &&& 1 = lN (n / 2 ^ k % 2) := by
  rw [wb_shr hn hk, wb_a1 (Nat.lt_of_le_of_lt (Nat.div_le_self _ _) hn)]
def b64 (x : Int64) (i : Nat) : Bool := x.toBitVec.getLsbD i
theorem b64_ext {x y : Int64} (h : ∀ i, i < 64 → b64 x i = b64 y i) : x = y := Int64.toBitVec_inj.mp (BitVec.eq_of_getLsbD_eq (fun i hi => h i hi))
theorem b64_and (x y : Int64) (i : Nat) : b64 (x &&& y) i = (b64 x i && b64 y i) := by
  unfold b64
  rw [Int64.toBitVec_and, BitVec.getLsbD_and]
theorem b64_or (x y : Int64) (i : Nat) : b64 (x ||| y) i = (b64 x i || b64 y i) := by
  unfold b64
  rw [Int64.toBitVec_or, BitVec.getLsbD_or]
theorem b64_xor (x y : Int64) (i : Nat) : b64 (x ^^^ y) i = (b64 x i ^^ b64 y i) := by
  unfold b64
  rw [Int64.toBitVec_xor, BitVec.getLsbD_xor]
theorem b64_0 (i : Nat) : b64 0 i = false := by
  show (0#64).getLsbD i = false
  exact BitVec.getLsbD_zero
theorem b64_m1 {i : Nat} (hi : i < 64) : b64 (-1) i = true := by
  unfold b64
  rw [show (-1 : Int64).toBitVec = BitVec.allOnes 64 by decide, BitVec.getLsbD_allOnes]
  exact decide_eq_true hi
theorem b64_not (x : Int64) {i : Nat} (hi : i < 64) : b64 (x ^^^ (-1)) i = !b64 x i := by
  rw [b64_xor, b64_m1 hi, Bool.xor_true]
theorem b64_lN (n i : Nat) : b64 (lN n) i = (decide (i < 64) && n.testBit i) := by
  unfold b64
  rw [wb_tb, BitVec.getLsbD_ofNat]
theorem b64_1 (i : Nat) : b64 1 i = decide (i = 0) := by
  have e : (1 : Int64) = lN 1 := rfl
  rw [e, b64_lN]
  by_cases h : i = 0
  · subst h; decide
  · rw [show Nat.testBit 1 i = false by rw [show (1 : Nat) = 2 ^ 0 from rfl, Nat.testBit_two_pow]; exact decide_eq_false (fun e => h e.symm)]
    simp [h]
theorem b64_one (x : Int64) : (x &&& 1) = if b64 x 0 then 1 else 0 := by
  apply b64_ext
  intro i hi
  rw [b64_and, b64_1]
  by_cases h : i = 0
  · subst h
    cases hx : b64 x 0
    · rw [if_neg (by decide), b64_0]; rfl
    · rw [if_pos rfl, b64_1]; rfl
  · rw [decide_eq_false h, Bool.and_false]
    split
    · rw [b64_1, decide_eq_false h]
    · rw [b64_0]
theorem b64_ushr (x : Int64) {k i : Nat} (hk : k < 64) (hi : i < 64) : b64 (x.toUInt64 >>> ((nI k).toInt64.toUInt64 &&& Int64.toUInt64 63)).toInt64 i = (decide (k + i < 64) && b64 x (k + i)) := by
  obtain ⟨n, hn, rfl⟩ := wb_of x
  rw [wb_shr hn hk, b64_lN, b64_lN, Nat.testBit_div_two_pow, decide_eq_true hi, Nat.add_comm i k, Bool.true_and]
  by_cases h : k + i < 64
  · simp [h]
  · rw [decide_eq_false h, Bool.false_and]
    exact Nat.testBit_lt_two_pow (Nat.lt_of_lt_of_le hn (Nat.pow_le_pow_right (by decide) (by omega)))
theorem b64_ubit (x : Int64) {k : Nat} (hk : k < 64) : ((x.toUInt64 >>> ((nI k).toInt64.toUInt64 &&& Int64.toUInt64 63)).toInt64 &&& 1) = if b64 x k then 1 else 0 := by
  rw [b64_one, b64_ushr x hk (by decide), Nat.add_zero, decide_eq_true hk, Bool.true_and]
theorem b64_sbit (x : Int64) {k : Nat} (hk : k < 64) : ((x >>> ((nI k).toInt64 &&& 63)) &&& 1) = if b64 x k then 1 else 0 := by
  have e : b64 (x >>> ((nI k).toInt64 &&& 63)) 0 = b64 x k := by
    unfold b64
    rw [wb_c k hk, Int64.toBitVec_shiftRight, wb_tb, wb_sm k hk, BitVec.sshiftRight_eq', BitVec.getLsbD_sshiftRight, BitVec.toNat_ofNat, Nat.mod_eq_of_lt (by omega), Nat.add_zero, if_pos hk]
    rfl
  rw [b64_one, e]
theorem b64_shl1 {k i : Nat} (hk : k < 64) (hi : i < 64) : b64 ((1 : Int64) <<< ((nI k).toInt64 &&& 63)) i = decide (i = k) := by
  have e : (1 : Int64) = lN 1 := rfl
  rw [e, wb_shl 1 hk, b64_lN, Nat.one_mul, Nat.testBit_two_pow, decide_eq_true hi, Bool.true_and]
  simp [eq_comm]
theorem cmp0 (x y : Int64) : lg_cmp x y = 0 ↔ x = y := by
  unfold lg_cmp
  by_cases h : x > y
  · rw [if_pos h]
    constructor
    · intro q; exact absurd q (by decide)
    · intro q; subst q; exact absurd h (Int64.lt_irrefl)
  · rw [if_neg h]
    by_cases e : x = y
    · rw [if_pos e]; exact ⟨fun _ => e, fun _ => rfl⟩
    · rw [if_neg e]; exact ⟨fun q => absurd q (by decide), fun q => absurd q e⟩
/-! ints -/
theorem shr6 {w : Nat} (h : w < 2 ^ 31) : nI w >>> ((6 : Int32) &&& 31) = nI (w / 64) := pk_shrN h _ 6 (by decide)
theorem and63 {w : Nat} (h : w < 2 ^ 31) : nI w &&& 63 = nI (w % 64) := pk_andN (by omega) 6 (by decide)
theorem shr1 {w : Nat} (h : w < 2 ^ 31) : nI w >>> ((1 : Int32) &&& 31) = nI (w / 2) := pk_shrN h _ 1 (by decide)
theorem and1 {w : Nat} (h : w < 2 ^ 31) : nI w &&& 1 = nI (w % 2) := pk_andN (by omega) 1 (by decide)
theorem div2 {w : Nat} (h : w < 2 ^ 31) : nI w / 2 = nI (w / 2) := pk_div (d := 2) h (by decide) (by decide)
theorem div64 {w : Nat} (h : w < 2 ^ 31) : nI w / 64 = nI (w / 64) := pk_div (d := 64) h (by decide) (by decide)
theorem rem2 {w : Nat} (h : w < 2 ^ 31) : nI w - nI w / 2 * 2 = nI (w % 2) := pk_rem (d := 2) h (by decide) (by decide)
theorem rem64 {w : Nat} (h : w < 2 ^ 31) : nI w - nI w / 64 * 64 = nI (w % 64) := pk_rem (d := 64) h (by decide) (by decide)
theorem xorN (a b : Nat) : nI a ^^^ nI b = nI (a ^^^ b) := Int32.toBitVec_inj.mp (by
  show BitVec.ofNat 32 a ^^^ BitVec.ofNat 32 b = BitVec.ofNat 32 (a ^^^ b)
  apply BitVec.eq_of_getLsbD_eq
  intro i hi
  rw [BitVec.getLsbD_xor, BitVec.getLsbD_ofNat, BitVec.getLsbD_ofNat, BitVec.getLsbD_ofNat, Nat.testBit_xor, decide_eq_true hi]
  simp)
theorem xor1 (a : Nat) : nI a ^^^ 1 = nI (a ^^^ 1) := xorN a 1
/-! locals of a loop: by what they answer -/
theorem lk0 (ls : List (Nat × Value)) (k : Nat) (v : Value) : (lset1 ls k v).lookup k = some v := List.lookup_cons_self
theorem lk00 (ls : List (Nat × Value)) (k : Nat) (v : Value) : (lset2 ls k v).lookup k = some v := List.lookup_cons_self
theorem lk_f {ls : List (Nat × Value)} {i : Nat} {u : Value} {p : Nat × Value → Bool} (h : ls.lookup i = some u) (hp : p (i, u) = true) : (ls.filter p).lookup i = some u := by
  induction ls with
  | nil => cases h
  | cons q r ih =>
    obtain ⟨a, b⟩ := q
    rw [List.lookup_cons] at h
    by_cases e : i == a
    · rw [e] at h
      have h1 : i = a := by simpa using e
      cases h
      subst h1
      rw [List.filter_cons, if_pos hp]
      exact List.lookup_cons_self
    · have e' : (i == a) = false := by simpa using e
      rw [e'] at h
      rw [List.filter_cons]
      split
      · rw [List.lookup_cons, e']
        exact ih h
      · exact ih h
theorem lk1 {ls : List (Nat × Value)} {k i : Nat} {v u : Value} (h : ls.lookup i = some u) (hne : i ≠ k) (hc : u.category = 1 ∨ i + 1 ≠ k) : (lset1 ls k v).lookup i = some u := by
  unfold lset1
  rw [List.lookup_cons, show (i == k) = false by simpa using hne]
  refine lk_f h ?_
  rcases hc with hc | hc
  · simp [hne, hc]
  · simp [hne, hc]
theorem lk2 {ls : List (Nat × Value)} {k i : Nat} {v u : Value} (h : ls.lookup i = some u) (hne : i ≠ k) (hne2 : i ≠ k + 1) (hc : u.category = 1 ∨ i + 1 ≠ k) : (lset2 ls k v).lookup i = some u := by
  unfold lset2
  rw [List.lookup_cons, show (i == k) = false by simpa using hne]
  refine lk_f h ?_
  rcases hc with hc | hc
  · simp [hne, hne2, hc]
  · simp [hne, hne2, hc]
