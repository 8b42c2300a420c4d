section ROWN
variable {C : callP} {j : Nat} {Q : resP} {pc : Nat} {ls : List (Nat × Value)} {st : List Value} {h : hp} {bc bs : Nat}
theorem r_iaN {a n i : Nat} {x : Int32} (hm : (pc, Instr.iaload, 1) ∈ pt j) (hk : hK h a = (1, n)) (hi : i < n) (hn : n < 2 ^ 31) (hx : hI h a i = x) (kk : Wp C j Q (pc + 1) ls (.int x :: st) h bc bs) : Wp C j Q pc ls (.int (nI i) :: .ref a :: st) h bc bs :=
  r_iaload hm hk (vp_in_nI hi hn) (by rw [nI_clamp (by omega)]; exact hx) kk
theorem r_laN {a n i : Nat} {x : Int64} (hm : (pc, Instr.laload, 1) ∈ pt j) (hk : hK h a = (2, n)) (hi : i < n) (hn : n < 2 ^ 31) (hx : hJ h a i = x) (kk : Wp C j Q (pc + 1) ls (.long x :: st) h bc bs) : Wp C j Q pc ls (.int (nI i) :: .ref a :: st) h bc bs :=
  r_laload hm hk (vp_in_nI hi hn) (by rw [nI_clamp (by omega)]; exact hx) kk
theorem r_baN {a n i : Nat} {x : Int32} (hm : (pc, Instr.baload, 1) ∈ pt j) (hk : hK h a = (3, n)) (hi : i < n) (hn : n < 2 ^ 31) (hx : hI h a i = x) (kk : Wp C j Q (pc + 1) ls (.int x :: st) h bc bs) : Wp C j Q pc ls (.int (nI i) :: .ref a :: st) h bc bs :=
  r_baload hm hk (vp_in_nI hi hn) (by rw [nI_clamp (by omega)]; exact hx) kk
theorem r_zaN {a n i : Nat} {x : Int32} (hm : (pc, Instr.baload, 1) ∈ pt j) (hk : hK h a = (4, n)) (hi : i < n) (hn : n < 2 ^ 31) (hx : hI h a i = x) (kk : Wp C j Q (pc + 1) ls (.int x :: st) h bc bs) : Wp C j Q pc ls (.int (nI i) :: .ref a :: st) h bc bs :=
  r_zaload hm hk (vp_in_nI hi hn) (by rw [nI_clamp (by omega)]; exact hx) kk
theorem r_aa5N {a n b i : Nat} (hm : (pc, Instr.aaload, 1) ∈ pt j) (hk : hK h a = (5, n)) (hi : i < n) (hn : n < 2 ^ 31) (hx : hR h a i = some b) (kk : Wp C j Q (pc + 1) ls (.ref b :: st) h bc bs) : Wp C j Q pc ls (.int (nI i) :: .ref a :: st) h bc bs :=
  r_aaload5 hm hk (vp_in_nI hi hn) (by rw [nI_clamp (by omega)]; exact hx) kk
theorem r_aa6N {a n b i : Nat} (hm : (pc, Instr.aaload, 1) ∈ pt j) (hk : hK h a = (6, n)) (hi : i < n) (hn : n < 2 ^ 31) (hx : hR h a i = some b) (kk : Wp C j Q (pc + 1) ls (.ref b :: st) h bc bs) : Wp C j Q pc ls (.int (nI i) :: .ref a :: st) h bc bs :=
  r_aaload6 hm hk (vp_in_nI hi hn) (by rw [nI_clamp (by omega)]; exact hx) kk
theorem r_iasN {a n i : Nat} {x : Int32} (hm : (pc, Instr.iastore, 1) ∈ pt j) (hk : hK h a = (1, n)) (hi : i < n) (hn : n < 2 ^ 31) (kk : Wp C j Q (pc + 1) ls st (sI h a i x) bc bs) : Wp C j Q pc ls (.int x :: .int (nI i) :: .ref a :: st) h bc bs :=
  r_iastore hm hk (vp_in_nI hi hn) (by rw [nI_clamp (by omega)]; exact kk)
theorem r_lasN {a n i : Nat} {x : Int64} (hm : (pc, Instr.lastore, 1) ∈ pt j) (hk : hK h a = (2, n)) (hi : i < n) (hn : n < 2 ^ 31) (kk : Wp C j Q (pc + 1) ls st (sJ h a i x) bc bs) : Wp C j Q pc ls (.long x :: .int (nI i) :: .ref a :: st) h bc bs :=
  r_lastore hm hk (vp_in_nI hi hn) (by rw [nI_clamp (by omega)]; exact kk)
theorem r_basN {a n i : Nat} {x y : Int32} (hm : (pc, Instr.bastore, 1) ∈ pt j) (hk : hK h a = (3, n)) (hi : i < n) (hn : n < 2 ^ 31) (hy : vp_nar .byte x = y) (kk : Wp C j Q (pc + 1) ls st (sI h a i y) bc bs) : Wp C j Q pc ls (.int x :: .int (nI i) :: .ref a :: st) h bc bs :=
  r_bastore hm hk (vp_in_nI hi hn) (by rw [nI_clamp (by omega), hy]; exact kk)
theorem r_zasN {a n i : Nat} {x y : Int32} (hm : (pc, Instr.bastore, 1) ∈ pt j) (hk : hK h a = (4, n)) (hi : i < n) (hn : n < 2 ^ 31) (hy : vp_nar .boolean x = y) (kk : Wp C j Q (pc + 1) ls st (sI h a i y) bc bs) : Wp C j Q pc ls (.int x :: .int (nI i) :: .ref a :: st) h bc bs :=
  r_zastore hm hk (vp_in_nI hi hn) (by rw [nI_clamp (by omega), hy]; exact kk)
end ROWN
