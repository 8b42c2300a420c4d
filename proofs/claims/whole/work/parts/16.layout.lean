/-! ===== the heap behind the two constructors: kinds, lengths, references ===== -/
def K1 (k : Nat) : Nat × Nat := if k < 71 then [(7, 0), (8, 6), (0, 8), (0, 2), (1, 120), (1, 120), (1, 120), (1, 120), (1, 10), (1, 132), (0, 2), (1, 120), (1, 120), (1, 120), (1, 120), (1, 10), (1, 132), (0, 7), (1, 4096), (2, 64), (1, 64), (0, 3), (1, 973), (1, 973), (1, 1946), (1, 973), (2, 973), (0, 4), (1, 973), (1, 973), (0, 5), (1, 973), (4, 973), (0, 6), (3, 3000), (0, 0), (1, 5), (1, 5), (1, 1001), (1, 248), (1, 248), (1, 119), (0, 1), (1, 119), (1, 119), (1, 119), (4, 119), (0, 9), (1, 2), (1, 2), (5, 2), (1, 120), (1, 120), (5, 2), (1, 120), (1, 120), (5, 2), (1, 120), (1, 120), (5, 2), (1, 120), (1, 120), (5, 2), (1, 10), (1, 10), (5, 2), (1, 120), (1, 120), (1, 1000), (1, 1000), (6, 1000)].getD k (9, 0) else if k < 1071 then (2, 64) else if k < 1080 then [(2, 64), (1, 4096), (1, 1000), (3, 3000), (1, 5), (1, 5), (1, 1002), (1, 1002), (5, 120)].getD (k - 1071) (9, 0) else if k < 1200 then (1, 3) else if k = 1200 then (5, 120) else if k < 1321 then (1, 3) else [(1, 10), (1, 10), (4, 120), (1, 1002), (4, 1002), (4, 1000)].getD (k - 1321) (9, 0)
def R1 (k j : Nat) : Option Nat := if k = 2 then ([some 3, some 10, some 17, some 21, some 27, some 30, some 33, some 35, some 42, none, none, none, none] : List (Option Nat)).getD j none else if k = 3 then ([some 4, some 5, some 6, some 7, some 8, some 9, none, none, none] : List (Option Nat)).getD j none else if k = 10 then ([some 11, some 12, some 13, some 14, some 15, some 16, none, none, none] : List (Option Nat)).getD j none else if k = 17 then ([some 18, some 19, some 20, none, none] : List (Option Nat)).getD j none else if k = 21 then ([some 3, some 10, some 22, some 23, some 24, some 25, some 26, none, none, none, none, none, none] : List (Option Nat)).getD j none else if k = 27 then ([some 28, some 29, none] : List (Option Nat)).getD j none else if k = 30 then ([some 31, some 32, none, none, none, none] : List (Option Nat)).getD j none else if k = 33 then ([some 34, none] : List (Option Nat)).getD j none else if k = 35 then ([some 33, some 36, some 37, some 38, some 39, some 40, some 41, none, none, none, none, none, none, none, none, none, none, none] : List (Option Nat)).getD j none else if k = 42 then ([some 35, some 43, some 44, some 45, some 46, none] : List (Option Nat)).getD j none else if k = 47 then ([none, none, some 48, some 49, some 50, some 53, some 56, some 59, some 62, some 65, none, none, some 68, some 69, some 70, some 1071, some 1072, none, none, some 1073, none, none, none, none, some 1074, none, none, none, none, none, some 1075, some 1076, some 1077, some 1078, some 1079, some 1200, some 1321, some 1322, some 1323, some 1324, some 1325, some 1326] : List (Option Nat)).getD j none else if k = 50 then ([some 51, some 52] : List (Option Nat)).getD j none else if k = 53 then ([some 54, some 55] : List (Option Nat)).getD j none else if k = 56 then ([some 57, some 58] : List (Option Nat)).getD j none else if k = 59 then ([some 60, some 61] : List (Option Nat)).getD j none else if k = 62 then ([some 63, some 64] : List (Option Nat)).getD j none else if k = 65 then ([some 66, some 67] : List (Option Nat)).getD j none else if k = 70 then (if j < 1000 then some (71 + j) else none) else if k = 1079 then (if j < 120 then some (1080 + j) else none) else if k = 1200 then (if j < 120 then some (1201 + j) else none) else none
/-- all but the graph's rows -/
def Sh (h : hp) : Prop := (∀ k, 2 ≤ k → k < 1327 → hK h k = K1 k) ∧ (∀ k j, 2 ≤ k → k < 1327 → ¬ (k = 21 ∧ j = 6) → hR h k j = R1 k j)
/-- the graph's rows: where, how long -/
def Rw (h : hp) (ρ ℓ : Nat) : Prop := hR h 21 6 = some ρ ∧ hK h ρ = (2, ℓ) ∧ (ρ = 26 ∨ 1327 ≤ ρ)
theorem k_2 {h : hp} (S : Sh h) : hK h 2 = (0, 8) := S.1 2 (by decide) (by decide)
theorem k_3 {h : hp} (S : Sh h) : hK h 3 = (0, 2) := S.1 3 (by decide) (by decide)
theorem k_4 {h : hp} (S : Sh h) : hK h 4 = (1, 120) := S.1 4 (by decide) (by decide)
theorem k_5 {h : hp} (S : Sh h) : hK h 5 = (1, 120) := S.1 5 (by decide) (by decide)
theorem k_6 {h : hp} (S : Sh h) : hK h 6 = (1, 120) := S.1 6 (by decide) (by decide)
theorem k_7 {h : hp} (S : Sh h) : hK h 7 = (1, 120) := S.1 7 (by decide) (by decide)
theorem k_8 {h : hp} (S : Sh h) : hK h 8 = (1, 10) := S.1 8 (by decide) (by decide)
theorem k_9 {h : hp} (S : Sh h) : hK h 9 = (1, 132) := S.1 9 (by decide) (by decide)
theorem k_10 {h : hp} (S : Sh h) : hK h 10 = (0, 2) := S.1 10 (by decide) (by decide)
theorem k_11 {h : hp} (S : Sh h) : hK h 11 = (1, 120) := S.1 11 (by decide) (by decide)
theorem k_12 {h : hp} (S : Sh h) : hK h 12 = (1, 120) := S.1 12 (by decide) (by decide)
theorem k_13 {h : hp} (S : Sh h) : hK h 13 = (1, 120) := S.1 13 (by decide) (by decide)
theorem k_14 {h : hp} (S : Sh h) : hK h 14 = (1, 120) := S.1 14 (by decide) (by decide)
theorem k_15 {h : hp} (S : Sh h) : hK h 15 = (1, 10) := S.1 15 (by decide) (by decide)
theorem k_16 {h : hp} (S : Sh h) : hK h 16 = (1, 132) := S.1 16 (by decide) (by decide)
theorem k_17 {h : hp} (S : Sh h) : hK h 17 = (0, 7) := S.1 17 (by decide) (by decide)
theorem k_18 {h : hp} (S : Sh h) : hK h 18 = (1, 4096) := S.1 18 (by decide) (by decide)
theorem k_19 {h : hp} (S : Sh h) : hK h 19 = (2, 64) := S.1 19 (by decide) (by decide)
theorem k_20 {h : hp} (S : Sh h) : hK h 20 = (1, 64) := S.1 20 (by decide) (by decide)
theorem k_21 {h : hp} (S : Sh h) : hK h 21 = (0, 3) := S.1 21 (by decide) (by decide)
theorem k_22 {h : hp} (S : Sh h) : hK h 22 = (1, 973) := S.1 22 (by decide) (by decide)
theorem k_23 {h : hp} (S : Sh h) : hK h 23 = (1, 973) := S.1 23 (by decide) (by decide)
theorem k_24 {h : hp} (S : Sh h) : hK h 24 = (1, 1946) := S.1 24 (by decide) (by decide)
theorem k_25 {h : hp} (S : Sh h) : hK h 25 = (1, 973) := S.1 25 (by decide) (by decide)
theorem k_26 {h : hp} (S : Sh h) : hK h 26 = (2, 973) := S.1 26 (by decide) (by decide)
theorem k_27 {h : hp} (S : Sh h) : hK h 27 = (0, 4) := S.1 27 (by decide) (by decide)
theorem k_28 {h : hp} (S : Sh h) : hK h 28 = (1, 973) := S.1 28 (by decide) (by decide)
theorem k_29 {h : hp} (S : Sh h) : hK h 29 = (1, 973) := S.1 29 (by decide) (by decide)
theorem k_30 {h : hp} (S : Sh h) : hK h 30 = (0, 5) := S.1 30 (by decide) (by decide)
theorem k_31 {h : hp} (S : Sh h) : hK h 31 = (1, 973) := S.1 31 (by decide) (by decide)
theorem k_32 {h : hp} (S : Sh h) : hK h 32 = (4, 973) := S.1 32 (by decide) (by decide)
theorem k_33 {h : hp} (S : Sh h) : hK h 33 = (0, 6) := S.1 33 (by decide) (by decide)
theorem k_34 {h : hp} (S : Sh h) : hK h 34 = (3, 3000) := S.1 34 (by decide) (by decide)
theorem k_35 {h : hp} (S : Sh h) : hK h 35 = (0, 0) := S.1 35 (by decide) (by decide)
theorem k_36 {h : hp} (S : Sh h) : hK h 36 = (1, 5) := S.1 36 (by decide) (by decide)
theorem k_37 {h : hp} (S : Sh h) : hK h 37 = (1, 5) := S.1 37 (by decide) (by decide)
theorem k_38 {h : hp} (S : Sh h) : hK h 38 = (1, 1001) := S.1 38 (by decide) (by decide)
theorem k_39 {h : hp} (S : Sh h) : hK h 39 = (1, 248) := S.1 39 (by decide) (by decide)
theorem k_40 {h : hp} (S : Sh h) : hK h 40 = (1, 248) := S.1 40 (by decide) (by decide)
theorem k_41 {h : hp} (S : Sh h) : hK h 41 = (1, 119) := S.1 41 (by decide) (by decide)
theorem k_42 {h : hp} (S : Sh h) : hK h 42 = (0, 1) := S.1 42 (by decide) (by decide)
theorem k_43 {h : hp} (S : Sh h) : hK h 43 = (1, 119) := S.1 43 (by decide) (by decide)
theorem k_44 {h : hp} (S : Sh h) : hK h 44 = (1, 119) := S.1 44 (by decide) (by decide)
theorem k_45 {h : hp} (S : Sh h) : hK h 45 = (1, 119) := S.1 45 (by decide) (by decide)
theorem k_46 {h : hp} (S : Sh h) : hK h 46 = (4, 119) := S.1 46 (by decide) (by decide)
theorem k_47 {h : hp} (S : Sh h) : hK h 47 = (0, 9) := S.1 47 (by decide) (by decide)
theorem k_48 {h : hp} (S : Sh h) : hK h 48 = (1, 2) := S.1 48 (by decide) (by decide)
theorem k_49 {h : hp} (S : Sh h) : hK h 49 = (1, 2) := S.1 49 (by decide) (by decide)
theorem k_50 {h : hp} (S : Sh h) : hK h 50 = (5, 2) := S.1 50 (by decide) (by decide)
theorem k_51 {h : hp} (S : Sh h) : hK h 51 = (1, 120) := S.1 51 (by decide) (by decide)
theorem k_52 {h : hp} (S : Sh h) : hK h 52 = (1, 120) := S.1 52 (by decide) (by decide)
theorem k_53 {h : hp} (S : Sh h) : hK h 53 = (5, 2) := S.1 53 (by decide) (by decide)
theorem k_54 {h : hp} (S : Sh h) : hK h 54 = (1, 120) := S.1 54 (by decide) (by decide)
theorem k_55 {h : hp} (S : Sh h) : hK h 55 = (1, 120) := S.1 55 (by decide) (by decide)
theorem k_56 {h : hp} (S : Sh h) : hK h 56 = (5, 2) := S.1 56 (by decide) (by decide)
theorem k_57 {h : hp} (S : Sh h) : hK h 57 = (1, 120) := S.1 57 (by decide) (by decide)
theorem k_58 {h : hp} (S : Sh h) : hK h 58 = (1, 120) := S.1 58 (by decide) (by decide)
theorem k_59 {h : hp} (S : Sh h) : hK h 59 = (5, 2) := S.1 59 (by decide) (by decide)
theorem k_60 {h : hp} (S : Sh h) : hK h 60 = (1, 120) := S.1 60 (by decide) (by decide)
theorem k_61 {h : hp} (S : Sh h) : hK h 61 = (1, 120) := S.1 61 (by decide) (by decide)
theorem k_62 {h : hp} (S : Sh h) : hK h 62 = (5, 2) := S.1 62 (by decide) (by decide)
theorem k_63 {h : hp} (S : Sh h) : hK h 63 = (1, 10) := S.1 63 (by decide) (by decide)
theorem k_64 {h : hp} (S : Sh h) : hK h 64 = (1, 10) := S.1 64 (by decide) (by decide)
theorem k_65 {h : hp} (S : Sh h) : hK h 65 = (5, 2) := S.1 65 (by decide) (by decide)
theorem k_66 {h : hp} (S : Sh h) : hK h 66 = (1, 120) := S.1 66 (by decide) (by decide)
theorem k_67 {h : hp} (S : Sh h) : hK h 67 = (1, 120) := S.1 67 (by decide) (by decide)
theorem k_68 {h : hp} (S : Sh h) : hK h 68 = (1, 1000) := S.1 68 (by decide) (by decide)
theorem k_69 {h : hp} (S : Sh h) : hK h 69 = (1, 1000) := S.1 69 (by decide) (by decide)
theorem k_70 {h : hp} (S : Sh h) : hK h 70 = (6, 1000) := S.1 70 (by decide) (by decide)
theorem k_1071 {h : hp} (S : Sh h) : hK h 1071 = (2, 64) := S.1 1071 (by decide) (by decide)
theorem k_1072 {h : hp} (S : Sh h) : hK h 1072 = (1, 4096) := S.1 1072 (by decide) (by decide)
theorem k_1073 {h : hp} (S : Sh h) : hK h 1073 = (1, 1000) := S.1 1073 (by decide) (by decide)
theorem k_1074 {h : hp} (S : Sh h) : hK h 1074 = (3, 3000) := S.1 1074 (by decide) (by decide)
theorem k_1075 {h : hp} (S : Sh h) : hK h 1075 = (1, 5) := S.1 1075 (by decide) (by decide)
theorem k_1076 {h : hp} (S : Sh h) : hK h 1076 = (1, 5) := S.1 1076 (by decide) (by decide)
theorem k_1077 {h : hp} (S : Sh h) : hK h 1077 = (1, 1002) := S.1 1077 (by decide) (by decide)
theorem k_1078 {h : hp} (S : Sh h) : hK h 1078 = (1, 1002) := S.1 1078 (by decide) (by decide)
theorem k_1079 {h : hp} (S : Sh h) : hK h 1079 = (5, 120) := S.1 1079 (by decide) (by decide)
theorem k_1200 {h : hp} (S : Sh h) : hK h 1200 = (5, 120) := S.1 1200 (by decide) (by decide)
theorem k_1321 {h : hp} (S : Sh h) : hK h 1321 = (1, 10) := S.1 1321 (by decide) (by decide)
theorem k_1322 {h : hp} (S : Sh h) : hK h 1322 = (1, 10) := S.1 1322 (by decide) (by decide)
theorem k_1323 {h : hp} (S : Sh h) : hK h 1323 = (4, 120) := S.1 1323 (by decide) (by decide)
theorem k_1324 {h : hp} (S : Sh h) : hK h 1324 = (1, 1002) := S.1 1324 (by decide) (by decide)
theorem k_1325 {h : hp} (S : Sh h) : hK h 1325 = (4, 1002) := S.1 1325 (by decide) (by decide)
theorem k_1326 {h : hp} (S : Sh h) : hK h 1326 = (4, 1000) := S.1 1326 (by decide) (by decide)
theorem r_2_0 {h : hp} (S : Sh h) : hR h 2 0 = some 3 := S.2 2 0 (by decide) (by decide) (by decide)
theorem r_2_1 {h : hp} (S : Sh h) : hR h 2 1 = some 10 := S.2 2 1 (by decide) (by decide) (by decide)
theorem r_2_2 {h : hp} (S : Sh h) : hR h 2 2 = some 17 := S.2 2 2 (by decide) (by decide) (by decide)
theorem r_2_3 {h : hp} (S : Sh h) : hR h 2 3 = some 21 := S.2 2 3 (by decide) (by decide) (by decide)
theorem r_2_4 {h : hp} (S : Sh h) : hR h 2 4 = some 27 := S.2 2 4 (by decide) (by decide) (by decide)
theorem r_2_5 {h : hp} (S : Sh h) : hR h 2 5 = some 30 := S.2 2 5 (by decide) (by decide) (by decide)
theorem r_2_6 {h : hp} (S : Sh h) : hR h 2 6 = some 33 := S.2 2 6 (by decide) (by decide) (by decide)
theorem r_2_7 {h : hp} (S : Sh h) : hR h 2 7 = some 35 := S.2 2 7 (by decide) (by decide) (by decide)
theorem r_2_8 {h : hp} (S : Sh h) : hR h 2 8 = some 42 := S.2 2 8 (by decide) (by decide) (by decide)
theorem r_3_0 {h : hp} (S : Sh h) : hR h 3 0 = some 4 := S.2 3 0 (by decide) (by decide) (by decide)
theorem r_3_1 {h : hp} (S : Sh h) : hR h 3 1 = some 5 := S.2 3 1 (by decide) (by decide) (by decide)
theorem r_3_2 {h : hp} (S : Sh h) : hR h 3 2 = some 6 := S.2 3 2 (by decide) (by decide) (by decide)
theorem r_3_3 {h : hp} (S : Sh h) : hR h 3 3 = some 7 := S.2 3 3 (by decide) (by decide) (by decide)
theorem r_3_4 {h : hp} (S : Sh h) : hR h 3 4 = some 8 := S.2 3 4 (by decide) (by decide) (by decide)
theorem r_3_5 {h : hp} (S : Sh h) : hR h 3 5 = some 9 := S.2 3 5 (by decide) (by decide) (by decide)
theorem r_10_0 {h : hp} (S : Sh h) : hR h 10 0 = some 11 := S.2 10 0 (by decide) (by decide) (by decide)
theorem r_10_1 {h : hp} (S : Sh h) : hR h 10 1 = some 12 := S.2 10 1 (by decide) (by decide) (by decide)
theorem r_10_2 {h : hp} (S : Sh h) : hR h 10 2 = some 13 := S.2 10 2 (by decide) (by decide) (by decide)
theorem r_10_3 {h : hp} (S : Sh h) : hR h 10 3 = some 14 := S.2 10 3 (by decide) (by decide) (by decide)
theorem r_10_4 {h : hp} (S : Sh h) : hR h 10 4 = some 15 := S.2 10 4 (by decide) (by decide) (by decide)
theorem r_10_5 {h : hp} (S : Sh h) : hR h 10 5 = some 16 := S.2 10 5 (by decide) (by decide) (by decide)
theorem r_17_0 {h : hp} (S : Sh h) : hR h 17 0 = some 18 := S.2 17 0 (by decide) (by decide) (by decide)
theorem r_17_1 {h : hp} (S : Sh h) : hR h 17 1 = some 19 := S.2 17 1 (by decide) (by decide) (by decide)
theorem r_17_2 {h : hp} (S : Sh h) : hR h 17 2 = some 20 := S.2 17 2 (by decide) (by decide) (by decide)
theorem r_21_0 {h : hp} (S : Sh h) : hR h 21 0 = some 3 := S.2 21 0 (by decide) (by decide) (by decide)
theorem r_21_1 {h : hp} (S : Sh h) : hR h 21 1 = some 10 := S.2 21 1 (by decide) (by decide) (by decide)
theorem r_21_2 {h : hp} (S : Sh h) : hR h 21 2 = some 22 := S.2 21 2 (by decide) (by decide) (by decide)
theorem r_21_3 {h : hp} (S : Sh h) : hR h 21 3 = some 23 := S.2 21 3 (by decide) (by decide) (by decide)
theorem r_21_4 {h : hp} (S : Sh h) : hR h 21 4 = some 24 := S.2 21 4 (by decide) (by decide) (by decide)
theorem r_21_5 {h : hp} (S : Sh h) : hR h 21 5 = some 25 := S.2 21 5 (by decide) (by decide) (by decide)
theorem r_27_0 {h : hp} (S : Sh h) : hR h 27 0 = some 28 := S.2 27 0 (by decide) (by decide) (by decide)
theorem r_27_1 {h : hp} (S : Sh h) : hR h 27 1 = some 29 := S.2 27 1 (by decide) (by decide) (by decide)
theorem r_30_0 {h : hp} (S : Sh h) : hR h 30 0 = some 31 := S.2 30 0 (by decide) (by decide) (by decide)
theorem r_30_1 {h : hp} (S : Sh h) : hR h 30 1 = some 32 := S.2 30 1 (by decide) (by decide) (by decide)
theorem r_33_0 {h : hp} (S : Sh h) : hR h 33 0 = some 34 := S.2 33 0 (by decide) (by decide) (by decide)
theorem r_35_0 {h : hp} (S : Sh h) : hR h 35 0 = some 33 := S.2 35 0 (by decide) (by decide) (by decide)
theorem r_35_1 {h : hp} (S : Sh h) : hR h 35 1 = some 36 := S.2 35 1 (by decide) (by decide) (by decide)
theorem r_35_2 {h : hp} (S : Sh h) : hR h 35 2 = some 37 := S.2 35 2 (by decide) (by decide) (by decide)
theorem r_35_3 {h : hp} (S : Sh h) : hR h 35 3 = some 38 := S.2 35 3 (by decide) (by decide) (by decide)
theorem r_35_4 {h : hp} (S : Sh h) : hR h 35 4 = some 39 := S.2 35 4 (by decide) (by decide) (by decide)
theorem r_35_5 {h : hp} (S : Sh h) : hR h 35 5 = some 40 := S.2 35 5 (by decide) (by decide) (by decide)
theorem r_35_6 {h : hp} (S : Sh h) : hR h 35 6 = some 41 := S.2 35 6 (by decide) (by decide) (by decide)
theorem r_42_0 {h : hp} (S : Sh h) : hR h 42 0 = some 35 := S.2 42 0 (by decide) (by decide) (by decide)
theorem r_42_1 {h : hp} (S : Sh h) : hR h 42 1 = some 43 := S.2 42 1 (by decide) (by decide) (by decide)
theorem r_42_2 {h : hp} (S : Sh h) : hR h 42 2 = some 44 := S.2 42 2 (by decide) (by decide) (by decide)
theorem r_42_3 {h : hp} (S : Sh h) : hR h 42 3 = some 45 := S.2 42 3 (by decide) (by decide) (by decide)
theorem r_42_4 {h : hp} (S : Sh h) : hR h 42 4 = some 46 := S.2 42 4 (by decide) (by decide) (by decide)
theorem r_47_2 {h : hp} (S : Sh h) : hR h 47 2 = some 48 := S.2 47 2 (by decide) (by decide) (by decide)
theorem r_47_3 {h : hp} (S : Sh h) : hR h 47 3 = some 49 := S.2 47 3 (by decide) (by decide) (by decide)
theorem r_47_4 {h : hp} (S : Sh h) : hR h 47 4 = some 50 := S.2 47 4 (by decide) (by decide) (by decide)
theorem r_47_5 {h : hp} (S : Sh h) : hR h 47 5 = some 53 := S.2 47 5 (by decide) (by decide) (by decide)
theorem r_47_6 {h : hp} (S : Sh h) : hR h 47 6 = some 56 := S.2 47 6 (by decide) (by decide) (by decide)
theorem r_47_7 {h : hp} (S : Sh h) : hR h 47 7 = some 59 := S.2 47 7 (by decide) (by decide) (by decide)
theorem r_47_8 {h : hp} (S : Sh h) : hR h 47 8 = some 62 := S.2 47 8 (by decide) (by decide) (by decide)
theorem r_47_9 {h : hp} (S : Sh h) : hR h 47 9 = some 65 := S.2 47 9 (by decide) (by decide) (by decide)
theorem r_47_12 {h : hp} (S : Sh h) : hR h 47 12 = some 68 := S.2 47 12 (by decide) (by decide) (by decide)
theorem r_47_13 {h : hp} (S : Sh h) : hR h 47 13 = some 69 := S.2 47 13 (by decide) (by decide) (by decide)
theorem r_47_14 {h : hp} (S : Sh h) : hR h 47 14 = some 70 := S.2 47 14 (by decide) (by decide) (by decide)
theorem r_47_15 {h : hp} (S : Sh h) : hR h 47 15 = some 1071 := S.2 47 15 (by decide) (by decide) (by decide)
theorem r_47_16 {h : hp} (S : Sh h) : hR h 47 16 = some 1072 := S.2 47 16 (by decide) (by decide) (by decide)
theorem r_47_19 {h : hp} (S : Sh h) : hR h 47 19 = some 1073 := S.2 47 19 (by decide) (by decide) (by decide)
theorem r_47_24 {h : hp} (S : Sh h) : hR h 47 24 = some 1074 := S.2 47 24 (by decide) (by decide) (by decide)
theorem r_47_30 {h : hp} (S : Sh h) : hR h 47 30 = some 1075 := S.2 47 30 (by decide) (by decide) (by decide)
theorem r_47_31 {h : hp} (S : Sh h) : hR h 47 31 = some 1076 := S.2 47 31 (by decide) (by decide) (by decide)
theorem r_47_32 {h : hp} (S : Sh h) : hR h 47 32 = some 1077 := S.2 47 32 (by decide) (by decide) (by decide)
theorem r_47_33 {h : hp} (S : Sh h) : hR h 47 33 = some 1078 := S.2 47 33 (by decide) (by decide) (by decide)
theorem r_47_34 {h : hp} (S : Sh h) : hR h 47 34 = some 1079 := S.2 47 34 (by decide) (by decide) (by decide)
theorem r_47_35 {h : hp} (S : Sh h) : hR h 47 35 = some 1200 := S.2 47 35 (by decide) (by decide) (by decide)
theorem r_47_36 {h : hp} (S : Sh h) : hR h 47 36 = some 1321 := S.2 47 36 (by decide) (by decide) (by decide)
theorem r_47_37 {h : hp} (S : Sh h) : hR h 47 37 = some 1322 := S.2 47 37 (by decide) (by decide) (by decide)
theorem r_47_38 {h : hp} (S : Sh h) : hR h 47 38 = some 1323 := S.2 47 38 (by decide) (by decide) (by decide)
theorem r_47_39 {h : hp} (S : Sh h) : hR h 47 39 = some 1324 := S.2 47 39 (by decide) (by decide) (by decide)
theorem r_47_40 {h : hp} (S : Sh h) : hR h 47 40 = some 1325 := S.2 47 40 (by decide) (by decide) (by decide)
theorem r_47_41 {h : hp} (S : Sh h) : hR h 47 41 = some 1326 := S.2 47 41 (by decide) (by decide) (by decide)
theorem r_50_0 {h : hp} (S : Sh h) : hR h 50 0 = some 51 := S.2 50 0 (by decide) (by decide) (by decide)
theorem r_50_1 {h : hp} (S : Sh h) : hR h 50 1 = some 52 := S.2 50 1 (by decide) (by decide) (by decide)
theorem r_53_0 {h : hp} (S : Sh h) : hR h 53 0 = some 54 := S.2 53 0 (by decide) (by decide) (by decide)
theorem r_53_1 {h : hp} (S : Sh h) : hR h 53 1 = some 55 := S.2 53 1 (by decide) (by decide) (by decide)
theorem r_56_0 {h : hp} (S : Sh h) : hR h 56 0 = some 57 := S.2 56 0 (by decide) (by decide) (by decide)
theorem r_56_1 {h : hp} (S : Sh h) : hR h 56 1 = some 58 := S.2 56 1 (by decide) (by decide) (by decide)
theorem r_59_0 {h : hp} (S : Sh h) : hR h 59 0 = some 60 := S.2 59 0 (by decide) (by decide) (by decide)
theorem r_59_1 {h : hp} (S : Sh h) : hR h 59 1 = some 61 := S.2 59 1 (by decide) (by decide) (by decide)
theorem r_62_0 {h : hp} (S : Sh h) : hR h 62 0 = some 63 := S.2 62 0 (by decide) (by decide) (by decide)
theorem r_62_1 {h : hp} (S : Sh h) : hR h 62 1 = some 64 := S.2 62 1 (by decide) (by decide) (by decide)
theorem r_65_0 {h : hp} (S : Sh h) : hR h 65 0 = some 66 := S.2 65 0 (by decide) (by decide) (by decide)
theorem r_65_1 {h : hp} (S : Sh h) : hR h 65 1 = some 67 := S.2 65 1 (by decide) (by decide) (by decide)
theorem kT {h : hp} (S : Sh h) {x : Nat} (hx : x < 1000) : hK h (71 + x) = (2, 64) := by
  rw [S.1 (71 + x) (by omega) (by omega)]
  unfold K1
  rw [if_neg (by omega), if_pos (by omega)]
theorem rT {h : hp} (S : Sh h) {x : Nat} (hx : x < 1000) : hR h 70 x = some (71 + x) := by
  rw [S.2 70 x (by omega) (by omega) (by omega)]
  show (if x < 1000 then some (71 + x) else none) = _
  rw [if_pos hx]
theorem kAnd {h : hp} (S : Sh h) {x : Nat} (hx : x < 120) : hK h (1080 + x) = (1, 3) := by
  rw [S.1 (1080 + x) (by omega) (by omega)]
  unfold K1
  rw [if_neg (by omega), if_neg (by omega), if_neg (by omega), if_pos (by omega)]
theorem rAnd {h : hp} (S : Sh h) {x : Nat} (hx : x < 120) : hR h 1079 x = some (1080 + x) := by
  rw [S.2 1079 x (by omega) (by omega) (by omega)]
  show (if x < 120 then some (1080 + x) else none) = _
  rw [if_pos hx]
theorem kAt {h : hp} (S : Sh h) {x : Nat} (hx : x < 120) : hK h (1201 + x) = (1, 3) := by
  rw [S.1 (1201 + x) (by omega) (by omega)]
  unfold K1
  rw [if_neg (by omega), if_neg (by omega), if_neg (by omega), if_neg (by omega), if_neg (by omega), if_pos (by omega)]
theorem rAt {h : hp} (S : Sh h) {x : Nat} (hx : x < 120) : hR h 1200 x = some (1201 + x) := by
  rw [S.2 1200 x (by omega) (by omega) (by omega)]
  show (if x < 120 then some (1201 + x) else none) = _
  rw [if_pos hx]
/-! whole rows -/
def rI (h : hp) (a : Nat) (f : Nat → Int32) : hp := (u1 h.1 a f, h.2)
def rJ (h : hp) (a : Nat) (f : Nat → Int64) : hp := (h.1, u1 h.2.1 a f, h.2.2)
theorem u1_u1 {α : Type} (f : Nat → α) (k : Nat) (v u : α) : u1 (u1 f k v) k u = u1 f k u := by
  funext j
  unfold u1
  split <;> rfl
theorem u1_self {α : Type} (f : Nat → α) (k : Nat) : u1 f k (f k) = f := by
  funext j
  unfold u1
  split
  · next e => rw [e]
  · rfl
theorem rI_self (h : hp) (a : Nat) : rI h a (hI h a) = h := by
  unfold rI
  rw [u1_self]
theorem rJ_self (h : hp) (a : Nat) : rJ h a (hJ h a) = h := by
  unfold rJ
  rw [u1_self]
theorem sI_rI (h : hp) (a i : Nat) (f : Nat → Int32) (v : Int32) : sI (rI h a f) a i v = rI h a (u1 f i v) := by
  unfold sI rI u2
  dsimp only
  rw [u1_s, u1_u1]
theorem sJ_rJ (h : hp) (a i : Nat) (f : Nat → Int64) (v : Int64) : sJ (rJ h a f) a i v = rJ h a (u1 f i v) := by
  unfold sJ rJ u2
  dsimp only
  rw [u1_s, u1_u1]
theorem sI_eq (h : hp) (a i : Nat) (v : Int32) : sI h a i v = rI h a (u1 (hI h a) i v) := rfl
theorem sJ_eq (h : hp) (a i : Nat) (v : Int64) : sJ h a i v = rJ h a (u1 (hJ h a) i v) := rfl
