def oN : Nat → String := fun o => match o with
  | 0 => RX0
  | 1 => RX1
  | 2 => RX2
  | 3 => RX3
  | 4 => RX4
  | 5 => RX5
  | 6 => RX6
  | 7 => RX7
  | 8 => RX8
  | 9 => RX9
  | 10 => RL
  | 11 => RJ13
  | 12 => RJ9
  | _ => RJ7
def clE (ci : Nat) : vw_C := [(RX0, TX0, 18), (RX1, TX1, 6), (RX2, TX2, 9), (RX3, TX3, 13), (RX4, TX4, 3), (RX5, TX5, 6), (RX6, TX6, 2), (RX7, TX7, 5), (RX8, TX8, 13), (RX9, TX9, 42)].getD ci (RX9, TX9, 42)
abbrev vwCl : List vw_C := [(RX0, TX0, 18), (RX1, TX1, 6), (RX2, TX2, 9), (RX3, TX3, 13), (RX4, TX4, 3), (RX5, TX5, 6), (RX6, TX6, 2), (RX7, TX7, 5), (RX8, TX8, 13), (RX9, TX9, 42)]
abbrev clR (ci : Nat) : String := (clE ci).1
abbrev clT (ci : Nat) : u_T := (clE ci).2.1
abbrev clN (ci : Nat) : Nat := (clE ci).2.2
def fT : Nat → Nat → FieldType := fun ci => match ci with
  | 0 => tyX0
  | 1 => tyX1
  | 2 => tyX2
  | 3 => tyX3
  | 4 => tyX4
  | 5 => tyX5
  | 6 => tyX6
  | 7 => tyX7
  | 8 => tyX8
  | _ => tyX9
/-- a method: its name, bytes, locals, answer, class; the places of its words: code, initialized, instance or static, selects -/
abbrev mRow : Type := MethodName × ByteArray × Nat × Option FieldType × Nat × Nat × Nat × Nat × Nat
def mLaw : mRow := (yL_law, cL_law, 4, some .boolean, 10, 0, 0, 0, 0)
def mR1 : List mRow := [
  (yX0_init, cX0_init, 2, none, 0, 300, 87, 299, 0),
  (yX0_parse, cX0_parse, 2, none, 0, 510, 87, 508, 509),
  (yX0_fail, cX0_fail, 3, none, 0, 537, 87, 535, 536),
  (yX0_andOf, cX0_andOf, 3, some Jvm.ClassFile.FieldType.int, 0, 607, 87, 605, 606),
  (yX0_sideOf, cX0_sideOf, 3, some Jvm.ClassFile.FieldType.int, 0, 599, 87, 597, 598),
  (yX0_startAnew, cX0_startAnew, 2, none, 0, 514, 87, 513, 3),
  (yX0_parseHead, cX0_parseHead, 2, none, 0, 521, 87, 520, 4),
  (yX0_parseHeadNumber, cX0_parseHeadNumber, 2, none, 0, 541, 87, 540, 7),
  (yX0_askHeadNumbers, cX0_askHeadNumbers, 2, none, 0, 554, 87, 553, 9),
  (yX0_isBadHeadNumber, cX0_isBadHeadNumber, 2, some Jvm.ClassFile.FieldType.boolean, 0, 558, 87, 557, 10),
  (yX0_hasTooFewVariables, cX0_hasTooFewVariables, 1, some Jvm.ClassFile.FieldType.boolean, 0, 562, 87, 561, 11),
  (yX0_parseInputLines, cX0_parseInputLines, 2, none, 0, 566, 87, 565, 12),
  (yX0_parseOutLines, cX0_parseOutLines, 2, none, 0, 574, 87, 573, 14),
  (yX0_parseAndLines, cX0_parseAndLines, 2, none, 0, 582, 87, 581, 16),
  (yX0_parseDefinition, cX0_parseDefinition, 4, none, 0, 570, 87, 569, 13),
  (yX0_parseUse, cX0_parseUse, 2, none, 0, 578, 87, 577, 15)]
def mR2 : List mRow := [
  (yX0_parseNumber, cX0_parseNumber, 4, some Jvm.ClassFile.FieldType.int, 0, 545, 87, 544, 8),
  (yX0_expect, cX0_expect, 2, none, 0, 525, 87, 524, 5),
  (yX0_failIf, cX0_failIf, 4, none, 0, 533, 87, 532, 6),
  (yX0_findNotDefined, cX0_findNotDefined, 3, none, 0, 586, 87, 585, 17),
  (yX1_init, cX1_init, 2, none, 1, 371, 88, 370, 0),
  (yX1_arrange, cX1_arrange, 3, none, 1, 590, 88, 588, 589),
  (yX1_fill, cX1_fill, 6, none, 1, 628, 88, 626, 627),
  (yX1_signalOf, cX1_signalOf, 5, some Jvm.ClassFile.FieldType.int, 1, 633, 88, 632, 24),
  (yX1_firstReady, cX1_firstReady, 2, some Jvm.ClassFile.FieldType.int, 1, 595, 88, 594, 18),
  (yX1_isThere, cX1_isThere, 3, some Jvm.ClassFile.FieldType.boolean, 1, 603, 88, 602, 19),
  (yX1_failAtFirstLoop, cX1_failAtFirstLoop, 2, none, 1, 611, 88, 610, 20),
  (yX1_needsItself, cX1_needsItself, 3, some Jvm.ClassFile.FieldType.boolean, 1, 615, 88, 614, 21),
  (yX1_reachSides, cX1_reachSides, 2, none, 1, 619, 88, 618, 22),
  (yX1_reach, cX1_reach, 2, none, 1, 623, 88, 622, 23),
  (yX2_init, cX2_init, 2, none, 2, 105, 81, 104, 0),
  (yX2_reset, cX2_reset, 2, none, 2, 439, 81, 437, 438)]
def mR3 : List mRow := [
  (yX2_hasSignal, cX2_hasSignal, 2, some Jvm.ClassFile.FieldType.boolean, 2, 470, 81, 468, 469),
  (yX2_canTake, cX2_canTake, 6, some Jvm.ClassFile.FieldType.boolean, 2, 466, 81, 464, 465),
  (yX2_addGate, cX2_addGate, 5, some Jvm.ClassFile.FieldType.int, 2, 477, 81, 475, 476),
  (yX2_addOut, cX2_addOut, 2, some Jvm.ClassFile.FieldType.int, 2, 486, 81, 484, 485),
  (yX2_literalOf, cX2_literalOf, 2, some Jvm.ClassFile.FieldType.int, 2, 677, 81, 675, 676),
  (yX2_plain, cX2_plain, 1, some Jvm.ClassFile.FieldType.int, 2, 473, 81, 472, 0),
  (yX3_init, cX3_init, 3, none, 3, 180, 83, 179, 0),
  (yX3_bringUp, cX3_bringUp, 2, none, 3, 650, 83, 648, 649),
  (yX3_isAnd, cX3_isAnd, 2, some Jvm.ClassFile.FieldType.boolean, 3, 761, 83, 759, 760),
  (yX3_bitOf, cX3_bitOf, 3, some Jvm.ClassFile.FieldType.int, 3, 712, 83, 710, 711),
  (yX3_firstWordApart, cX3_firstWordApart, 6, some Jvm.ClassFile.FieldType.int, 3, 786, 83, 784, 785),
  (yX3_likeness, cX3_likeness, 12, some Jvm.ClassFile.FieldType.int, 3, 753, 83, 751, 752),
  (yX3_restart, cX3_restart, 3, none, 3, 654, 83, 653, 26),
  (yX3_makeFalse, cX3_makeFalse, 2, none, 3, 658, 83, 657, 27),
  (yX3_makeInput, cX3_makeInput, 4, none, 3, 666, 83, 665, 29),
  (yX3_makeGate, cX3_makeGate, 6, none, 3, 673, 83, 672, 30)]
def mR4 : List mRow := [
  (yX3_makeKind, cX3_makeKind, 5, some Jvm.ClassFile.FieldType.int, 3, 681, 83, 680, 31),
  (yX3_makeChoice, cX3_makeChoice, 6, some Jvm.ClassFile.FieldType.int, 3, 703, 83, 702, 35),
  (yX3_makeMajority, cX3_makeMajority, 7, some Jvm.ClassFile.FieldType.int, 3, 707, 83, 706, 36),
  (yX3_makeAnd, cX3_makeAnd, 7, some Jvm.ClassFile.FieldType.int, 3, 685, 83, 684, 32),
  (yX3_addAnd, cX3_addAnd, 5, some Jvm.ClassFile.FieldType.int, 3, 695, 83, 694, 33),
  (yX3_addNode, cX3_addNode, 4, none, 3, 662, 83, 661, 28),
  (yX3_wordOf, cX3_wordOf, 5, some Jvm.ClassFile.FieldType.long, 3, 699, 83, 698, 34),
  (yX4_init, cX4_init, 1, none, 4, 235, 84, 234, 0),
  (yX4_find, cX4_find, 4, none, 4, 745, 84, 743, 744),
  (yX4_leaderOf, cX4_leaderOf, 5, some Jvm.ClassFile.FieldType.int, 4, 749, 84, 748, 38),
  (yX5_init, cX5_init, 1, none, 5, 253, 85, 252, 0),
  (yX5_run, cX5_run, 4, none, 5, 773, 85, 771, 772),
  (yX5_representativeOf, cX5_representativeOf, 6, some Jvm.ClassFile.FieldType.int, 5, 777, 85, 776, 39),
  (yX5_askCandidate, cX5_askCandidate, 9, some Jvm.ClassFile.FieldType.int, 5, 781, 85, 780, 40),
  (yX5_findNeeded, cX5_findNeeded, 5, none, 5, 797, 85, 795, 796),
  (yX5_markOuts, cX5_markOuts, 3, none, 5, 801, 85, 800, 41)]
def mR5 : List mRow := [
  (yX5_mark, cX5_mark, 2, none, 5, 806, 85, 805, 42),
  (yX6_init, cX6_init, 1, none, 6, 284, 86, 283, 0),
  (yX6_append, cX6_append, 3, none, 6, 498, 86, 496, 497),
  (yX6_byteAt, cX6_byteAt, 2, some Jvm.ClassFile.FieldType.int, 6, 529, 86, 527, 528),
  (yX6_hasDigitAt, cX6_hasDigitAt, 3, some Jvm.ClassFile.FieldType.boolean, 6, 549, 86, 547, 548),
  (yX7_init, cX7_init, 1, none, 7, 152, 82, 151, 0),
  (yX7_empty, cX7_empty, 1, none, 7, 443, 82, 441, 442),
  (yX7_has, cX7_has, 2, some Jvm.ClassFile.FieldType.boolean, 7, 720, 82, 718, 719),
  (yX7_add, cX7_add, 3, none, 7, 724, 82, 722, 723),
  (yX8_init, cX8_init, 1, none, 8, 97, 80, 96, 0),
  (yX8_inputs, cX8_inputs, 2, some Jvm.ClassFile.FieldType.boolean, 8, 435, 80, 433, 434),
  (yX8_gate, cX8_gate, 8, some Jvm.ClassFile.FieldType.int, 8, 458, 80, 456, 457),
  (yX8_output, cX8_output, 5, some Jvm.ClassFile.FieldType.int, 8, 481, 80, 479, 480),
  (yX8_clear, cX8_clear, 4, some Jvm.ClassFile.FieldType.int, 8, 490, 80, 488, 489),
  (yX8_feed, cX8_feed, 6, some Jvm.ClassFile.FieldType.int, 8, 494, 80, 492, 493),
  (yX8_end, cX8_end, 2, some Jvm.ClassFile.FieldType.int, 8, 502, 80, 500, 501)]
def mR6 : List mRow := [
  (yX8_read, cX8_read, 3, some Jvm.ClassFile.FieldType.int, 8, 506, 80, 504, 505),
  (yX8_place, cX8_place, 1, some Jvm.ClassFile.FieldType.int, 8, 638, 80, 636, 637),
  (yX8_value, cX8_value, 5, some Jvm.ClassFile.FieldType.int, 8, 642, 80, 640, 641),
  (yX8_vector, cX8_vector, 2, some Jvm.ClassFile.FieldType.int, 8, 716, 80, 714, 715),
  (yX8_forget, cX8_forget, 2, some Jvm.ClassFile.FieldType.int, 8, 729, 80, 727, 728),
  (yX8_given, cX8_given, 2, some Jvm.ClassFile.FieldType.int, 8, 733, 80, 731, 732),
  (yX8_count, cX8_count, 2, some Jvm.ClassFile.FieldType.int, 8, 737, 80, 735, 736),
  (yX8_node, cX8_node, 3, some Jvm.ClassFile.FieldType.int, 8, 757, 80, 755, 756),
  (yX8_literal, cX8_literal, 4, some Jvm.ClassFile.FieldType.int, 8, 765, 80, 763, 764),
  (yX8_sweep, cX8_sweep, 1, some Jvm.ClassFile.FieldType.int, 8, 769, 80, 767, 768),
  (yX8_swept, cX8_swept, 2, some Jvm.ClassFile.FieldType.int, 8, 810, 80, 808, 809),
  (yX8_told, cX8_told, 2, some Jvm.ClassFile.FieldType.int, 8, 814, 80, 812, 813),
  (yX8_same, cX8_same, 2, some Jvm.ClassFile.FieldType.int, 8, 818, 80, 816, 817),
  (yX8_differs, cX8_differs, 2, some Jvm.ClassFile.FieldType.int, 8, 831, 80, 829, 830),
  (yX8_verdict, cX8_verdict, 2, some Jvm.ClassFile.FieldType.int, 8, 835, 80, 833, 834),
  (yX8_circuitAt, cX8_circuitAt, 2, some (Jvm.ClassFile.FieldType.object "SweepBench$Circuit"), 8, 462, 80, 461, 2)]
def mR7 : List mRow := [
  (yX8_isInputWord, cX8_isInputWord, 2, some Jvm.ClassFile.FieldType.boolean, 8, 646, 80, 645, 25),
  (yX8_noteMoreOfACircuit, cX8_noteMoreOfACircuit, 1, none, 8, 454, 80, 453, 1),
  (yX8_noteNewCircuit, cX8_noteNewCircuit, 1, none, 8, 450, 80, 449, 0),
  (yX8_bringUpGroups, cX8_bringUpGroups, 1, none, 8, 741, 80, 740, 37),
  (yX8_bothHaveOut, cX8_bothHaveOut, 2, some Jvm.ClassFile.FieldType.boolean, 8, 822, 80, 821, 43),
  (yX8_firstWordApart, cX8_firstWordApart, 4, some Jvm.ClassFile.FieldType.int, 8, 826, 80, 825, 44),
  (yX9_init, cX9_init, 1, none, 9, 840, 89, 839, 0),
  (yX9_words, cX9_words, 1, some Jvm.ClassFile.FieldType.int, 9, 1092, 89, 1091, 63),
  (yX9_isCircuit, cX9_isCircuit, 1, some Jvm.ClassFile.FieldType.boolean, 9, 994, 89, 993, 0),
  (yX9_changed, cX9_changed, 1, none, 9, 983, 89, 982, 46),
  (yX9_empty, cX9_empty, 2, none, 9, 979, 89, 978, 45),
  (yX9_inputs, cX9_inputs, 2, some Jvm.ClassFile.FieldType.boolean, 9, 975, 89, 973, 974),
  (yX9_has, cX9_has, 4, some Jvm.ClassFile.FieldType.boolean, 9, 998, 89, 997, 47),
  (yX9_gate, cX9_gate, 8, some Jvm.ClassFile.FieldType.int, 9, 991, 89, 989, 990),
  (yX9_output, cX9_output, 3, some Jvm.ClassFile.FieldType.int, 9, 1002, 89, 1000, 1001),
  (yX9_clear, cX9_clear, 3, some Jvm.ClassFile.FieldType.int, 9, 1006, 89, 1004, 1005)]
def mR8 : List mRow := [
  (yX9_feed, cX9_feed, 6, some Jvm.ClassFile.FieldType.int, 9, 1010, 89, 1008, 1009),
  (yX9_put, cX9_put, 3, none, 9, 1014, 89, 1013, 48),
  (yX9_end, cX9_end, 2, some Jvm.ClassFile.FieldType.int, 9, 1018, 89, 1016, 1017),
  (yX9_fails, cX9_fails, 3, some Jvm.ClassFile.FieldType.boolean, 9, 1034, 89, 1033, 51),
  (yX9_is, cX9_is, 2, some Jvm.ClassFile.FieldType.boolean, 9, 1030, 89, 1029, 50),
  (yX9_number, cX9_number, 2, some Jvm.ClassFile.FieldType.boolean, 9, 1038, 89, 1037, 52),
  (yX9_firstLine, cX9_firstLine, 4, some Jvm.ClassFile.FieldType.boolean, 9, 1026, 89, 1025, 49),
  (yX9_defines, cX9_defines, 4, some Jvm.ClassFile.FieldType.boolean, 9, 1046, 89, 1045, 54),
  (yX9_uses, cX9_uses, 2, some Jvm.ClassFile.FieldType.boolean, 9, 1050, 89, 1049, 55),
  (yX9_lines, cX9_lines, 3, some Jvm.ClassFile.FieldType.boolean, 9, 1042, 89, 1041, 53),
  (yX9_at0, cX9_at0, 2, some Jvm.ClassFile.FieldType.int, 9, 1054, 89, 1053, 56),
  (yX9_isDefined, cX9_isDefined, 2, some Jvm.ClassFile.FieldType.boolean, 9, 1062, 89, 1061, 58),
  (yX9_allDefined, cX9_allDefined, 3, some Jvm.ClassFile.FieldType.boolean, 9, 1058, 89, 1057, 57),
  (yX9_needsItself, cX9_needsItself, 4, some Jvm.ClassFile.FieldType.boolean, 9, 1066, 89, 1065, 59),
  (yX9_mark, cX9_mark, 5, some Jvm.ClassFile.FieldType.boolean, 9, 1070, 89, 1069, 60),
  (yX9_signalOf, cX9_signalOf, 3, some Jvm.ClassFile.FieldType.int, 9, 1079, 89, 1078, 62)]
def mR9 : List mRow := [
  (yX9_becomes, cX9_becomes, 6, none, 9, 1074, 89, 1073, 61),
  (yX9_read, cX9_read, 4, some Jvm.ClassFile.FieldType.int, 9, 1022, 89, 1020, 1021),
  (yX9_place, cX9_place, 1, some Jvm.ClassFile.FieldType.int, 9, 1084, 89, 1082, 1083),
  (yX9_newNode, cX9_newNode, 3, some Jvm.ClassFile.FieldType.int, 9, 1100, 89, 1099, 65),
  (yX9_bits, cX9_bits, 5, some Jvm.ClassFile.FieldType.long, 9, 1116, 89, 1115, 69),
  (yX9_and, cX9_and, 7, some Jvm.ClassFile.FieldType.int, 9, 1112, 89, 1111, 68),
  (yX9_side, cX9_side, 5, some Jvm.ClassFile.FieldType.int, 9, 1108, 89, 1107, 67),
  (yX9_gateOf, cX9_gateOf, 9, some Jvm.ClassFile.FieldType.int, 9, 1104, 89, 1103, 66),
  (yX9_graph, cX9_graph, 3, none, 9, 1096, 89, 1095, 64),
  (yX9_bit, cX9_bit, 3, some Jvm.ClassFile.FieldType.boolean, 9, 1121, 89, 1120, 70),
  (yX9_unlike, cX9_unlike, 4, some Jvm.ClassFile.FieldType.int, 9, 1170, 89, 1169, 76),
  (yX9_value, cX9_value, 4, some Jvm.ClassFile.FieldType.int, 9, 1088, 89, 1086, 1087),
  (yX9_isGiven, cX9_isGiven, 2, some Jvm.ClassFile.FieldType.boolean, 9, 1129, 89, 1128, 71),
  (yX9_give, cX9_give, 2, none, 9, 1133, 89, 1132, 72),
  (yX9_vector, cX9_vector, 2, some Jvm.ClassFile.FieldType.int, 9, 1125, 89, 1123, 1124),
  (yX9_forget, cX9_forget, 3, some Jvm.ClassFile.FieldType.int, 9, 987, 89, 985, 986)]
def mR10 : List mRow := [
  (yX9_given, cX9_given, 2, some Jvm.ClassFile.FieldType.int, 9, 1138, 89, 1136, 1137),
  (yX9_like, cX9_like, 8, some Jvm.ClassFile.FieldType.int, 9, 1150, 89, 1149, 74),
  (yX9_leastLike, cX9_leastLike, 3, some Jvm.ClassFile.FieldType.int, 9, 1146, 89, 1145, 73),
  (yX9_count, cX9_count, 4, some Jvm.ClassFile.FieldType.int, 9, 1142, 89, 1140, 1141),
  (yX9_node, cX9_node, 3, some Jvm.ClassFile.FieldType.int, 9, 1154, 89, 1152, 1153),
  (yX9_literal, cX9_literal, 3, some Jvm.ClassFile.FieldType.int, 9, 1158, 89, 1156, 1157),
  (yX9_candidate, cX9_candidate, 3, some Jvm.ClassFile.FieldType.int, 9, 1166, 89, 1165, 75),
  (yX9_sweep, cX9_sweep, 6, some Jvm.ClassFile.FieldType.int, 9, 1162, 89, 1160, 1161),
  (yX9_need, cX9_need, 3, none, 9, 1174, 89, 1173, 77),
  (yX9_swept, cX9_swept, 2, some Jvm.ClassFile.FieldType.int, 9, 1178, 89, 1176, 1177),
  (yX9_told, cX9_told, 2, some Jvm.ClassFile.FieldType.int, 9, 1182, 89, 1180, 1181),
  (yX9_both, cX9_both, 2, some Jvm.ClassFile.FieldType.boolean, 9, 1190, 89, 1189, 78),
  (yX9_differs, cX9_differs, 2, some Jvm.ClassFile.FieldType.int, 9, 1186, 89, 1184, 1185),
  (yX9_same, cX9_same, 2, some Jvm.ClassFile.FieldType.int, 9, 1194, 89, 1192, 1193),
  (yX9_verdict, cX9_verdict, 2, some Jvm.ClassFile.FieldType.int, 9, 1199, 89, 1197, 1198),
  (yJ13_bitCount_95d88, cJ13_bitCount_95d88, 2, some Jvm.ClassFile.FieldType.int, 11, 789, 92, 788, 0)]
def mR11 : List mRow := [
  (yJ7_fill_d0a16, cJ7_fill_d0a16, 5, none, 13, 446, 90, 445, 0),
  (yJ7_fill_53178, cJ7_fill_53178, 4, none, 13, 517, 90, 516, 0)]
def mRest : List mRow := mR1 ++ (mR2 ++ (mR3 ++ (mR4 ++ (mR5 ++ (mR6 ++ (mR7 ++ (mR8 ++ (mR9 ++ (mR10 ++ (mR11))))))))))
def mtab : List mRow := mLaw :: mRest
def mE (j : Nat) : mRow := mtab.getD j mLaw
abbrev mY (j : Nat) : MethodName := (mE j).1
abbrev mC (j : Nat) : ByteArray := (mE j).2.1
abbrev mL (j : Nat) : Nat := (mE j).2.2.1
abbrev mRt (j : Nat) : Option FieldType := (mE j).2.2.2.1
abbrev mO (j : Nat) : Nat := (mE j).2.2.2.2.1
def ptab : List (List (Nat × Instr × Nat)) := [pL_law, pX0_init, pX0_parse, pX0_fail, pX0_andOf, pX0_sideOf, pX0_startAnew, pX0_parseHead, pX0_parseHeadNumber, pX0_askHeadNumbers, pX0_isBadHeadNumber, pX0_hasTooFewVariables, pX0_parseInputLines, pX0_parseOutLines, pX0_parseAndLines, pX0_parseDefinition, pX0_parseUse, pX0_parseNumber, pX0_expect, pX0_failIf, pX0_findNotDefined, pX1_init, pX1_arrange, pX1_fill, pX1_signalOf, pX1_firstReady, pX1_isThere, pX1_failAtFirstLoop, pX1_needsItself, pX1_reachSides, pX1_reach, pX2_init, pX2_reset, pX2_hasSignal, pX2_canTake, pX2_addGate, pX2_addOut, pX2_literalOf, pX2_plain, pX3_init, pX3_bringUp, pX3_isAnd, pX3_bitOf, pX3_firstWordApart, pX3_likeness, pX3_restart, pX3_makeFalse, pX3_makeInput, pX3_makeGate, pX3_makeKind, pX3_makeChoice, pX3_makeMajority, pX3_makeAnd, pX3_addAnd, pX3_addNode, pX3_wordOf, pX4_init, pX4_find, pX4_leaderOf, pX5_init, pX5_run, pX5_representativeOf, pX5_askCandidate, pX5_findNeeded, pX5_markOuts, pX5_mark, pX6_init, pX6_append, pX6_byteAt, pX6_hasDigitAt, pX7_init, pX7_empty, pX7_has, pX7_add, pX8_init, pX8_inputs, pX8_gate, pX8_output, pX8_clear, pX8_feed, pX8_end, pX8_read, pX8_place, pX8_value, pX8_vector, pX8_forget, pX8_given, pX8_count, pX8_node, pX8_literal, pX8_sweep, pX8_swept, pX8_told, pX8_same, pX8_differs, pX8_verdict, pX8_circuitAt, pX8_isInputWord, pX8_noteMoreOfACircuit, pX8_noteNewCircuit, pX8_bringUpGroups, pX8_bothHaveOut, pX8_firstWordApart, pX9_init, pX9_words, pX9_isCircuit, pX9_changed, pX9_empty, pX9_inputs, pX9_has, pX9_gate, pX9_output, pX9_clear, pX9_feed, pX9_put, pX9_end, pX9_fails, pX9_is, pX9_number, pX9_firstLine, pX9_defines, pX9_uses, pX9_lines, pX9_at0, pX9_isDefined, pX9_allDefined, pX9_needsItself, pX9_mark, pX9_signalOf, pX9_becomes, pX9_read, pX9_place, pX9_newNode, pX9_bits, pX9_and, pX9_side, pX9_gateOf, pX9_graph, pX9_bit, pX9_unlike, pX9_value, pX9_isGiven, pX9_give, pX9_vector, pX9_forget, pX9_given, pX9_like, pX9_leastLike, pX9_count, pX9_node, pX9_literal, pX9_candidate, pX9_sweep, pX9_need, pX9_swept, pX9_told, pX9_both, pX9_differs, pX9_same, pX9_verdict, pJ13_bitCount_95d88, pJ7_fill_d0a16, pJ7_fill_53178]
def pt (j : Nat) : List (Nat × Instr × Nat) := ptab.getD j []
def ftab : List (Nat × Nat × Nat × Nat) := [(2009, 2, 0, 107), (3121, 2, 0, 108), (2015, 2, 1, 109), (3108, 2, 1, 110), (2018, 2, 2, 111), (3115, 2, 2, 112), (2021, 2, 3, 113), (3118, 2, 3, 114), (2024, 2, 4, 115), (5080, 2, 4, 116), (8230, 2, 4, 117), (2027, 2, 5, 118), (3096, 2, 5, 119), (2030, 2, 6, 120), (3051, 2, 6, 121), (2034, 2, 7, 122), (3043, 2, 7, 123), (8125, 2, 7, 124), (2037, 2, 8, 125), (8114, 2, 8, 126), (5075, 2, 8, 127), (7009, 7, 0, 154), (8170, 7, 0, 155), (7015, 7, 1, 156), (3087, 7, 1, 157), (7019, 7, 2, 158), (3084, 7, 2, 159), (7028, 7, 3, 160), (3079, 7, 3, 161), (7032, 7, 4, 162), (8169, 7, 4, 163), (3032, 3, 0, 182), (3036, 3, 1, 183), (3009, 3, 2, 184), (5066, 3, 2, 185), (8189, 3, 2, 186), (3015, 3, 3, 187), (5072, 3, 3, 188), (8192, 3, 3, 189), (3018, 3, 4, 190), (3021, 3, 5, 191), (3024, 3, 6, 192), (3070, 3, 7, 193), (3062, 3, 8, 194), (5063, 3, 8, 195), (4022, 3, 9, 196), (5029, 3, 9, 197), (3063, 3, 9, 198), (8174, 3, 9, 199), (3039, 3, 10, 200), (3048, 3, 11, 201), (3028, 3, 12, 202), (8224, 3, 12, 203), (4009, 4, 0, 237), (8183, 4, 0, 238), (4015, 4, 1, 239), (4018, 4, 2, 240), (8180, 4, 2, 241), (5009, 5, 0, 255), (8206, 5, 0, 256), (5015, 5, 1, 257), (5019, 5, 2, 258), (8209, 5, 2, 259), (5023, 5, 3, 260), (8212, 5, 3, 261), (5026, 5, 4, 262), (8203, 5, 4, 263), (5060, 5, 5, 264), (8215, 5, 5, 265), (6009, 6, 0, 286), (6015, 6, 1, 287), (54, 6, 1, 288), (8128, 6, 1, 289), (30, 0, 0, 302), (9, 0, 1, 303), (15, 0, 2, 304), (18, 0, 3, 305), (1084, 0, 3, 306), (21, 0, 4, 307), (1072, 0, 4, 308), (24, 0, 5, 309), (27, 0, 6, 310), (1094, 0, 6, 311), (84, 0, 7, 312), (72, 0, 8, 313), (1081, 0, 8, 314), (1069, 0, 9, 315), (75, 0, 9, 316), (1035, 0, 10, 317), (87, 0, 10, 318), (90, 0, 11, 319), (93, 0, 12, 320), (1051, 0, 13, 321), (96, 0, 13, 322), (1041, 0, 14, 323), (66, 0, 14, 324), (8137, 0, 14, 325), (69, 0, 15, 326), (8143, 0, 15, 327), (50, 0, 16, 328), (100, 0, 17, 329), (1025, 1, 0, 373), (1009, 1, 1, 374), (1015, 1, 2, 375), (1018, 1, 3, 376), (1021, 1, 4, 377), (1101, 1, 5, 378), (8018, 8, 0, 392), (8022, 8, 1, 393), (8028, 8, 2, 394), (8037, 8, 3, 395), (8044, 8, 4, 396), (8051, 8, 5, 397), (8058, 8, 6, 398), (8067, 8, 7, 399), (8076, 8, 8, 400), (8009, 8, 9, 401), (8080, 8, 10, 402), (8083, 8, 11, 403), (8087, 8, 12, 404), (9007, 9, 1, 846), (9013, 9, 2, 847), (9017, 9, 3, 848), (9022, 9, 4, 849), (9025, 9, 5, 850), (9028, 9, 6, 851), (9031, 9, 7, 852), (9034, 9, 8, 853), (9037, 9, 9, 854), (9108, 9, 10, 855), (9202, 9, 11, 856), (9040, 9, 12, 857), (9043, 9, 13, 858), (9048, 9, 14, 859), (9051, 9, 15, 860), (9055, 9, 16, 861), (9231, 9, 17, 862), (9112, 9, 18, 863), (9058, 9, 19, 864), (9246, 9, 20, 865), (9249, 9, 21, 866), (9264, 9, 22, 867), (9258, 9, 23, 868), (9061, 9, 24, 869), (9134, 9, 25, 870), (9065, 9, 26, 871), (9143, 9, 27, 872), (9140, 9, 28, 873), (9149, 9, 29, 874), (9068, 9, 30, 875), (9071, 9, 31, 876), (9074, 9, 32, 877), (9077, 9, 33, 878), (9080, 9, 34, 879), (9083, 9, 35, 880), (9086, 9, 36, 881), (9089, 9, 37, 882), (9092, 9, 38, 883), (9096, 9, 39, 884), (9099, 9, 40, 885), (9102, 9, 41, 886)]
def ct1 : List (Nat × Nat × Nat × Nat × Nat) := [(10009, 3, 74, 0, 95), (8003, 4, 0, 0, 98), (8015, 3, 31, 1, 103), (2003, 4, 0, 0, 106), (8027, 5, 70, 0, 150), (7003, 4, 0, 0, 153), (8034, 3, 39, 2, 178), (3003, 4, 0, 0, 181), (8043, 5, 56, 0, 233), (4003, 4, 0, 0, 236), (8050, 5, 59, 0, 251), (5003, 4, 0, 0, 254), (8057, 5, 66, 0, 282), (6003, 4, 0, 0, 285), (8064, 3, 1, 1, 298), (3, 4, 0, 0, 301)]
def ct2 : List (Nat × Nat × Nat × Nat × Nat) := [(8073, 3, 21, 1, 369), (1003, 4, 0, 0, 372), (10013, 1, 75, 1, 432), (8090, 1, 32, 1, 436), (8093, 1, 71, 0, 440), (7022, 2, 161, 2, 444), (8096, 1, 99, 0, 447), (8111, 1, 98, 0, 451), (10018, 1, 76, 5, 455), (8099, 1, 96, 1, 459), (8103, 1, 34, 4, 463), (2044, 1, 33, 1, 467), (2040, 2, 38, 1, 471), (8107, 1, 35, 4, 474), (10023, 1, 77, 2, 478), (8117, 1, 33, 1, 482)]
def ct3 : List (Nat × Nat × Nat × Nat × Nat) := [(8121, 1, 36, 1, 483), (10028, 1, 78, 1, 487), (10033, 1, 79, 5, 491), (8131, 1, 67, 1, 495), (10037, 1, 80, 1, 499), (10041, 1, 81, 1, 503), (8134, 1, 2, 1, 507), (34, 1, 6, 1, 511), (78, 2, 162, 2, 515), (38, 1, 7, 0, 518), (103, 1, 18, 1, 522), (137, 1, 68, 1, 526), (130, 1, 19, 3, 530), (59, 1, 3, 2, 534), (106, 1, 8, 0, 538), (112, 1, 17, 0, 542)]
def ct4 : List (Nat × Nat × Nat × Nat × Nat) := [(134, 1, 69, 1, 546), (6019, 1, 68, 1, 550), (109, 1, 9, 0, 551), (116, 1, 10, 1, 555), (120, 1, 11, 0, 559), (41, 1, 12, 0, 563), (124, 1, 15, 1, 567), (44, 1, 13, 0, 571), (127, 1, 16, 0, 575), (47, 1, 14, 0, 579), (63, 1, 20, 0, 583), (8140, 1, 22, 0, 587), (1029, 2, 162, 2, 591), (1044, 1, 25, 0, 592), (1061, 1, 5, 2, 596), (1087, 1, 26, 1, 600)]
def ct5 : List (Nat × Nat × Nat × Nat × Nat) := [(1078, 1, 4, 1, 604), (1048, 1, 27, 0, 608), (1091, 1, 28, 1, 612), (1104, 1, 29, 1, 616), (1108, 1, 30, 1, 620), (1097, 1, 3, 2, 624), (8146, 1, 23, 1, 625), (1055, 1, 35, 4, 629), (1065, 1, 24, 1, 630), (1075, 1, 36, 1, 634), (10045, 1, 82, 0, 635), (10050, 1, 83, 3, 639), (8150, 1, 97, 1, 643), (8153, 1, 40, 0, 647), (3054, 1, 45, 1, 651), (3090, 1, 46, 0, 655)]
def ct6 : List (Nat × Nat × Nat × Nat × Nat) := [(3099, 1, 54, 2, 659), (3093, 1, 47, 1, 663), (3058, 1, 48, 2, 670), (3111, 1, 37, 1, 674), (3124, 1, 49, 4, 678), (3128, 1, 52, 2, 682), (3139, 7, 0, 0, 686), (3144, 6, 0, 0, 689), (3147, 1, 53, 2, 692), (3066, 1, 55, 2, 696), (3132, 1, 50, 3, 700), (3136, 1, 51, 3, 704), (8156, 1, 37, 1, 708), (8159, 1, 42, 2, 709), (10055, 1, 84, 1, 713), (8163, 1, 72, 1, 717)]
def ct7 : List (Nat × Nat × Nat × Nat × Nat) := [(8166, 1, 73, 1, 721), (7035, 1, 72, 1, 725), (10059, 1, 85, 0, 726), (10063, 1, 86, 1, 730), (10067, 1, 87, 1, 734), (8177, 1, 100, 0, 738), (8227, 1, 57, 2, 742), (4027, 1, 58, 3, 746), (4031, 1, 44, 3, 750), (10071, 1, 88, 2, 754), (8186, 1, 41, 1, 758), (10075, 1, 89, 2, 762), (10079, 1, 90, 0, 766), (8195, 1, 60, 2, 770), (5034, 1, 61, 3, 774), (5038, 1, 62, 4, 778)]
def ct8 : List (Nat × Nat × Nat × Nat × Nat) := [(5042, 1, 44, 3, 782), (5046, 1, 43, 2, 783), (3073, 2, 160, 1, 787), (5050, 1, 73, 1, 793), (8199, 1, 63, 3, 794), (5056, 1, 64, 1, 798), (5083, 1, 37, 1, 802), (5069, 1, 65, 1, 803), (10083, 1, 91, 1, 807), (10087, 1, 92, 1, 811), (10091, 1, 93, 1, 815), (8218, 1, 101, 1, 819), (8221, 1, 102, 1, 823), (8233, 1, 43, 2, 827), (10095, 1, 94, 1, 828), (10099, 1, 95, 0, 832)]
def ct9 : List (Nat × Nat × Nat × Nat × Nat) := [(10012, 3, 103, 0, 838), (9001, 4, 0, 0, 841), (10017, 1, 108, 1, 972), (9118, 1, 107, 1, 976), (9115, 1, 106, 0, 980), (9122, 1, 144, 0, 984), (10022, 1, 110, 5, 988), (9126, 2, 105, 1, 992), (9130, 1, 109, 2, 995), (10027, 1, 111, 2, 999), (10032, 1, 112, 1, 1003), (10036, 1, 113, 5, 1007), (9137, 1, 114, 1, 1011), (10040, 1, 115, 1, 1015), (10044, 1, 130, 1, 1019), (9187, 1, 119, 0, 1023)]
def ct10 : List (Nat × Nat × Nat × Nat × Nat) := [(9152, 1, 117, 1, 1027), (9146, 1, 116, 2, 1031), (9155, 1, 118, 0, 1035), (9190, 1, 122, 0, 1039), (9159, 1, 120, 3, 1043), (9163, 1, 121, 1, 1047), (9166, 1, 123, 1, 1051), (9193, 1, 125, 0, 1055), (9170, 1, 124, 1, 1059), (9196, 1, 126, 1, 1063), (9173, 1, 127, 1, 1067), (9199, 1, 129, 1, 1071), (9176, 1, 110, 5, 1075), (9180, 1, 128, 1, 1076), (9183, 1, 111, 2, 1080), (10049, 1, 131, 0, 1081)]
def ct11 : List (Nat × Nat × Nat × Nat × Nat) := [(10054, 1, 140, 3, 1085), (9222, 1, 104, 0, 1089), (9228, 1, 137, 0, 1093), (9207, 1, 132, 2, 1097), (9219, 1, 136, 2, 1101), (9214, 1, 135, 2, 1105), (9217, 1, 134, 2, 1109), (9210, 1, 133, 2, 1113), (9225, 1, 138, 2, 1118), (10058, 1, 143, 1, 1122), (9234, 1, 141, 1, 1126), (9237, 1, 142, 1, 1130), (10062, 1, 144, 0, 1134), (10066, 1, 145, 1, 1135), (10070, 1, 148, 1, 1139), (9243, 1, 147, 1, 1143)]
def ct12 : List (Nat × Nat × Nat × Nat × Nat) := [(9240, 1, 146, 2, 1147), (10074, 1, 149, 2, 1151), (10078, 1, 150, 2, 1155), (10082, 1, 152, 0, 1159), (9252, 1, 151, 1, 1163), (9255, 1, 139, 2, 1167), (9261, 1, 153, 0, 1171), (10086, 1, 154, 1, 1175), (10090, 1, 155, 1, 1179), (10098, 1, 157, 1, 1183), (9267, 1, 156, 1, 1187), (10094, 1, 158, 1, 1191), (9270, 1, 157, 1, 1195), (10102, 1, 159, 0, 1196), (9273, 1, 158, 1, 1200)]
def ctab : List (Nat × Nat × Nat × Nat × Nat) := ct1 ++ (ct2 ++ (ct3 ++ (ct4 ++ (ct5 ++ (ct6 ++ (ct7 ++ (ct8 ++ (ct9 ++ (ct10 ++ (ct11 ++ (ct12)))))))))))
def ntab : List (Nat × Nat × Nat) := [(10007, 8, 93), (8013, 2, 101), (8025, 7, 148), (8032, 3, 176), (8041, 4, 231), (8048, 5, 249), (8055, 6, 280), (8062, 0, 296), (8071, 1, 367), (10010, 9, 836)]
def ltab : List (Nat × Int64 × Nat) := [(3106, -1, 669), (11314, 6148914691236517205, 790), (11316, 3689348814741910323, 791), (11318, 1085102592571150095, 792), (9205, -1, 1117)]
def gtab : List (Nat × Nat × Nat) := [(9020, 5, 842), (9046, 6, 844)]
def cpos : List (Nat × Nat) := [(297, 87), (368, 88), (102, 81), (177, 83), (232, 84), (250, 85), (281, 86), (149, 82), (94, 80), (837, 89)]
/-- the words that stay -/
def gT : List Cond := lw_tbl.filter goodWord
theorem inG {i : Nat} {w : Cond} (h : lw_tbl[i]? = some w) (hg : goodWord w = true) : w ∈ gT := List.mem_filter.mpr ⟨List.mem_of_getElem? h, hg⟩
theorem gT_good {ws : List Cond} (h : ∀ w ∈ ws, w ∈ gT) : GoodIn gT ws := fun w hw => ⟨h w hw, good_of_word (List.mem_filter.mp (h w hw)).2⟩
set_option maxRecDepth 100000 in
theorem mR1_ok : ∀ e ∈ mR1, plainName e.1.cls = true ∧ lw_tbl[e.2.2.2.2.2.2.1]? = some (.initialized e.1.cls) ∧ oN e.2.2.2.2.1 = e.1.cls ∧ e.1.cls ≠ "java/lang/invoke/MethodHandle" ∧ e.1.cls ≠ "java/lang/invoke/VarHandle" ∧ e.2.2.1 ≤ 21 := by decide +kernel
set_option maxRecDepth 100000 in
theorem mR2_ok : ∀ e ∈ mR2, plainName e.1.cls = true ∧ lw_tbl[e.2.2.2.2.2.2.1]? = some (.initialized e.1.cls) ∧ oN e.2.2.2.2.1 = e.1.cls ∧ e.1.cls ≠ "java/lang/invoke/MethodHandle" ∧ e.1.cls ≠ "java/lang/invoke/VarHandle" ∧ e.2.2.1 ≤ 21 := by decide +kernel
set_option maxRecDepth 100000 in
theorem mR3_ok : ∀ e ∈ mR3, plainName e.1.cls = true ∧ lw_tbl[e.2.2.2.2.2.2.1]? = some (.initialized e.1.cls) ∧ oN e.2.2.2.2.1 = e.1.cls ∧ e.1.cls ≠ "java/lang/invoke/MethodHandle" ∧ e.1.cls ≠ "java/lang/invoke/VarHandle" ∧ e.2.2.1 ≤ 21 := by decide +kernel
set_option maxRecDepth 100000 in
theorem mR4_ok : ∀ e ∈ mR4, plainName e.1.cls = true ∧ lw_tbl[e.2.2.2.2.2.2.1]? = some (.initialized e.1.cls) ∧ oN e.2.2.2.2.1 = e.1.cls ∧ e.1.cls ≠ "java/lang/invoke/MethodHandle" ∧ e.1.cls ≠ "java/lang/invoke/VarHandle" ∧ e.2.2.1 ≤ 21 := by decide +kernel
set_option maxRecDepth 100000 in
theorem mR5_ok : ∀ e ∈ mR5, plainName e.1.cls = true ∧ lw_tbl[e.2.2.2.2.2.2.1]? = some (.initialized e.1.cls) ∧ oN e.2.2.2.2.1 = e.1.cls ∧ e.1.cls ≠ "java/lang/invoke/MethodHandle" ∧ e.1.cls ≠ "java/lang/invoke/VarHandle" ∧ e.2.2.1 ≤ 21 := by decide +kernel
set_option maxRecDepth 100000 in
theorem mR6_ok : ∀ e ∈ mR6, plainName e.1.cls = true ∧ lw_tbl[e.2.2.2.2.2.2.1]? = some (.initialized e.1.cls) ∧ oN e.2.2.2.2.1 = e.1.cls ∧ e.1.cls ≠ "java/lang/invoke/MethodHandle" ∧ e.1.cls ≠ "java/lang/invoke/VarHandle" ∧ e.2.2.1 ≤ 21 := by decide +kernel
set_option maxRecDepth 100000 in
theorem mR7_ok : ∀ e ∈ mR7, plainName e.1.cls = true ∧ lw_tbl[e.2.2.2.2.2.2.1]? = some (.initialized e.1.cls) ∧ oN e.2.2.2.2.1 = e.1.cls ∧ e.1.cls ≠ "java/lang/invoke/MethodHandle" ∧ e.1.cls ≠ "java/lang/invoke/VarHandle" ∧ e.2.2.1 ≤ 21 := by decide +kernel
set_option maxRecDepth 100000 in
theorem mR8_ok : ∀ e ∈ mR8, plainName e.1.cls = true ∧ lw_tbl[e.2.2.2.2.2.2.1]? = some (.initialized e.1.cls) ∧ oN e.2.2.2.2.1 = e.1.cls ∧ e.1.cls ≠ "java/lang/invoke/MethodHandle" ∧ e.1.cls ≠ "java/lang/invoke/VarHandle" ∧ e.2.2.1 ≤ 21 := by decide +kernel
set_option maxRecDepth 100000 in
theorem mR9_ok : ∀ e ∈ mR9, plainName e.1.cls = true ∧ lw_tbl[e.2.2.2.2.2.2.1]? = some (.initialized e.1.cls) ∧ oN e.2.2.2.2.1 = e.1.cls ∧ e.1.cls ≠ "java/lang/invoke/MethodHandle" ∧ e.1.cls ≠ "java/lang/invoke/VarHandle" ∧ e.2.2.1 ≤ 21 := by decide +kernel
set_option maxRecDepth 100000 in
theorem mR10_ok : ∀ e ∈ mR10, plainName e.1.cls = true ∧ lw_tbl[e.2.2.2.2.2.2.1]? = some (.initialized e.1.cls) ∧ oN e.2.2.2.2.1 = e.1.cls ∧ e.1.cls ≠ "java/lang/invoke/MethodHandle" ∧ e.1.cls ≠ "java/lang/invoke/VarHandle" ∧ e.2.2.1 ≤ 21 := by decide +kernel
set_option maxRecDepth 100000 in
theorem mR11_ok : ∀ e ∈ mR11, plainName e.1.cls = true ∧ lw_tbl[e.2.2.2.2.2.2.1]? = some (.initialized e.1.cls) ∧ oN e.2.2.2.2.1 = e.1.cls ∧ e.1.cls ≠ "java/lang/invoke/MethodHandle" ∧ e.1.cls ≠ "java/lang/invoke/VarHandle" ∧ e.2.2.1 ≤ 21 := by decide +kernel
theorem mRest_ok : ∀ e ∈ mRest, plainName e.1.cls = true ∧ lw_tbl[e.2.2.2.2.2.2.1]? = some (.initialized e.1.cls) ∧ oN e.2.2.2.2.1 = e.1.cls ∧ e.1.cls ≠ "java/lang/invoke/MethodHandle" ∧ e.1.cls ≠ "java/lang/invoke/VarHandle" ∧ e.2.2.1 ≤ 21 := List.forall_mem_append.mpr ⟨mR1_ok, List.forall_mem_append.mpr ⟨mR2_ok, List.forall_mem_append.mpr ⟨mR3_ok, List.forall_mem_append.mpr ⟨mR4_ok, List.forall_mem_append.mpr ⟨mR5_ok, List.forall_mem_append.mpr ⟨mR6_ok, List.forall_mem_append.mpr ⟨mR7_ok, List.forall_mem_append.mpr ⟨mR8_ok, List.forall_mem_append.mpr ⟨mR9_ok, List.forall_mem_append.mpr ⟨mR10_ok, mR11_ok⟩⟩⟩⟩⟩⟩⟩⟩⟩⟩
set_option maxRecDepth 100000 in
theorem cw_1 : Cond.code yX0_init cX0_init 2 (none) ∈ gT := List.mem_filter.mpr ⟨List.mem_append_right _ ((List.mem_append_left _ (List.mem_of_getElem? (i := 221) rfl)) : Cond.code yX0_init cX0_init 2 (none) ∈ tables_1), rfl⟩
set_option maxRecDepth 100000 in
theorem cw_2 : Cond.code yX0_parse cX0_parse 2 (none) ∈ gT := List.mem_filter.mpr ⟨List.mem_append_right _ ((List.mem_append_right _ (List.mem_append_left _ (List.mem_of_getElem? (i := 191) rfl))) : Cond.code yX0_parse cX0_parse 2 (none) ∈ tables_1), rfl⟩
set_option maxRecDepth 100000 in
theorem cw_3 : Cond.code yX0_fail cX0_fail 3 (none) ∈ gT := List.mem_filter.mpr ⟨List.mem_append_right _ ((List.mem_append_right _ (List.mem_append_left _ (List.mem_of_getElem? (i := 218) rfl))) : Cond.code yX0_fail cX0_fail 3 (none) ∈ tables_1), rfl⟩
set_option maxRecDepth 100000 in
theorem cw_4 : Cond.code yX0_andOf cX0_andOf 3 (some Jvm.ClassFile.FieldType.int) ∈ gT := List.mem_filter.mpr ⟨List.mem_append_right _ ((List.mem_append_right _ (List.mem_append_right _ (List.mem_append_left _ (List.mem_of_getElem? (i := 48) rfl)))) : Cond.code yX0_andOf cX0_andOf 3 (some Jvm.ClassFile.FieldType.int) ∈ tables_1), rfl⟩
set_option maxRecDepth 100000 in
theorem cw_5 : Cond.code yX0_sideOf cX0_sideOf 3 (some Jvm.ClassFile.FieldType.int) ∈ gT := List.mem_filter.mpr ⟨List.mem_append_right _ ((List.mem_append_right _ (List.mem_append_right _ (List.mem_append_left _ (List.mem_of_getElem? (i := 40) rfl)))) : Cond.code yX0_sideOf cX0_sideOf 3 (some Jvm.ClassFile.FieldType.int) ∈ tables_1), rfl⟩
set_option maxRecDepth 100000 in
theorem cw_6 : Cond.code yX0_startAnew cX0_startAnew 2 (none) ∈ gT := List.mem_filter.mpr ⟨List.mem_append_right _ ((List.mem_append_right _ (List.mem_append_left _ (List.mem_of_getElem? (i := 195) rfl))) : Cond.code yX0_startAnew cX0_startAnew 2 (none) ∈ tables_1), rfl⟩
set_option maxRecDepth 100000 in
theorem cw_7 : Cond.code yX0_parseHead cX0_parseHead 2 (none) ∈ gT := List.mem_filter.mpr ⟨List.mem_append_right _ ((List.mem_append_right _ (List.mem_append_left _ (List.mem_of_getElem? (i := 202) rfl))) : Cond.code yX0_parseHead cX0_parseHead 2 (none) ∈ tables_1), rfl⟩
set_option maxRecDepth 100000 in
theorem cw_8 : Cond.code yX0_parseHeadNumber cX0_parseHeadNumber 2 (none) ∈ gT := List.mem_filter.mpr ⟨List.mem_append_right _ ((List.mem_append_right _ (List.mem_append_left _ (List.mem_of_getElem? (i := 222) rfl))) : Cond.code yX0_parseHeadNumber cX0_parseHeadNumber 2 (none) ∈ tables_1), rfl⟩
set_option maxRecDepth 100000 in
theorem cw_9 : Cond.code yX0_askHeadNumbers cX0_askHeadNumbers 2 (none) ∈ gT := List.mem_filter.mpr ⟨List.mem_append_right _ ((List.mem_append_right _ (List.mem_append_left _ (List.mem_of_getElem? (i := 235) rfl))) : Cond.code yX0_askHeadNumbers cX0_askHeadNumbers 2 (none) ∈ tables_1), rfl⟩
set_option maxRecDepth 100000 in
theorem cw_10 : Cond.code yX0_isBadHeadNumber cX0_isBadHeadNumber 2 (some Jvm.ClassFile.FieldType.boolean) ∈ gT := List.mem_filter.mpr ⟨List.mem_append_right _ ((List.mem_append_right _ (List.mem_append_left _ (List.mem_of_getElem? (i := 239) rfl))) : Cond.code yX0_isBadHeadNumber cX0_isBadHeadNumber 2 (some Jvm.ClassFile.FieldType.boolean) ∈ tables_1), rfl⟩
set_option maxRecDepth 100000 in
theorem cw_11 : Cond.code yX0_hasTooFewVariables cX0_hasTooFewVariables 1 (some Jvm.ClassFile.FieldType.boolean) ∈ gT := List.mem_filter.mpr ⟨List.mem_append_right _ ((List.mem_append_right _ (List.mem_append_right _ (List.mem_append_left _ (List.mem_of_getElem? (i := 3) rfl)))) : Cond.code yX0_hasTooFewVariables cX0_hasTooFewVariables 1 (some Jvm.ClassFile.FieldType.boolean) ∈ tables_1), rfl⟩
set_option maxRecDepth 100000 in
theorem cw_12 : Cond.code yX0_parseInputLines cX0_parseInputLines 2 (none) ∈ gT := List.mem_filter.mpr ⟨List.mem_append_right _ ((List.mem_append_right _ (List.mem_append_right _ (List.mem_append_left _ (List.mem_of_getElem? (i := 7) rfl)))) : Cond.code yX0_parseInputLines cX0_parseInputLines 2 (none) ∈ tables_1), rfl⟩
set_option maxRecDepth 100000 in
theorem cw_13 : Cond.code yX0_parseOutLines cX0_parseOutLines 2 (none) ∈ gT := List.mem_filter.mpr ⟨List.mem_append_right _ ((List.mem_append_right _ (List.mem_append_right _ (List.mem_append_left _ (List.mem_of_getElem? (i := 15) rfl)))) : Cond.code yX0_parseOutLines cX0_parseOutLines 2 (none) ∈ tables_1), rfl⟩
set_option maxRecDepth 100000 in
theorem cw_14 : Cond.code yX0_parseAndLines cX0_parseAndLines 2 (none) ∈ gT := List.mem_filter.mpr ⟨List.mem_append_right _ ((List.mem_append_right _ (List.mem_append_right _ (List.mem_append_left _ (List.mem_of_getElem? (i := 23) rfl)))) : Cond.code yX0_parseAndLines cX0_parseAndLines 2 (none) ∈ tables_1), rfl⟩
set_option maxRecDepth 100000 in
theorem cw_15 : Cond.code yX0_parseDefinition cX0_parseDefinition 4 (none) ∈ gT := List.mem_filter.mpr ⟨List.mem_append_right _ ((List.mem_append_right _ (List.mem_append_right _ (List.mem_append_left _ (List.mem_of_getElem? (i := 11) rfl)))) : Cond.code yX0_parseDefinition cX0_parseDefinition 4 (none) ∈ tables_1), rfl⟩
set_option maxRecDepth 100000 in
theorem cw_16 : Cond.code yX0_parseUse cX0_parseUse 2 (none) ∈ gT := List.mem_filter.mpr ⟨List.mem_append_right _ ((List.mem_append_right _ (List.mem_append_right _ (List.mem_append_left _ (List.mem_of_getElem? (i := 19) rfl)))) : Cond.code yX0_parseUse cX0_parseUse 2 (none) ∈ tables_1), rfl⟩
set_option maxRecDepth 100000 in
theorem cw_17 : Cond.code yX0_parseNumber cX0_parseNumber 4 (some Jvm.ClassFile.FieldType.int) ∈ gT := List.mem_filter.mpr ⟨List.mem_append_right _ ((List.mem_append_right _ (List.mem_append_left _ (List.mem_of_getElem? (i := 226) rfl))) : Cond.code yX0_parseNumber cX0_parseNumber 4 (some Jvm.ClassFile.FieldType.int) ∈ tables_1), rfl⟩
set_option maxRecDepth 100000 in
theorem cw_18 : Cond.code yX0_expect cX0_expect 2 (none) ∈ gT := List.mem_filter.mpr ⟨List.mem_append_right _ ((List.mem_append_right _ (List.mem_append_left _ (List.mem_of_getElem? (i := 206) rfl))) : Cond.code yX0_expect cX0_expect 2 (none) ∈ tables_1), rfl⟩
set_option maxRecDepth 100000 in
theorem cw_19 : Cond.code yX0_failIf cX0_failIf 4 (none) ∈ gT := List.mem_filter.mpr ⟨List.mem_append_right _ ((List.mem_append_right _ (List.mem_append_left _ (List.mem_of_getElem? (i := 214) rfl))) : Cond.code yX0_failIf cX0_failIf 4 (none) ∈ tables_1), rfl⟩
set_option maxRecDepth 100000 in
theorem cw_20 : Cond.code yX0_findNotDefined cX0_findNotDefined 3 (none) ∈ gT := List.mem_filter.mpr ⟨List.mem_append_right _ ((List.mem_append_right _ (List.mem_append_right _ (List.mem_append_left _ (List.mem_of_getElem? (i := 27) rfl)))) : Cond.code yX0_findNotDefined cX0_findNotDefined 3 (none) ∈ tables_1), rfl⟩
set_option maxRecDepth 100000 in
theorem cw_21 : Cond.code yX1_init cX1_init 2 (none) ∈ gT := List.mem_filter.mpr ⟨List.mem_append_right _ ((List.mem_append_right _ (List.mem_append_left _ (List.mem_of_getElem? (i := 52) rfl))) : Cond.code yX1_init cX1_init 2 (none) ∈ tables_1), rfl⟩
set_option maxRecDepth 100000 in
theorem cw_22 : Cond.code yX1_arrange cX1_arrange 3 (none) ∈ gT := List.mem_filter.mpr ⟨List.mem_append_right _ ((List.mem_append_right _ (List.mem_append_right _ (List.mem_append_left _ (List.mem_of_getElem? (i := 31) rfl)))) : Cond.code yX1_arrange cX1_arrange 3 (none) ∈ tables_1), rfl⟩
set_option maxRecDepth 100000 in
theorem cw_23 : Cond.code yX1_fill cX1_fill 6 (none) ∈ gT := List.mem_filter.mpr ⟨List.mem_append_right _ ((List.mem_append_right _ (List.mem_append_right _ (List.mem_append_left _ (List.mem_of_getElem? (i := 69) rfl)))) : Cond.code yX1_fill cX1_fill 6 (none) ∈ tables_1), rfl⟩
set_option maxRecDepth 100000 in
theorem cw_24 : Cond.code yX1_signalOf cX1_signalOf 5 (some Jvm.ClassFile.FieldType.int) ∈ gT := List.mem_filter.mpr ⟨List.mem_append_right _ ((List.mem_append_right _ (List.mem_append_right _ (List.mem_append_left _ (List.mem_of_getElem? (i := 74) rfl)))) : Cond.code yX1_signalOf cX1_signalOf 5 (some Jvm.ClassFile.FieldType.int) ∈ tables_1), rfl⟩
set_option maxRecDepth 100000 in
theorem cw_25 : Cond.code yX1_firstReady cX1_firstReady 2 (some Jvm.ClassFile.FieldType.int) ∈ gT := List.mem_filter.mpr ⟨List.mem_append_right _ ((List.mem_append_right _ (List.mem_append_right _ (List.mem_append_left _ (List.mem_of_getElem? (i := 36) rfl)))) : Cond.code yX1_firstReady cX1_firstReady 2 (some Jvm.ClassFile.FieldType.int) ∈ tables_1), rfl⟩
set_option maxRecDepth 100000 in
theorem cw_26 : Cond.code yX1_isThere cX1_isThere 3 (some Jvm.ClassFile.FieldType.boolean) ∈ gT := List.mem_filter.mpr ⟨List.mem_append_right _ ((List.mem_append_right _ (List.mem_append_right _ (List.mem_append_left _ (List.mem_of_getElem? (i := 44) rfl)))) : Cond.code yX1_isThere cX1_isThere 3 (some Jvm.ClassFile.FieldType.boolean) ∈ tables_1), rfl⟩
set_option maxRecDepth 100000 in
theorem cw_27 : Cond.code yX1_failAtFirstLoop cX1_failAtFirstLoop 2 (none) ∈ gT := List.mem_filter.mpr ⟨List.mem_append_right _ ((List.mem_append_right _ (List.mem_append_right _ (List.mem_append_left _ (List.mem_of_getElem? (i := 52) rfl)))) : Cond.code yX1_failAtFirstLoop cX1_failAtFirstLoop 2 (none) ∈ tables_1), rfl⟩
set_option maxRecDepth 100000 in
theorem cw_28 : Cond.code yX1_needsItself cX1_needsItself 3 (some Jvm.ClassFile.FieldType.boolean) ∈ gT := List.mem_filter.mpr ⟨List.mem_append_right _ ((List.mem_append_right _ (List.mem_append_right _ (List.mem_append_left _ (List.mem_of_getElem? (i := 56) rfl)))) : Cond.code yX1_needsItself cX1_needsItself 3 (some Jvm.ClassFile.FieldType.boolean) ∈ tables_1), rfl⟩
set_option maxRecDepth 100000 in
theorem cw_29 : Cond.code yX1_reachSides cX1_reachSides 2 (none) ∈ gT := List.mem_filter.mpr ⟨List.mem_append_right _ ((List.mem_append_right _ (List.mem_append_right _ (List.mem_append_left _ (List.mem_of_getElem? (i := 60) rfl)))) : Cond.code yX1_reachSides cX1_reachSides 2 (none) ∈ tables_1), rfl⟩
set_option maxRecDepth 100000 in
theorem cw_30 : Cond.code yX1_reach cX1_reach 2 (none) ∈ gT := List.mem_filter.mpr ⟨List.mem_append_right _ ((List.mem_append_right _ (List.mem_append_right _ (List.mem_append_left _ (List.mem_of_getElem? (i := 64) rfl)))) : Cond.code yX1_reach cX1_reach 2 (none) ∈ tables_1), rfl⟩
set_option maxRecDepth 100000 in
theorem cw_31 : Cond.code yX2_init cX2_init 2 (none) ∈ gT := List.mem_filter.mpr ⟨List.mem_append_right _ ((List.mem_append_left _ (List.mem_of_getElem? (i := 26) rfl)) : Cond.code yX2_init cX2_init 2 (none) ∈ tables_1), rfl⟩
set_option maxRecDepth 100000 in
theorem cw_32 : Cond.code yX2_reset cX2_reset 2 (none) ∈ gT := List.mem_filter.mpr ⟨List.mem_append_right _ ((List.mem_append_right _ (List.mem_append_left _ (List.mem_of_getElem? (i := 120) rfl))) : Cond.code yX2_reset cX2_reset 2 (none) ∈ tables_1), rfl⟩
set_option maxRecDepth 100000 in
theorem cw_33 : Cond.code yX2_hasSignal cX2_hasSignal 2 (some Jvm.ClassFile.FieldType.boolean) ∈ gT := List.mem_filter.mpr ⟨List.mem_append_right _ ((List.mem_append_right _ (List.mem_append_left _ (List.mem_of_getElem? (i := 151) rfl))) : Cond.code yX2_hasSignal cX2_hasSignal 2 (some Jvm.ClassFile.FieldType.boolean) ∈ tables_1), rfl⟩
set_option maxRecDepth 100000 in
theorem cw_34 : Cond.code yX2_canTake cX2_canTake 6 (some Jvm.ClassFile.FieldType.boolean) ∈ gT := List.mem_filter.mpr ⟨List.mem_append_right _ ((List.mem_append_right _ (List.mem_append_left _ (List.mem_of_getElem? (i := 147) rfl))) : Cond.code yX2_canTake cX2_canTake 6 (some Jvm.ClassFile.FieldType.boolean) ∈ tables_1), rfl⟩
set_option maxRecDepth 100000 in
theorem cw_35 : Cond.code yX2_addGate cX2_addGate 5 (some Jvm.ClassFile.FieldType.int) ∈ gT := List.mem_filter.mpr ⟨List.mem_append_right _ ((List.mem_append_right _ (List.mem_append_left _ (List.mem_of_getElem? (i := 158) rfl))) : Cond.code yX2_addGate cX2_addGate 5 (some Jvm.ClassFile.FieldType.int) ∈ tables_1), rfl⟩
set_option maxRecDepth 100000 in
theorem cw_36 : Cond.code yX2_addOut cX2_addOut 2 (some Jvm.ClassFile.FieldType.int) ∈ gT := List.mem_filter.mpr ⟨List.mem_append_right _ ((List.mem_append_right _ (List.mem_append_left _ (List.mem_of_getElem? (i := 167) rfl))) : Cond.code yX2_addOut cX2_addOut 2 (some Jvm.ClassFile.FieldType.int) ∈ tables_1), rfl⟩
set_option maxRecDepth 100000 in
theorem cw_37 : Cond.code yX2_literalOf cX2_literalOf 2 (some Jvm.ClassFile.FieldType.int) ∈ gT := List.mem_filter.mpr ⟨List.mem_append_right _ ((List.mem_append_right _ (List.mem_append_right _ (List.mem_append_left _ (List.mem_of_getElem? (i := 118) rfl)))) : Cond.code yX2_literalOf cX2_literalOf 2 (some Jvm.ClassFile.FieldType.int) ∈ tables_1), rfl⟩
set_option maxRecDepth 100000 in
theorem cw_38 : Cond.code yX2_plain cX2_plain 1 (some Jvm.ClassFile.FieldType.int) ∈ gT := List.mem_filter.mpr ⟨List.mem_append_right _ ((List.mem_append_right _ (List.mem_append_left _ (List.mem_of_getElem? (i := 154) rfl))) : Cond.code yX2_plain cX2_plain 1 (some Jvm.ClassFile.FieldType.int) ∈ tables_1), rfl⟩
set_option maxRecDepth 100000 in
theorem cw_39 : Cond.code yX3_init cX3_init 3 (none) ∈ gT := List.mem_filter.mpr ⟨List.mem_append_right _ ((List.mem_append_left _ (List.mem_of_getElem? (i := 101) rfl)) : Cond.code yX3_init cX3_init 3 (none) ∈ tables_1), rfl⟩
set_option maxRecDepth 100000 in
theorem cw_40 : Cond.code yX3_bringUp cX3_bringUp 2 (none) ∈ gT := List.mem_filter.mpr ⟨List.mem_append_right _ ((List.mem_append_right _ (List.mem_append_right _ (List.mem_append_left _ (List.mem_of_getElem? (i := 91) rfl)))) : Cond.code yX3_bringUp cX3_bringUp 2 (none) ∈ tables_1), rfl⟩
set_option maxRecDepth 100000 in
theorem cw_41 : Cond.code yX3_isAnd cX3_isAnd 2 (some Jvm.ClassFile.FieldType.boolean) ∈ gT := List.mem_filter.mpr ⟨List.mem_append_right _ ((List.mem_append_right _ (List.mem_append_right _ (List.mem_append_left _ (List.mem_of_getElem? (i := 202) rfl)))) : Cond.code yX3_isAnd cX3_isAnd 2 (some Jvm.ClassFile.FieldType.boolean) ∈ tables_1), rfl⟩
set_option maxRecDepth 100000 in
theorem cw_42 : Cond.code yX3_bitOf cX3_bitOf 3 (some Jvm.ClassFile.FieldType.int) ∈ gT := List.mem_filter.mpr ⟨List.mem_append_right _ ((List.mem_append_right _ (List.mem_append_right _ (List.mem_append_left _ (List.mem_of_getElem? (i := 153) rfl)))) : Cond.code yX3_bitOf cX3_bitOf 3 (some Jvm.ClassFile.FieldType.int) ∈ tables_1), rfl⟩
set_option maxRecDepth 100000 in
theorem cw_43 : Cond.code yX3_firstWordApart cX3_firstWordApart 6 (some Jvm.ClassFile.FieldType.int) ∈ gT := List.mem_filter.mpr ⟨List.mem_append_right _ ((List.mem_append_right _ (List.mem_append_right _ (List.mem_append_left _ (List.mem_of_getElem? (i := 227) rfl)))) : Cond.code yX3_firstWordApart cX3_firstWordApart 6 (some Jvm.ClassFile.FieldType.int) ∈ tables_1), rfl⟩
set_option maxRecDepth 100000 in
theorem cw_44 : Cond.code yX3_likeness cX3_likeness 12 (some Jvm.ClassFile.FieldType.int) ∈ gT := List.mem_filter.mpr ⟨List.mem_append_right _ ((List.mem_append_right _ (List.mem_append_right _ (List.mem_append_left _ (List.mem_of_getElem? (i := 194) rfl)))) : Cond.code yX3_likeness cX3_likeness 12 (some Jvm.ClassFile.FieldType.int) ∈ tables_1), rfl⟩
set_option maxRecDepth 100000 in
theorem cw_45 : Cond.code yX3_restart cX3_restart 3 (none) ∈ gT := List.mem_filter.mpr ⟨List.mem_append_right _ ((List.mem_append_right _ (List.mem_append_right _ (List.mem_append_left _ (List.mem_of_getElem? (i := 95) rfl)))) : Cond.code yX3_restart cX3_restart 3 (none) ∈ tables_1), rfl⟩
set_option maxRecDepth 100000 in
theorem cw_46 : Cond.code yX3_makeFalse cX3_makeFalse 2 (none) ∈ gT := List.mem_filter.mpr ⟨List.mem_append_right _ ((List.mem_append_right _ (List.mem_append_right _ (List.mem_append_left _ (List.mem_of_getElem? (i := 99) rfl)))) : Cond.code yX3_makeFalse cX3_makeFalse 2 (none) ∈ tables_1), rfl⟩
set_option maxRecDepth 100000 in
theorem cw_47 : Cond.code yX3_makeInput cX3_makeInput 4 (none) ∈ gT := List.mem_filter.mpr ⟨List.mem_append_right _ ((List.mem_append_right _ (List.mem_append_right _ (List.mem_append_left _ (List.mem_of_getElem? (i := 107) rfl)))) : Cond.code yX3_makeInput cX3_makeInput 4 (none) ∈ tables_1), rfl⟩
set_option maxRecDepth 100000 in
theorem cw_48 : Cond.code yX3_makeGate cX3_makeGate 6 (none) ∈ gT := List.mem_filter.mpr ⟨List.mem_append_right _ ((List.mem_append_right _ (List.mem_append_right _ (List.mem_append_left _ (List.mem_of_getElem? (i := 114) rfl)))) : Cond.code yX3_makeGate cX3_makeGate 6 (none) ∈ tables_1), rfl⟩
set_option maxRecDepth 100000 in
theorem cw_49 : Cond.code yX3_makeKind cX3_makeKind 5 (some Jvm.ClassFile.FieldType.int) ∈ gT := List.mem_filter.mpr ⟨List.mem_append_right _ ((List.mem_append_right _ (List.mem_append_right _ (List.mem_append_left _ (List.mem_of_getElem? (i := 122) rfl)))) : Cond.code yX3_makeKind cX3_makeKind 5 (some Jvm.ClassFile.FieldType.int) ∈ tables_1), rfl⟩
set_option maxRecDepth 100000 in
theorem cw_50 : Cond.code yX3_makeChoice cX3_makeChoice 6 (some Jvm.ClassFile.FieldType.int) ∈ gT := List.mem_filter.mpr ⟨List.mem_append_right _ ((List.mem_append_right _ (List.mem_append_right _ (List.mem_append_left _ (List.mem_of_getElem? (i := 144) rfl)))) : Cond.code yX3_makeChoice cX3_makeChoice 6 (some Jvm.ClassFile.FieldType.int) ∈ tables_1), rfl⟩
set_option maxRecDepth 100000 in
theorem cw_51 : Cond.code yX3_makeMajority cX3_makeMajority 7 (some Jvm.ClassFile.FieldType.int) ∈ gT := List.mem_filter.mpr ⟨List.mem_append_right _ ((List.mem_append_right _ (List.mem_append_right _ (List.mem_append_left _ (List.mem_of_getElem? (i := 148) rfl)))) : Cond.code yX3_makeMajority cX3_makeMajority 7 (some Jvm.ClassFile.FieldType.int) ∈ tables_1), rfl⟩
set_option maxRecDepth 100000 in
theorem cw_52 : Cond.code yX3_makeAnd cX3_makeAnd 7 (some Jvm.ClassFile.FieldType.int) ∈ gT := List.mem_filter.mpr ⟨List.mem_append_right _ ((List.mem_append_right _ (List.mem_append_right _ (List.mem_append_left _ (List.mem_of_getElem? (i := 126) rfl)))) : Cond.code yX3_makeAnd cX3_makeAnd 7 (some Jvm.ClassFile.FieldType.int) ∈ tables_1), rfl⟩
set_option maxRecDepth 100000 in
theorem cw_53 : Cond.code yX3_addAnd cX3_addAnd 5 (some Jvm.ClassFile.FieldType.int) ∈ gT := List.mem_filter.mpr ⟨List.mem_append_right _ ((List.mem_append_right _ (List.mem_append_right _ (List.mem_append_left _ (List.mem_of_getElem? (i := 136) rfl)))) : Cond.code yX3_addAnd cX3_addAnd 5 (some Jvm.ClassFile.FieldType.int) ∈ tables_1), rfl⟩
set_option maxRecDepth 100000 in
theorem cw_54 : Cond.code yX3_addNode cX3_addNode 4 (none) ∈ gT := List.mem_filter.mpr ⟨List.mem_append_right _ ((List.mem_append_right _ (List.mem_append_right _ (List.mem_append_left _ (List.mem_of_getElem? (i := 103) rfl)))) : Cond.code yX3_addNode cX3_addNode 4 (none) ∈ tables_1), rfl⟩
set_option maxRecDepth 100000 in
theorem cw_55 : Cond.code yX3_wordOf cX3_wordOf 5 (some Jvm.ClassFile.FieldType.long) ∈ gT := List.mem_filter.mpr ⟨List.mem_append_right _ ((List.mem_append_right _ (List.mem_append_right _ (List.mem_append_left _ (List.mem_of_getElem? (i := 140) rfl)))) : Cond.code yX3_wordOf cX3_wordOf 5 (some Jvm.ClassFile.FieldType.long) ∈ tables_1), rfl⟩
set_option maxRecDepth 100000 in
theorem cw_56 : Cond.code yX4_init cX4_init 1 (none) ∈ gT := List.mem_filter.mpr ⟨List.mem_append_right _ ((List.mem_append_left _ (List.mem_of_getElem? (i := 156) rfl)) : Cond.code yX4_init cX4_init 1 (none) ∈ tables_1), rfl⟩
set_option maxRecDepth 100000 in
theorem cw_57 : Cond.code yX4_find cX4_find 4 (none) ∈ gT := List.mem_filter.mpr ⟨List.mem_append_right _ ((List.mem_append_right _ (List.mem_append_right _ (List.mem_append_left _ (List.mem_of_getElem? (i := 186) rfl)))) : Cond.code yX4_find cX4_find 4 (none) ∈ tables_1), rfl⟩
set_option maxRecDepth 100000 in
theorem cw_58 : Cond.code yX4_leaderOf cX4_leaderOf 5 (some Jvm.ClassFile.FieldType.int) ∈ gT := List.mem_filter.mpr ⟨List.mem_append_right _ ((List.mem_append_right _ (List.mem_append_right _ (List.mem_append_left _ (List.mem_of_getElem? (i := 190) rfl)))) : Cond.code yX4_leaderOf cX4_leaderOf 5 (some Jvm.ClassFile.FieldType.int) ∈ tables_1), rfl⟩
set_option maxRecDepth 100000 in
theorem cw_59 : Cond.code yX5_init cX5_init 1 (none) ∈ gT := List.mem_filter.mpr ⟨List.mem_append_right _ ((List.mem_append_left _ (List.mem_of_getElem? (i := 174) rfl)) : Cond.code yX5_init cX5_init 1 (none) ∈ tables_1), rfl⟩
set_option maxRecDepth 100000 in
theorem cw_60 : Cond.code yX5_run cX5_run 4 (none) ∈ gT := List.mem_filter.mpr ⟨List.mem_append_right _ ((List.mem_append_right _ (List.mem_append_right _ (List.mem_append_left _ (List.mem_of_getElem? (i := 214) rfl)))) : Cond.code yX5_run cX5_run 4 (none) ∈ tables_1), rfl⟩
set_option maxRecDepth 100000 in
theorem cw_61 : Cond.code yX5_representativeOf cX5_representativeOf 6 (some Jvm.ClassFile.FieldType.int) ∈ gT := List.mem_filter.mpr ⟨List.mem_append_right _ ((List.mem_append_right _ (List.mem_append_right _ (List.mem_append_left _ (List.mem_of_getElem? (i := 218) rfl)))) : Cond.code yX5_representativeOf cX5_representativeOf 6 (some Jvm.ClassFile.FieldType.int) ∈ tables_1), rfl⟩
set_option maxRecDepth 100000 in
theorem cw_62 : Cond.code yX5_askCandidate cX5_askCandidate 9 (some Jvm.ClassFile.FieldType.int) ∈ gT := List.mem_filter.mpr ⟨List.mem_append_right _ ((List.mem_append_right _ (List.mem_append_right _ (List.mem_append_left _ (List.mem_of_getElem? (i := 222) rfl)))) : Cond.code yX5_askCandidate cX5_askCandidate 9 (some Jvm.ClassFile.FieldType.int) ∈ tables_1), rfl⟩
set_option maxRecDepth 100000 in
theorem cw_63 : Cond.code yX5_findNeeded cX5_findNeeded 5 (none) ∈ gT := List.mem_filter.mpr ⟨List.mem_append_right _ ((List.mem_append_right _ (List.mem_append_right _ (List.mem_append_left _ (List.mem_of_getElem? (i := 238) rfl)))) : Cond.code yX5_findNeeded cX5_findNeeded 5 (none) ∈ tables_1), rfl⟩
set_option maxRecDepth 100000 in
theorem cw_64 : Cond.code yX5_markOuts cX5_markOuts 3 (none) ∈ gT := List.mem_filter.mpr ⟨List.mem_append_right _ ((List.mem_append_right _ (List.mem_append_right _ (List.mem_append_right _ (List.mem_append_left _ (List.mem_of_getElem? (i := 2) rfl))))) : Cond.code yX5_markOuts cX5_markOuts 3 (none) ∈ tables_1), rfl⟩
set_option maxRecDepth 100000 in
theorem cw_65 : Cond.code yX5_mark cX5_mark 2 (none) ∈ gT := List.mem_filter.mpr ⟨List.mem_append_right _ ((List.mem_append_right _ (List.mem_append_right _ (List.mem_append_right _ (List.mem_append_left _ (List.mem_of_getElem? (i := 7) rfl))))) : Cond.code yX5_mark cX5_mark 2 (none) ∈ tables_1), rfl⟩
set_option maxRecDepth 100000 in
theorem cw_66 : Cond.code yX6_init cX6_init 1 (none) ∈ gT := List.mem_filter.mpr ⟨List.mem_append_right _ ((List.mem_append_left _ (List.mem_of_getElem? (i := 205) rfl)) : Cond.code yX6_init cX6_init 1 (none) ∈ tables_1), rfl⟩
set_option maxRecDepth 100000 in
theorem cw_67 : Cond.code yX6_append cX6_append 3 (none) ∈ gT := List.mem_filter.mpr ⟨List.mem_append_right _ ((List.mem_append_right _ (List.mem_append_left _ (List.mem_of_getElem? (i := 179) rfl))) : Cond.code yX6_append cX6_append 3 (none) ∈ tables_1), rfl⟩
set_option maxRecDepth 100000 in
theorem cw_68 : Cond.code yX6_byteAt cX6_byteAt 2 (some Jvm.ClassFile.FieldType.int) ∈ gT := List.mem_filter.mpr ⟨List.mem_append_right _ ((List.mem_append_right _ (List.mem_append_left _ (List.mem_of_getElem? (i := 210) rfl))) : Cond.code yX6_byteAt cX6_byteAt 2 (some Jvm.ClassFile.FieldType.int) ∈ tables_1), rfl⟩
set_option maxRecDepth 100000 in
theorem cw_69 : Cond.code yX6_hasDigitAt cX6_hasDigitAt 3 (some Jvm.ClassFile.FieldType.boolean) ∈ gT := List.mem_filter.mpr ⟨List.mem_append_right _ ((List.mem_append_right _ (List.mem_append_left _ (List.mem_of_getElem? (i := 230) rfl))) : Cond.code yX6_hasDigitAt cX6_hasDigitAt 3 (some Jvm.ClassFile.FieldType.boolean) ∈ tables_1), rfl⟩
set_option maxRecDepth 100000 in
theorem cw_70 : Cond.code yX7_init cX7_init 1 (none) ∈ gT := List.mem_filter.mpr ⟨List.mem_append_right _ ((List.mem_append_left _ (List.mem_of_getElem? (i := 73) rfl)) : Cond.code yX7_init cX7_init 1 (none) ∈ tables_1), rfl⟩
set_option maxRecDepth 100000 in
theorem cw_71 : Cond.code yX7_empty cX7_empty 1 (none) ∈ gT := List.mem_filter.mpr ⟨List.mem_append_right _ ((List.mem_append_right _ (List.mem_append_left _ (List.mem_of_getElem? (i := 124) rfl))) : Cond.code yX7_empty cX7_empty 1 (none) ∈ tables_1), rfl⟩
set_option maxRecDepth 100000 in
theorem cw_72 : Cond.code yX7_has cX7_has 2 (some Jvm.ClassFile.FieldType.boolean) ∈ gT := List.mem_filter.mpr ⟨List.mem_append_right _ ((List.mem_append_right _ (List.mem_append_right _ (List.mem_append_left _ (List.mem_of_getElem? (i := 161) rfl)))) : Cond.code yX7_has cX7_has 2 (some Jvm.ClassFile.FieldType.boolean) ∈ tables_1), rfl⟩
set_option maxRecDepth 100000 in
theorem cw_73 : Cond.code yX7_add cX7_add 3 (none) ∈ gT := List.mem_filter.mpr ⟨List.mem_append_right _ ((List.mem_append_right _ (List.mem_append_right _ (List.mem_append_left _ (List.mem_of_getElem? (i := 165) rfl)))) : Cond.code yX7_add cX7_add 3 (none) ∈ tables_1), rfl⟩
set_option maxRecDepth 100000 in
theorem cw_74 : Cond.code yX8_init cX8_init 1 (none) ∈ gT := List.mem_filter.mpr ⟨List.mem_append_right _ ((List.mem_append_left _ (List.mem_of_getElem? (i := 18) rfl)) : Cond.code yX8_init cX8_init 1 (none) ∈ tables_1), rfl⟩
set_option maxRecDepth 100000 in
theorem cw_75 : Cond.code yX8_inputs cX8_inputs 2 (some Jvm.ClassFile.FieldType.boolean) ∈ gT := List.mem_filter.mpr ⟨List.mem_append_right _ ((List.mem_append_right _ (List.mem_append_left _ (List.mem_of_getElem? (i := 116) rfl))) : Cond.code yX8_inputs cX8_inputs 2 (some Jvm.ClassFile.FieldType.boolean) ∈ tables_1), rfl⟩
set_option maxRecDepth 100000 in
theorem cw_76 : Cond.code yX8_gate cX8_gate 8 (some Jvm.ClassFile.FieldType.int) ∈ gT := List.mem_filter.mpr ⟨List.mem_append_right _ ((List.mem_append_right _ (List.mem_append_left _ (List.mem_of_getElem? (i := 139) rfl))) : Cond.code yX8_gate cX8_gate 8 (some Jvm.ClassFile.FieldType.int) ∈ tables_1), rfl⟩
set_option maxRecDepth 100000 in
theorem cw_77 : Cond.code yX8_output cX8_output 5 (some Jvm.ClassFile.FieldType.int) ∈ gT := List.mem_filter.mpr ⟨List.mem_append_right _ ((List.mem_append_right _ (List.mem_append_left _ (List.mem_of_getElem? (i := 162) rfl))) : Cond.code yX8_output cX8_output 5 (some Jvm.ClassFile.FieldType.int) ∈ tables_1), rfl⟩
set_option maxRecDepth 100000 in
theorem cw_78 : Cond.code yX8_clear cX8_clear 4 (some Jvm.ClassFile.FieldType.int) ∈ gT := List.mem_filter.mpr ⟨List.mem_append_right _ ((List.mem_append_right _ (List.mem_append_left _ (List.mem_of_getElem? (i := 171) rfl))) : Cond.code yX8_clear cX8_clear 4 (some Jvm.ClassFile.FieldType.int) ∈ tables_1), rfl⟩
set_option maxRecDepth 100000 in
theorem cw_79 : Cond.code yX8_feed cX8_feed 6 (some Jvm.ClassFile.FieldType.int) ∈ gT := List.mem_filter.mpr ⟨List.mem_append_right _ ((List.mem_append_right _ (List.mem_append_left _ (List.mem_of_getElem? (i := 175) rfl))) : Cond.code yX8_feed cX8_feed 6 (some Jvm.ClassFile.FieldType.int) ∈ tables_1), rfl⟩
set_option maxRecDepth 100000 in
theorem cw_80 : Cond.code yX8_end cX8_end 2 (some Jvm.ClassFile.FieldType.int) ∈ gT := List.mem_filter.mpr ⟨List.mem_append_right _ ((List.mem_append_right _ (List.mem_append_left _ (List.mem_of_getElem? (i := 183) rfl))) : Cond.code yX8_end cX8_end 2 (some Jvm.ClassFile.FieldType.int) ∈ tables_1), rfl⟩
set_option maxRecDepth 100000 in
theorem cw_81 : Cond.code yX8_read cX8_read 3 (some Jvm.ClassFile.FieldType.int) ∈ gT := List.mem_filter.mpr ⟨List.mem_append_right _ ((List.mem_append_right _ (List.mem_append_left _ (List.mem_of_getElem? (i := 187) rfl))) : Cond.code yX8_read cX8_read 3 (some Jvm.ClassFile.FieldType.int) ∈ tables_1), rfl⟩
set_option maxRecDepth 100000 in
theorem cw_82 : Cond.code yX8_place cX8_place 1 (some Jvm.ClassFile.FieldType.int) ∈ gT := List.mem_filter.mpr ⟨List.mem_append_right _ ((List.mem_append_right _ (List.mem_append_right _ (List.mem_append_left _ (List.mem_of_getElem? (i := 79) rfl)))) : Cond.code yX8_place cX8_place 1 (some Jvm.ClassFile.FieldType.int) ∈ tables_1), rfl⟩
set_option maxRecDepth 100000 in
theorem cw_83 : Cond.code yX8_value cX8_value 5 (some Jvm.ClassFile.FieldType.int) ∈ gT := List.mem_filter.mpr ⟨List.mem_append_right _ ((List.mem_append_right _ (List.mem_append_right _ (List.mem_append_left _ (List.mem_of_getElem? (i := 83) rfl)))) : Cond.code yX8_value cX8_value 5 (some Jvm.ClassFile.FieldType.int) ∈ tables_1), rfl⟩
set_option maxRecDepth 100000 in
theorem cw_84 : Cond.code yX8_vector cX8_vector 2 (some Jvm.ClassFile.FieldType.int) ∈ gT := List.mem_filter.mpr ⟨List.mem_append_right _ ((List.mem_append_right _ (List.mem_append_right _ (List.mem_append_left _ (List.mem_of_getElem? (i := 157) rfl)))) : Cond.code yX8_vector cX8_vector 2 (some Jvm.ClassFile.FieldType.int) ∈ tables_1), rfl⟩
set_option maxRecDepth 100000 in
theorem cw_85 : Cond.code yX8_forget cX8_forget 2 (some Jvm.ClassFile.FieldType.int) ∈ gT := List.mem_filter.mpr ⟨List.mem_append_right _ ((List.mem_append_right _ (List.mem_append_right _ (List.mem_append_left _ (List.mem_of_getElem? (i := 170) rfl)))) : Cond.code yX8_forget cX8_forget 2 (some Jvm.ClassFile.FieldType.int) ∈ tables_1), rfl⟩
set_option maxRecDepth 100000 in
theorem cw_86 : Cond.code yX8_given cX8_given 2 (some Jvm.ClassFile.FieldType.int) ∈ gT := List.mem_filter.mpr ⟨List.mem_append_right _ ((List.mem_append_right _ (List.mem_append_right _ (List.mem_append_left _ (List.mem_of_getElem? (i := 174) rfl)))) : Cond.code yX8_given cX8_given 2 (some Jvm.ClassFile.FieldType.int) ∈ tables_1), rfl⟩
set_option maxRecDepth 100000 in
theorem cw_87 : Cond.code yX8_count cX8_count 2 (some Jvm.ClassFile.FieldType.int) ∈ gT := List.mem_filter.mpr ⟨List.mem_append_right _ ((List.mem_append_right _ (List.mem_append_right _ (List.mem_append_left _ (List.mem_of_getElem? (i := 178) rfl)))) : Cond.code yX8_count cX8_count 2 (some Jvm.ClassFile.FieldType.int) ∈ tables_1), rfl⟩
set_option maxRecDepth 100000 in
theorem cw_88 : Cond.code yX8_node cX8_node 3 (some Jvm.ClassFile.FieldType.int) ∈ gT := List.mem_filter.mpr ⟨List.mem_append_right _ ((List.mem_append_right _ (List.mem_append_right _ (List.mem_append_left _ (List.mem_of_getElem? (i := 198) rfl)))) : Cond.code yX8_node cX8_node 3 (some Jvm.ClassFile.FieldType.int) ∈ tables_1), rfl⟩
set_option maxRecDepth 100000 in
theorem cw_89 : Cond.code yX8_literal cX8_literal 4 (some Jvm.ClassFile.FieldType.int) ∈ gT := List.mem_filter.mpr ⟨List.mem_append_right _ ((List.mem_append_right _ (List.mem_append_right _ (List.mem_append_left _ (List.mem_of_getElem? (i := 206) rfl)))) : Cond.code yX8_literal cX8_literal 4 (some Jvm.ClassFile.FieldType.int) ∈ tables_1), rfl⟩
set_option maxRecDepth 100000 in
theorem cw_90 : Cond.code yX8_sweep cX8_sweep 1 (some Jvm.ClassFile.FieldType.int) ∈ gT := List.mem_filter.mpr ⟨List.mem_append_right _ ((List.mem_append_right _ (List.mem_append_right _ (List.mem_append_left _ (List.mem_of_getElem? (i := 210) rfl)))) : Cond.code yX8_sweep cX8_sweep 1 (some Jvm.ClassFile.FieldType.int) ∈ tables_1), rfl⟩
set_option maxRecDepth 100000 in
theorem cw_91 : Cond.code yX8_swept cX8_swept 2 (some Jvm.ClassFile.FieldType.int) ∈ gT := List.mem_filter.mpr ⟨List.mem_append_right _ ((List.mem_append_right _ (List.mem_append_right _ (List.mem_append_right _ (List.mem_append_left _ (List.mem_of_getElem? (i := 11) rfl))))) : Cond.code yX8_swept cX8_swept 2 (some Jvm.ClassFile.FieldType.int) ∈ tables_1), rfl⟩
set_option maxRecDepth 100000 in
theorem cw_92 : Cond.code yX8_told cX8_told 2 (some Jvm.ClassFile.FieldType.int) ∈ gT := List.mem_filter.mpr ⟨List.mem_append_right _ ((List.mem_append_right _ (List.mem_append_right _ (List.mem_append_right _ (List.mem_append_left _ (List.mem_of_getElem? (i := 15) rfl))))) : Cond.code yX8_told cX8_told 2 (some Jvm.ClassFile.FieldType.int) ∈ tables_1), rfl⟩
set_option maxRecDepth 100000 in
theorem cw_93 : Cond.code yX8_same cX8_same 2 (some Jvm.ClassFile.FieldType.int) ∈ gT := List.mem_filter.mpr ⟨List.mem_append_right _ ((List.mem_append_right _ (List.mem_append_right _ (List.mem_append_right _ (List.mem_append_left _ (List.mem_of_getElem? (i := 19) rfl))))) : Cond.code yX8_same cX8_same 2 (some Jvm.ClassFile.FieldType.int) ∈ tables_1), rfl⟩
set_option maxRecDepth 100000 in
theorem cw_94 : Cond.code yX8_differs cX8_differs 2 (some Jvm.ClassFile.FieldType.int) ∈ gT := List.mem_filter.mpr ⟨List.mem_append_right _ ((List.mem_append_right _ (List.mem_append_right _ (List.mem_append_right _ (List.mem_append_left _ (List.mem_of_getElem? (i := 32) rfl))))) : Cond.code yX8_differs cX8_differs 2 (some Jvm.ClassFile.FieldType.int) ∈ tables_1), rfl⟩
set_option maxRecDepth 100000 in
theorem cw_95 : Cond.code yX8_verdict cX8_verdict 2 (some Jvm.ClassFile.FieldType.int) ∈ gT := List.mem_filter.mpr ⟨List.mem_append_right _ ((List.mem_append_right _ (List.mem_append_right _ (List.mem_append_right _ (List.mem_append_left _ (List.mem_of_getElem? (i := 36) rfl))))) : Cond.code yX8_verdict cX8_verdict 2 (some Jvm.ClassFile.FieldType.int) ∈ tables_1), rfl⟩
set_option maxRecDepth 100000 in
theorem cw_96 : Cond.code yX8_circuitAt cX8_circuitAt 2 (some (Jvm.ClassFile.FieldType.object "SweepBench$Circuit")) ∈ gT := List.mem_filter.mpr ⟨List.mem_append_right _ ((List.mem_append_right _ (List.mem_append_left _ (List.mem_of_getElem? (i := 143) rfl))) : Cond.code yX8_circuitAt cX8_circuitAt 2 (some (Jvm.ClassFile.FieldType.object "SweepBench$Circuit")) ∈ tables_1), rfl⟩
set_option maxRecDepth 100000 in
theorem cw_97 : Cond.code yX8_isInputWord cX8_isInputWord 2 (some Jvm.ClassFile.FieldType.boolean) ∈ gT := List.mem_filter.mpr ⟨List.mem_append_right _ ((List.mem_append_right _ (List.mem_append_right _ (List.mem_append_left _ (List.mem_of_getElem? (i := 87) rfl)))) : Cond.code yX8_isInputWord cX8_isInputWord 2 (some Jvm.ClassFile.FieldType.boolean) ∈ tables_1), rfl⟩
set_option maxRecDepth 100000 in
theorem cw_98 : Cond.code yX8_noteMoreOfACircuit cX8_noteMoreOfACircuit 1 (none) ∈ gT := List.mem_filter.mpr ⟨List.mem_append_right _ ((List.mem_append_right _ (List.mem_append_left _ (List.mem_of_getElem? (i := 135) rfl))) : Cond.code yX8_noteMoreOfACircuit cX8_noteMoreOfACircuit 1 (none) ∈ tables_1), rfl⟩
set_option maxRecDepth 100000 in
theorem cw_99 : Cond.code yX8_noteNewCircuit cX8_noteNewCircuit 1 (none) ∈ gT := List.mem_filter.mpr ⟨List.mem_append_right _ ((List.mem_append_right _ (List.mem_append_left _ (List.mem_of_getElem? (i := 131) rfl))) : Cond.code yX8_noteNewCircuit cX8_noteNewCircuit 1 (none) ∈ tables_1), rfl⟩
set_option maxRecDepth 100000 in
theorem cw_100 : Cond.code yX8_bringUpGroups cX8_bringUpGroups 1 (none) ∈ gT := List.mem_filter.mpr ⟨List.mem_append_right _ ((List.mem_append_right _ (List.mem_append_right _ (List.mem_append_left _ (List.mem_of_getElem? (i := 182) rfl)))) : Cond.code yX8_bringUpGroups cX8_bringUpGroups 1 (none) ∈ tables_1), rfl⟩
set_option maxRecDepth 100000 in
theorem cw_101 : Cond.code yX8_bothHaveOut cX8_bothHaveOut 2 (some Jvm.ClassFile.FieldType.boolean) ∈ gT := List.mem_filter.mpr ⟨List.mem_append_right _ ((List.mem_append_right _ (List.mem_append_right _ (List.mem_append_right _ (List.mem_append_left _ (List.mem_of_getElem? (i := 23) rfl))))) : Cond.code yX8_bothHaveOut cX8_bothHaveOut 2 (some Jvm.ClassFile.FieldType.boolean) ∈ tables_1), rfl⟩
set_option maxRecDepth 100000 in
theorem cw_102 : Cond.code yX8_firstWordApart cX8_firstWordApart 4 (some Jvm.ClassFile.FieldType.int) ∈ gT := List.mem_filter.mpr ⟨List.mem_append_right _ ((List.mem_append_right _ (List.mem_append_right _ (List.mem_append_right _ (List.mem_append_left _ (List.mem_of_getElem? (i := 27) rfl))))) : Cond.code yX8_firstWordApart cX8_firstWordApart 4 (some Jvm.ClassFile.FieldType.int) ∈ tables_1), rfl⟩
set_option maxRecDepth 100000 in
theorem cw_103 : Cond.code yX9_init cX9_init 1 (none) ∈ gT := List.mem_filter.mpr ⟨List.mem_append_right _ ((List.mem_append_right _ (List.mem_append_right _ (List.mem_append_right _ (List.mem_append_left _ (List.mem_of_getElem? (i := 41) rfl))))) : Cond.code yX9_init cX9_init 1 (none) ∈ tables_1), rfl⟩
set_option maxRecDepth 100000 in
theorem cw_104 : Cond.code yX9_words cX9_words 1 (some Jvm.ClassFile.FieldType.int) ∈ gT := List.mem_filter.mpr ⟨List.mem_append_right _ ((List.mem_append_right _ (List.mem_append_right _ (List.mem_append_right _ (List.mem_append_right _ (List.mem_of_getElem? (i := 53) rfl))))) : Cond.code yX9_words cX9_words 1 (some Jvm.ClassFile.FieldType.int) ∈ tables_1), rfl⟩
set_option maxRecDepth 100000 in
theorem cw_105 : Cond.code yX9_isCircuit cX9_isCircuit 1 (some Jvm.ClassFile.FieldType.boolean) ∈ gT := List.mem_filter.mpr ⟨List.mem_append_right _ ((List.mem_append_right _ (List.mem_append_right _ (List.mem_append_right _ (List.mem_append_left _ (List.mem_of_getElem? (i := 195) rfl))))) : Cond.code yX9_isCircuit cX9_isCircuit 1 (some Jvm.ClassFile.FieldType.boolean) ∈ tables_1), rfl⟩
set_option maxRecDepth 100000 in
theorem cw_106 : Cond.code yX9_changed cX9_changed 1 (none) ∈ gT := List.mem_filter.mpr ⟨List.mem_append_right _ ((List.mem_append_right _ (List.mem_append_right _ (List.mem_append_right _ (List.mem_append_left _ (List.mem_of_getElem? (i := 184) rfl))))) : Cond.code yX9_changed cX9_changed 1 (none) ∈ tables_1), rfl⟩
set_option maxRecDepth 100000 in
theorem cw_107 : Cond.code yX9_empty cX9_empty 2 (none) ∈ gT := List.mem_filter.mpr ⟨List.mem_append_right _ ((List.mem_append_right _ (List.mem_append_right _ (List.mem_append_right _ (List.mem_append_left _ (List.mem_of_getElem? (i := 180) rfl))))) : Cond.code yX9_empty cX9_empty 2 (none) ∈ tables_1), rfl⟩
set_option maxRecDepth 100000 in
theorem cw_108 : Cond.code yX9_inputs cX9_inputs 2 (some Jvm.ClassFile.FieldType.boolean) ∈ gT := List.mem_filter.mpr ⟨List.mem_append_right _ ((List.mem_append_right _ (List.mem_append_right _ (List.mem_append_right _ (List.mem_append_left _ (List.mem_of_getElem? (i := 176) rfl))))) : Cond.code yX9_inputs cX9_inputs 2 (some Jvm.ClassFile.FieldType.boolean) ∈ tables_1), rfl⟩
set_option maxRecDepth 100000 in
theorem cw_109 : Cond.code yX9_has cX9_has 4 (some Jvm.ClassFile.FieldType.boolean) ∈ gT := List.mem_filter.mpr ⟨List.mem_append_right _ ((List.mem_append_right _ (List.mem_append_right _ (List.mem_append_right _ (List.mem_append_left _ (List.mem_of_getElem? (i := 199) rfl))))) : Cond.code yX9_has cX9_has 4 (some Jvm.ClassFile.FieldType.boolean) ∈ tables_1), rfl⟩
set_option maxRecDepth 100000 in
theorem cw_110 : Cond.code yX9_gate cX9_gate 8 (some Jvm.ClassFile.FieldType.int) ∈ gT := List.mem_filter.mpr ⟨List.mem_append_right _ ((List.mem_append_right _ (List.mem_append_right _ (List.mem_append_right _ (List.mem_append_left _ (List.mem_of_getElem? (i := 192) rfl))))) : Cond.code yX9_gate cX9_gate 8 (some Jvm.ClassFile.FieldType.int) ∈ tables_1), rfl⟩
set_option maxRecDepth 100000 in
theorem cw_111 : Cond.code yX9_output cX9_output 3 (some Jvm.ClassFile.FieldType.int) ∈ gT := List.mem_filter.mpr ⟨List.mem_append_right _ ((List.mem_append_right _ (List.mem_append_right _ (List.mem_append_right _ (List.mem_append_left _ (List.mem_of_getElem? (i := 203) rfl))))) : Cond.code yX9_output cX9_output 3 (some Jvm.ClassFile.FieldType.int) ∈ tables_1), rfl⟩
set_option maxRecDepth 100000 in
theorem cw_112 : Cond.code yX9_clear cX9_clear 3 (some Jvm.ClassFile.FieldType.int) ∈ gT := List.mem_filter.mpr ⟨List.mem_append_right _ ((List.mem_append_right _ (List.mem_append_right _ (List.mem_append_right _ (List.mem_append_left _ (List.mem_of_getElem? (i := 207) rfl))))) : Cond.code yX9_clear cX9_clear 3 (some Jvm.ClassFile.FieldType.int) ∈ tables_1), rfl⟩
set_option maxRecDepth 100000 in
theorem cw_113 : Cond.code yX9_feed cX9_feed 6 (some Jvm.ClassFile.FieldType.int) ∈ gT := List.mem_filter.mpr ⟨List.mem_append_right _ ((List.mem_append_right _ (List.mem_append_right _ (List.mem_append_right _ (List.mem_append_left _ (List.mem_of_getElem? (i := 211) rfl))))) : Cond.code yX9_feed cX9_feed 6 (some Jvm.ClassFile.FieldType.int) ∈ tables_1), rfl⟩
set_option maxRecDepth 100000 in
theorem cw_114 : Cond.code yX9_put cX9_put 3 (none) ∈ gT := List.mem_filter.mpr ⟨List.mem_append_right _ ((List.mem_append_right _ (List.mem_append_right _ (List.mem_append_right _ (List.mem_append_left _ (List.mem_of_getElem? (i := 215) rfl))))) : Cond.code yX9_put cX9_put 3 (none) ∈ tables_1), rfl⟩
set_option maxRecDepth 100000 in
theorem cw_115 : Cond.code yX9_end cX9_end 2 (some Jvm.ClassFile.FieldType.int) ∈ gT := List.mem_filter.mpr ⟨List.mem_append_right _ ((List.mem_append_right _ (List.mem_append_right _ (List.mem_append_right _ (List.mem_append_left _ (List.mem_of_getElem? (i := 219) rfl))))) : Cond.code yX9_end cX9_end 2 (some Jvm.ClassFile.FieldType.int) ∈ tables_1), rfl⟩
set_option maxRecDepth 100000 in
theorem cw_116 : Cond.code yX9_fails cX9_fails 3 (some Jvm.ClassFile.FieldType.boolean) ∈ gT := List.mem_filter.mpr ⟨List.mem_append_right _ ((List.mem_append_right _ (List.mem_append_right _ (List.mem_append_right _ (List.mem_append_left _ (List.mem_of_getElem? (i := 235) rfl))))) : Cond.code yX9_fails cX9_fails 3 (some Jvm.ClassFile.FieldType.boolean) ∈ tables_1), rfl⟩
set_option maxRecDepth 100000 in
theorem cw_117 : Cond.code yX9_is cX9_is 2 (some Jvm.ClassFile.FieldType.boolean) ∈ gT := List.mem_filter.mpr ⟨List.mem_append_right _ ((List.mem_append_right _ (List.mem_append_right _ (List.mem_append_right _ (List.mem_append_left _ (List.mem_of_getElem? (i := 231) rfl))))) : Cond.code yX9_is cX9_is 2 (some Jvm.ClassFile.FieldType.boolean) ∈ tables_1), rfl⟩
set_option maxRecDepth 100000 in
theorem cw_118 : Cond.code yX9_number cX9_number 2 (some Jvm.ClassFile.FieldType.boolean) ∈ gT := List.mem_filter.mpr ⟨List.mem_append_right _ ((List.mem_append_right _ (List.mem_append_right _ (List.mem_append_right _ (List.mem_append_left _ (List.mem_of_getElem? (i := 239) rfl))))) : Cond.code yX9_number cX9_number 2 (some Jvm.ClassFile.FieldType.boolean) ∈ tables_1), rfl⟩
set_option maxRecDepth 100000 in
theorem cw_119 : Cond.code yX9_firstLine cX9_firstLine 4 (some Jvm.ClassFile.FieldType.boolean) ∈ gT := List.mem_filter.mpr ⟨List.mem_append_right _ ((List.mem_append_right _ (List.mem_append_right _ (List.mem_append_right _ (List.mem_append_left _ (List.mem_of_getElem? (i := 227) rfl))))) : Cond.code yX9_firstLine cX9_firstLine 4 (some Jvm.ClassFile.FieldType.boolean) ∈ tables_1), rfl⟩
set_option maxRecDepth 100000 in
theorem cw_120 : Cond.code yX9_defines cX9_defines 4 (some Jvm.ClassFile.FieldType.boolean) ∈ gT := List.mem_filter.mpr ⟨List.mem_append_right _ ((List.mem_append_right _ (List.mem_append_right _ (List.mem_append_right _ (List.mem_append_right _ (List.mem_of_getElem? (i := 7) rfl))))) : Cond.code yX9_defines cX9_defines 4 (some Jvm.ClassFile.FieldType.boolean) ∈ tables_1), rfl⟩
set_option maxRecDepth 100000 in
theorem cw_121 : Cond.code yX9_uses cX9_uses 2 (some Jvm.ClassFile.FieldType.boolean) ∈ gT := List.mem_filter.mpr ⟨List.mem_append_right _ ((List.mem_append_right _ (List.mem_append_right _ (List.mem_append_right _ (List.mem_append_right _ (List.mem_of_getElem? (i := 11) rfl))))) : Cond.code yX9_uses cX9_uses 2 (some Jvm.ClassFile.FieldType.boolean) ∈ tables_1), rfl⟩
set_option maxRecDepth 100000 in
theorem cw_122 : Cond.code yX9_lines cX9_lines 3 (some Jvm.ClassFile.FieldType.boolean) ∈ gT := List.mem_filter.mpr ⟨List.mem_append_right _ ((List.mem_append_right _ (List.mem_append_right _ (List.mem_append_right _ (List.mem_append_right _ (List.mem_of_getElem? (i := 3) rfl))))) : Cond.code yX9_lines cX9_lines 3 (some Jvm.ClassFile.FieldType.boolean) ∈ tables_1), rfl⟩
set_option maxRecDepth 100000 in
theorem cw_123 : Cond.code yX9_at0 cX9_at0 2 (some Jvm.ClassFile.FieldType.int) ∈ gT := List.mem_filter.mpr ⟨List.mem_append_right _ ((List.mem_append_right _ (List.mem_append_right _ (List.mem_append_right _ (List.mem_append_right _ (List.mem_of_getElem? (i := 15) rfl))))) : Cond.code yX9_at0 cX9_at0 2 (some Jvm.ClassFile.FieldType.int) ∈ tables_1), rfl⟩
set_option maxRecDepth 100000 in
theorem cw_124 : Cond.code yX9_isDefined cX9_isDefined 2 (some Jvm.ClassFile.FieldType.boolean) ∈ gT := List.mem_filter.mpr ⟨List.mem_append_right _ ((List.mem_append_right _ (List.mem_append_right _ (List.mem_append_right _ (List.mem_append_right _ (List.mem_of_getElem? (i := 23) rfl))))) : Cond.code yX9_isDefined cX9_isDefined 2 (some Jvm.ClassFile.FieldType.boolean) ∈ tables_1), rfl⟩
set_option maxRecDepth 100000 in
theorem cw_125 : Cond.code yX9_allDefined cX9_allDefined 3 (some Jvm.ClassFile.FieldType.boolean) ∈ gT := List.mem_filter.mpr ⟨List.mem_append_right _ ((List.mem_append_right _ (List.mem_append_right _ (List.mem_append_right _ (List.mem_append_right _ (List.mem_of_getElem? (i := 19) rfl))))) : Cond.code yX9_allDefined cX9_allDefined 3 (some Jvm.ClassFile.FieldType.boolean) ∈ tables_1), rfl⟩
set_option maxRecDepth 100000 in
theorem cw_126 : Cond.code yX9_needsItself cX9_needsItself 4 (some Jvm.ClassFile.FieldType.boolean) ∈ gT := List.mem_filter.mpr ⟨List.mem_append_right _ ((List.mem_append_right _ (List.mem_append_right _ (List.mem_append_right _ (List.mem_append_right _ (List.mem_of_getElem? (i := 27) rfl))))) : Cond.code yX9_needsItself cX9_needsItself 4 (some Jvm.ClassFile.FieldType.boolean) ∈ tables_1), rfl⟩
set_option maxRecDepth 100000 in
theorem cw_127 : Cond.code yX9_mark cX9_mark 5 (some Jvm.ClassFile.FieldType.boolean) ∈ gT := List.mem_filter.mpr ⟨List.mem_append_right _ ((List.mem_append_right _ (List.mem_append_right _ (List.mem_append_right _ (List.mem_append_right _ (List.mem_of_getElem? (i := 31) rfl))))) : Cond.code yX9_mark cX9_mark 5 (some Jvm.ClassFile.FieldType.boolean) ∈ tables_1), rfl⟩
set_option maxRecDepth 100000 in
theorem cw_128 : Cond.code yX9_signalOf cX9_signalOf 3 (some Jvm.ClassFile.FieldType.int) ∈ gT := List.mem_filter.mpr ⟨List.mem_append_right _ ((List.mem_append_right _ (List.mem_append_right _ (List.mem_append_right _ (List.mem_append_right _ (List.mem_of_getElem? (i := 40) rfl))))) : Cond.code yX9_signalOf cX9_signalOf 3 (some Jvm.ClassFile.FieldType.int) ∈ tables_1), rfl⟩
set_option maxRecDepth 100000 in
theorem cw_129 : Cond.code yX9_becomes cX9_becomes 6 (none) ∈ gT := List.mem_filter.mpr ⟨List.mem_append_right _ ((List.mem_append_right _ (List.mem_append_right _ (List.mem_append_right _ (List.mem_append_right _ (List.mem_of_getElem? (i := 35) rfl))))) : Cond.code yX9_becomes cX9_becomes 6 (none) ∈ tables_1), rfl⟩
set_option maxRecDepth 100000 in
theorem cw_130 : Cond.code yX9_read cX9_read 4 (some Jvm.ClassFile.FieldType.int) ∈ gT := List.mem_filter.mpr ⟨List.mem_append_right _ ((List.mem_append_right _ (List.mem_append_right _ (List.mem_append_right _ (List.mem_append_left _ (List.mem_of_getElem? (i := 223) rfl))))) : Cond.code yX9_read cX9_read 4 (some Jvm.ClassFile.FieldType.int) ∈ tables_1), rfl⟩
set_option maxRecDepth 100000 in
theorem cw_131 : Cond.code yX9_place cX9_place 1 (some Jvm.ClassFile.FieldType.int) ∈ gT := List.mem_filter.mpr ⟨List.mem_append_right _ ((List.mem_append_right _ (List.mem_append_right _ (List.mem_append_right _ (List.mem_append_right _ (List.mem_of_getElem? (i := 45) rfl))))) : Cond.code yX9_place cX9_place 1 (some Jvm.ClassFile.FieldType.int) ∈ tables_1), rfl⟩
set_option maxRecDepth 100000 in
theorem cw_132 : Cond.code yX9_newNode cX9_newNode 3 (some Jvm.ClassFile.FieldType.int) ∈ gT := List.mem_filter.mpr ⟨List.mem_append_right _ ((List.mem_append_right _ (List.mem_append_right _ (List.mem_append_right _ (List.mem_append_right _ (List.mem_of_getElem? (i := 61) rfl))))) : Cond.code yX9_newNode cX9_newNode 3 (some Jvm.ClassFile.FieldType.int) ∈ tables_1), rfl⟩
set_option maxRecDepth 100000 in
theorem cw_133 : Cond.code yX9_bits cX9_bits 5 (some Jvm.ClassFile.FieldType.long) ∈ gT := List.mem_filter.mpr ⟨List.mem_append_right _ ((List.mem_append_right _ (List.mem_append_right _ (List.mem_append_right _ (List.mem_append_right _ (List.mem_of_getElem? (i := 77) rfl))))) : Cond.code yX9_bits cX9_bits 5 (some Jvm.ClassFile.FieldType.long) ∈ tables_1), rfl⟩
set_option maxRecDepth 100000 in
theorem cw_134 : Cond.code yX9_and cX9_and 7 (some Jvm.ClassFile.FieldType.int) ∈ gT := List.mem_filter.mpr ⟨List.mem_append_right _ ((List.mem_append_right _ (List.mem_append_right _ (List.mem_append_right _ (List.mem_append_right _ (List.mem_of_getElem? (i := 73) rfl))))) : Cond.code yX9_and cX9_and 7 (some Jvm.ClassFile.FieldType.int) ∈ tables_1), rfl⟩
set_option maxRecDepth 100000 in
theorem cw_135 : Cond.code yX9_side cX9_side 5 (some Jvm.ClassFile.FieldType.int) ∈ gT := List.mem_filter.mpr ⟨List.mem_append_right _ ((List.mem_append_right _ (List.mem_append_right _ (List.mem_append_right _ (List.mem_append_right _ (List.mem_of_getElem? (i := 69) rfl))))) : Cond.code yX9_side cX9_side 5 (some Jvm.ClassFile.FieldType.int) ∈ tables_1), rfl⟩
set_option maxRecDepth 100000 in
theorem cw_136 : Cond.code yX9_gateOf cX9_gateOf 9 (some Jvm.ClassFile.FieldType.int) ∈ gT := List.mem_filter.mpr ⟨List.mem_append_right _ ((List.mem_append_right _ (List.mem_append_right _ (List.mem_append_right _ (List.mem_append_right _ (List.mem_of_getElem? (i := 65) rfl))))) : Cond.code yX9_gateOf cX9_gateOf 9 (some Jvm.ClassFile.FieldType.int) ∈ tables_1), rfl⟩
set_option maxRecDepth 100000 in
theorem cw_137 : Cond.code yX9_graph cX9_graph 3 (none) ∈ gT := List.mem_filter.mpr ⟨List.mem_append_right _ ((List.mem_append_right _ (List.mem_append_right _ (List.mem_append_right _ (List.mem_append_right _ (List.mem_of_getElem? (i := 57) rfl))))) : Cond.code yX9_graph cX9_graph 3 (none) ∈ tables_1), rfl⟩
set_option maxRecDepth 100000 in
theorem cw_138 : Cond.code yX9_bit cX9_bit 3 (some Jvm.ClassFile.FieldType.boolean) ∈ gT := List.mem_filter.mpr ⟨List.mem_append_right _ ((List.mem_append_right _ (List.mem_append_right _ (List.mem_append_right _ (List.mem_append_right _ (List.mem_of_getElem? (i := 82) rfl))))) : Cond.code yX9_bit cX9_bit 3 (some Jvm.ClassFile.FieldType.boolean) ∈ tables_1), rfl⟩
set_option maxRecDepth 100000 in
theorem cw_139 : Cond.code yX9_unlike cX9_unlike 4 (some Jvm.ClassFile.FieldType.int) ∈ gT := List.mem_filter.mpr ⟨List.mem_append_right _ ((List.mem_append_right _ (List.mem_append_right _ (List.mem_append_right _ (List.mem_append_right _ (List.mem_of_getElem? (i := 131) rfl))))) : Cond.code yX9_unlike cX9_unlike 4 (some Jvm.ClassFile.FieldType.int) ∈ tables_1), rfl⟩
set_option maxRecDepth 100000 in
theorem cw_140 : Cond.code yX9_value cX9_value 4 (some Jvm.ClassFile.FieldType.int) ∈ gT := List.mem_filter.mpr ⟨List.mem_append_right _ ((List.mem_append_right _ (List.mem_append_right _ (List.mem_append_right _ (List.mem_append_right _ (List.mem_of_getElem? (i := 49) rfl))))) : Cond.code yX9_value cX9_value 4 (some Jvm.ClassFile.FieldType.int) ∈ tables_1), rfl⟩
set_option maxRecDepth 100000 in
theorem cw_141 : Cond.code yX9_isGiven cX9_isGiven 2 (some Jvm.ClassFile.FieldType.boolean) ∈ gT := List.mem_filter.mpr ⟨List.mem_append_right _ ((List.mem_append_right _ (List.mem_append_right _ (List.mem_append_right _ (List.mem_append_right _ (List.mem_of_getElem? (i := 90) rfl))))) : Cond.code yX9_isGiven cX9_isGiven 2 (some Jvm.ClassFile.FieldType.boolean) ∈ tables_1), rfl⟩
set_option maxRecDepth 100000 in
theorem cw_142 : Cond.code yX9_give cX9_give 2 (none) ∈ gT := List.mem_filter.mpr ⟨List.mem_append_right _ ((List.mem_append_right _ (List.mem_append_right _ (List.mem_append_right _ (List.mem_append_right _ (List.mem_of_getElem? (i := 94) rfl))))) : Cond.code yX9_give cX9_give 2 (none) ∈ tables_1), rfl⟩
set_option maxRecDepth 100000 in
theorem cw_143 : Cond.code yX9_vector cX9_vector 2 (some Jvm.ClassFile.FieldType.int) ∈ gT := List.mem_filter.mpr ⟨List.mem_append_right _ ((List.mem_append_right _ (List.mem_append_right _ (List.mem_append_right _ (List.mem_append_right _ (List.mem_of_getElem? (i := 86) rfl))))) : Cond.code yX9_vector cX9_vector 2 (some Jvm.ClassFile.FieldType.int) ∈ tables_1), rfl⟩
set_option maxRecDepth 100000 in
theorem cw_144 : Cond.code yX9_forget cX9_forget 3 (some Jvm.ClassFile.FieldType.int) ∈ gT := List.mem_filter.mpr ⟨List.mem_append_right _ ((List.mem_append_right _ (List.mem_append_right _ (List.mem_append_right _ (List.mem_append_left _ (List.mem_of_getElem? (i := 188) rfl))))) : Cond.code yX9_forget cX9_forget 3 (some Jvm.ClassFile.FieldType.int) ∈ tables_1), rfl⟩
set_option maxRecDepth 100000 in
theorem cw_145 : Cond.code yX9_given cX9_given 2 (some Jvm.ClassFile.FieldType.int) ∈ gT := List.mem_filter.mpr ⟨List.mem_append_right _ ((List.mem_append_right _ (List.mem_append_right _ (List.mem_append_right _ (List.mem_append_right _ (List.mem_of_getElem? (i := 99) rfl))))) : Cond.code yX9_given cX9_given 2 (some Jvm.ClassFile.FieldType.int) ∈ tables_1), rfl⟩
set_option maxRecDepth 100000 in
theorem cw_146 : Cond.code yX9_like cX9_like 8 (some Jvm.ClassFile.FieldType.int) ∈ gT := List.mem_filter.mpr ⟨List.mem_append_right _ ((List.mem_append_right _ (List.mem_append_right _ (List.mem_append_right _ (List.mem_append_right _ (List.mem_of_getElem? (i := 111) rfl))))) : Cond.code yX9_like cX9_like 8 (some Jvm.ClassFile.FieldType.int) ∈ tables_1), rfl⟩
set_option maxRecDepth 100000 in
theorem cw_147 : Cond.code yX9_leastLike cX9_leastLike 3 (some Jvm.ClassFile.FieldType.int) ∈ gT := List.mem_filter.mpr ⟨List.mem_append_right _ ((List.mem_append_right _ (List.mem_append_right _ (List.mem_append_right _ (List.mem_append_right _ (List.mem_of_getElem? (i := 107) rfl))))) : Cond.code yX9_leastLike cX9_leastLike 3 (some Jvm.ClassFile.FieldType.int) ∈ tables_1), rfl⟩
set_option maxRecDepth 100000 in
theorem cw_148 : Cond.code yX9_count cX9_count 4 (some Jvm.ClassFile.FieldType.int) ∈ gT := List.mem_filter.mpr ⟨List.mem_append_right _ ((List.mem_append_right _ (List.mem_append_right _ (List.mem_append_right _ (List.mem_append_right _ (List.mem_of_getElem? (i := 103) rfl))))) : Cond.code yX9_count cX9_count 4 (some Jvm.ClassFile.FieldType.int) ∈ tables_1), rfl⟩
set_option maxRecDepth 100000 in
theorem cw_149 : Cond.code yX9_node cX9_node 3 (some Jvm.ClassFile.FieldType.int) ∈ gT := List.mem_filter.mpr ⟨List.mem_append_right _ ((List.mem_append_right _ (List.mem_append_right _ (List.mem_append_right _ (List.mem_append_right _ (List.mem_of_getElem? (i := 115) rfl))))) : Cond.code yX9_node cX9_node 3 (some Jvm.ClassFile.FieldType.int) ∈ tables_1), rfl⟩
set_option maxRecDepth 100000 in
theorem cw_150 : Cond.code yX9_literal cX9_literal 3 (some Jvm.ClassFile.FieldType.int) ∈ gT := List.mem_filter.mpr ⟨List.mem_append_right _ ((List.mem_append_right _ (List.mem_append_right _ (List.mem_append_right _ (List.mem_append_right _ (List.mem_of_getElem? (i := 119) rfl))))) : Cond.code yX9_literal cX9_literal 3 (some Jvm.ClassFile.FieldType.int) ∈ tables_1), rfl⟩
set_option maxRecDepth 100000 in
theorem cw_151 : Cond.code yX9_candidate cX9_candidate 3 (some Jvm.ClassFile.FieldType.int) ∈ gT := List.mem_filter.mpr ⟨List.mem_append_right _ ((List.mem_append_right _ (List.mem_append_right _ (List.mem_append_right _ (List.mem_append_right _ (List.mem_of_getElem? (i := 127) rfl))))) : Cond.code yX9_candidate cX9_candidate 3 (some Jvm.ClassFile.FieldType.int) ∈ tables_1), rfl⟩
set_option maxRecDepth 100000 in
theorem cw_152 : Cond.code yX9_sweep cX9_sweep 6 (some Jvm.ClassFile.FieldType.int) ∈ gT := List.mem_filter.mpr ⟨List.mem_append_right _ ((List.mem_append_right _ (List.mem_append_right _ (List.mem_append_right _ (List.mem_append_right _ (List.mem_of_getElem? (i := 123) rfl))))) : Cond.code yX9_sweep cX9_sweep 6 (some Jvm.ClassFile.FieldType.int) ∈ tables_1), rfl⟩
set_option maxRecDepth 100000 in
theorem cw_153 : Cond.code yX9_need cX9_need 3 (none) ∈ gT := List.mem_filter.mpr ⟨List.mem_append_right _ ((List.mem_append_right _ (List.mem_append_right _ (List.mem_append_right _ (List.mem_append_right _ (List.mem_of_getElem? (i := 135) rfl))))) : Cond.code yX9_need cX9_need 3 (none) ∈ tables_1), rfl⟩
set_option maxRecDepth 100000 in
theorem cw_154 : Cond.code yX9_swept cX9_swept 2 (some Jvm.ClassFile.FieldType.int) ∈ gT := List.mem_filter.mpr ⟨List.mem_append_right _ ((List.mem_append_right _ (List.mem_append_right _ (List.mem_append_right _ (List.mem_append_right _ (List.mem_of_getElem? (i := 139) rfl))))) : Cond.code yX9_swept cX9_swept 2 (some Jvm.ClassFile.FieldType.int) ∈ tables_1), rfl⟩
set_option maxRecDepth 100000 in
theorem cw_155 : Cond.code yX9_told cX9_told 2 (some Jvm.ClassFile.FieldType.int) ∈ gT := List.mem_filter.mpr ⟨List.mem_append_right _ ((List.mem_append_right _ (List.mem_append_right _ (List.mem_append_right _ (List.mem_append_right _ (List.mem_of_getElem? (i := 143) rfl))))) : Cond.code yX9_told cX9_told 2 (some Jvm.ClassFile.FieldType.int) ∈ tables_1), rfl⟩
set_option maxRecDepth 100000 in
theorem cw_156 : Cond.code yX9_both cX9_both 2 (some Jvm.ClassFile.FieldType.boolean) ∈ gT := List.mem_filter.mpr ⟨List.mem_append_right _ ((List.mem_append_right _ (List.mem_append_right _ (List.mem_append_right _ (List.mem_append_right _ (List.mem_of_getElem? (i := 151) rfl))))) : Cond.code yX9_both cX9_both 2 (some Jvm.ClassFile.FieldType.boolean) ∈ tables_1), rfl⟩
set_option maxRecDepth 100000 in
theorem cw_157 : Cond.code yX9_differs cX9_differs 2 (some Jvm.ClassFile.FieldType.int) ∈ gT := List.mem_filter.mpr ⟨List.mem_append_right _ ((List.mem_append_right _ (List.mem_append_right _ (List.mem_append_right _ (List.mem_append_right _ (List.mem_of_getElem? (i := 147) rfl))))) : Cond.code yX9_differs cX9_differs 2 (some Jvm.ClassFile.FieldType.int) ∈ tables_1), rfl⟩
set_option maxRecDepth 100000 in
theorem cw_158 : Cond.code yX9_same cX9_same 2 (some Jvm.ClassFile.FieldType.int) ∈ gT := List.mem_filter.mpr ⟨List.mem_append_right _ ((List.mem_append_right _ (List.mem_append_right _ (List.mem_append_right _ (List.mem_append_right _ (List.mem_of_getElem? (i := 155) rfl))))) : Cond.code yX9_same cX9_same 2 (some Jvm.ClassFile.FieldType.int) ∈ tables_1), rfl⟩
set_option maxRecDepth 100000 in
theorem cw_159 : Cond.code yX9_verdict cX9_verdict 2 (some Jvm.ClassFile.FieldType.int) ∈ gT := List.mem_filter.mpr ⟨List.mem_append_right _ ((List.mem_append_right _ (List.mem_append_right _ (List.mem_append_right _ (List.mem_append_right _ (List.mem_of_getElem? (i := 160) rfl))))) : Cond.code yX9_verdict cX9_verdict 2 (some Jvm.ClassFile.FieldType.int) ∈ tables_1), rfl⟩
set_option maxRecDepth 100000 in
theorem cw_160 : Cond.code yJ13_bitCount_95d88 cJ13_bitCount_95d88 2 (some Jvm.ClassFile.FieldType.int) ∈ gT := List.mem_filter.mpr ⟨List.mem_append_right _ ((List.mem_append_right _ (List.mem_append_right _ (List.mem_append_left _ (List.mem_of_getElem? (i := 230) rfl)))) : Cond.code yJ13_bitCount_95d88 cJ13_bitCount_95d88 2 (some Jvm.ClassFile.FieldType.int) ∈ tables_1), rfl⟩
set_option maxRecDepth 100000 in
theorem cw_161 : Cond.code yJ7_fill_d0a16 cJ7_fill_d0a16 5 (none) ∈ gT := List.mem_filter.mpr ⟨List.mem_append_right _ ((List.mem_append_right _ (List.mem_append_left _ (List.mem_of_getElem? (i := 127) rfl))) : Cond.code yJ7_fill_d0a16 cJ7_fill_d0a16 5 (none) ∈ tables_1), rfl⟩
set_option maxRecDepth 100000 in
theorem cw_162 : Cond.code yJ7_fill_53178 cJ7_fill_53178 4 (none) ∈ gT := List.mem_filter.mpr ⟨List.mem_append_right _ ((List.mem_append_right _ (List.mem_append_left _ (List.mem_of_getElem? (i := 198) rfl))) : Cond.code yJ7_fill_53178 cJ7_fill_53178 4 (none) ∈ tables_1), rfl⟩
theorem mR1_code : ∀ e ∈ mR1, Cond.code e.1 e.2.1 e.2.2.1 e.2.2.2.1 ∈ gT := List.forall_mem_cons.mpr ⟨cw_1, List.forall_mem_cons.mpr ⟨cw_2, List.forall_mem_cons.mpr ⟨cw_3, List.forall_mem_cons.mpr ⟨cw_4, List.forall_mem_cons.mpr ⟨cw_5, List.forall_mem_cons.mpr ⟨cw_6, List.forall_mem_cons.mpr ⟨cw_7, List.forall_mem_cons.mpr ⟨cw_8, List.forall_mem_cons.mpr ⟨cw_9, List.forall_mem_cons.mpr ⟨cw_10, List.forall_mem_cons.mpr ⟨cw_11, List.forall_mem_cons.mpr ⟨cw_12, List.forall_mem_cons.mpr ⟨cw_13, List.forall_mem_cons.mpr ⟨cw_14, List.forall_mem_cons.mpr ⟨cw_15, List.forall_mem_cons.mpr ⟨cw_16, fun _ h => absurd h List.not_mem_nil⟩⟩⟩⟩⟩⟩⟩⟩⟩⟩⟩⟩⟩⟩⟩⟩
theorem mR2_code : ∀ e ∈ mR2, Cond.code e.1 e.2.1 e.2.2.1 e.2.2.2.1 ∈ gT := List.forall_mem_cons.mpr ⟨cw_17, List.forall_mem_cons.mpr ⟨cw_18, List.forall_mem_cons.mpr ⟨cw_19, List.forall_mem_cons.mpr ⟨cw_20, List.forall_mem_cons.mpr ⟨cw_21, List.forall_mem_cons.mpr ⟨cw_22, List.forall_mem_cons.mpr ⟨cw_23, List.forall_mem_cons.mpr ⟨cw_24, List.forall_mem_cons.mpr ⟨cw_25, List.forall_mem_cons.mpr ⟨cw_26, List.forall_mem_cons.mpr ⟨cw_27, List.forall_mem_cons.mpr ⟨cw_28, List.forall_mem_cons.mpr ⟨cw_29, List.forall_mem_cons.mpr ⟨cw_30, List.forall_mem_cons.mpr ⟨cw_31, List.forall_mem_cons.mpr ⟨cw_32, fun _ h => absurd h List.not_mem_nil⟩⟩⟩⟩⟩⟩⟩⟩⟩⟩⟩⟩⟩⟩⟩⟩
theorem mR3_code : ∀ e ∈ mR3, Cond.code e.1 e.2.1 e.2.2.1 e.2.2.2.1 ∈ gT := List.forall_mem_cons.mpr ⟨cw_33, List.forall_mem_cons.mpr ⟨cw_34, List.forall_mem_cons.mpr ⟨cw_35, List.forall_mem_cons.mpr ⟨cw_36, List.forall_mem_cons.mpr ⟨cw_37, List.forall_mem_cons.mpr ⟨cw_38, List.forall_mem_cons.mpr ⟨cw_39, List.forall_mem_cons.mpr ⟨cw_40, List.forall_mem_cons.mpr ⟨cw_41, List.forall_mem_cons.mpr ⟨cw_42, List.forall_mem_cons.mpr ⟨cw_43, List.forall_mem_cons.mpr ⟨cw_44, List.forall_mem_cons.mpr ⟨cw_45, List.forall_mem_cons.mpr ⟨cw_46, List.forall_mem_cons.mpr ⟨cw_47, List.forall_mem_cons.mpr ⟨cw_48, fun _ h => absurd h List.not_mem_nil⟩⟩⟩⟩⟩⟩⟩⟩⟩⟩⟩⟩⟩⟩⟩⟩
theorem mR4_code : ∀ e ∈ mR4, Cond.code e.1 e.2.1 e.2.2.1 e.2.2.2.1 ∈ gT := List.forall_mem_cons.mpr ⟨cw_49, List.forall_mem_cons.mpr ⟨cw_50, List.forall_mem_cons.mpr ⟨cw_51, List.forall_mem_cons.mpr ⟨cw_52, List.forall_mem_cons.mpr ⟨cw_53, List.forall_mem_cons.mpr ⟨cw_54, List.forall_mem_cons.mpr ⟨cw_55, List.forall_mem_cons.mpr ⟨cw_56, List.forall_mem_cons.mpr ⟨cw_57, List.forall_mem_cons.mpr ⟨cw_58, List.forall_mem_cons.mpr ⟨cw_59, List.forall_mem_cons.mpr ⟨cw_60, List.forall_mem_cons.mpr ⟨cw_61, List.forall_mem_cons.mpr ⟨cw_62, List.forall_mem_cons.mpr ⟨cw_63, List.forall_mem_cons.mpr ⟨cw_64, fun _ h => absurd h List.not_mem_nil⟩⟩⟩⟩⟩⟩⟩⟩⟩⟩⟩⟩⟩⟩⟩⟩
theorem mR5_code : ∀ e ∈ mR5, Cond.code e.1 e.2.1 e.2.2.1 e.2.2.2.1 ∈ gT := List.forall_mem_cons.mpr ⟨cw_65, List.forall_mem_cons.mpr ⟨cw_66, List.forall_mem_cons.mpr ⟨cw_67, List.forall_mem_cons.mpr ⟨cw_68, List.forall_mem_cons.mpr ⟨cw_69, List.forall_mem_cons.mpr ⟨cw_70, List.forall_mem_cons.mpr ⟨cw_71, List.forall_mem_cons.mpr ⟨cw_72, List.forall_mem_cons.mpr ⟨cw_73, List.forall_mem_cons.mpr ⟨cw_74, List.forall_mem_cons.mpr ⟨cw_75, List.forall_mem_cons.mpr ⟨cw_76, List.forall_mem_cons.mpr ⟨cw_77, List.forall_mem_cons.mpr ⟨cw_78, List.forall_mem_cons.mpr ⟨cw_79, List.forall_mem_cons.mpr ⟨cw_80, fun _ h => absurd h List.not_mem_nil⟩⟩⟩⟩⟩⟩⟩⟩⟩⟩⟩⟩⟩⟩⟩⟩
theorem mR6_code : ∀ e ∈ mR6, Cond.code e.1 e.2.1 e.2.2.1 e.2.2.2.1 ∈ gT := List.forall_mem_cons.mpr ⟨cw_81, List.forall_mem_cons.mpr ⟨cw_82, List.forall_mem_cons.mpr ⟨cw_83, List.forall_mem_cons.mpr ⟨cw_84, List.forall_mem_cons.mpr ⟨cw_85, List.forall_mem_cons.mpr ⟨cw_86, List.forall_mem_cons.mpr ⟨cw_87, List.forall_mem_cons.mpr ⟨cw_88, List.forall_mem_cons.mpr ⟨cw_89, List.forall_mem_cons.mpr ⟨cw_90, List.forall_mem_cons.mpr ⟨cw_91, List.forall_mem_cons.mpr ⟨cw_92, List.forall_mem_cons.mpr ⟨cw_93, List.forall_mem_cons.mpr ⟨cw_94, List.forall_mem_cons.mpr ⟨cw_95, List.forall_mem_cons.mpr ⟨cw_96, fun _ h => absurd h List.not_mem_nil⟩⟩⟩⟩⟩⟩⟩⟩⟩⟩⟩⟩⟩⟩⟩⟩
theorem mR7_code : ∀ e ∈ mR7, Cond.code e.1 e.2.1 e.2.2.1 e.2.2.2.1 ∈ gT := List.forall_mem_cons.mpr ⟨cw_97, List.forall_mem_cons.mpr ⟨cw_98, List.forall_mem_cons.mpr ⟨cw_99, List.forall_mem_cons.mpr ⟨cw_100, List.forall_mem_cons.mpr ⟨cw_101, List.forall_mem_cons.mpr ⟨cw_102, List.forall_mem_cons.mpr ⟨cw_103, List.forall_mem_cons.mpr ⟨cw_104, List.forall_mem_cons.mpr ⟨cw_105, List.forall_mem_cons.mpr ⟨cw_106, List.forall_mem_cons.mpr ⟨cw_107, List.forall_mem_cons.mpr ⟨cw_108, List.forall_mem_cons.mpr ⟨cw_109, List.forall_mem_cons.mpr ⟨cw_110, List.forall_mem_cons.mpr ⟨cw_111, List.forall_mem_cons.mpr ⟨cw_112, fun _ h => absurd h List.not_mem_nil⟩⟩⟩⟩⟩⟩⟩⟩⟩⟩⟩⟩⟩⟩⟩⟩
theorem mR8_code : ∀ e ∈ mR8, Cond.code e.1 e.2.1 e.2.2.1 e.2.2.2.1 ∈ gT := List.forall_mem_cons.mpr ⟨cw_113, List.forall_mem_cons.mpr ⟨cw_114, List.forall_mem_cons.mpr ⟨cw_115, List.forall_mem_cons.mpr ⟨cw_116, List.forall_mem_cons.mpr ⟨cw_117, List.forall_mem_cons.mpr ⟨cw_118, List.forall_mem_cons.mpr ⟨cw_119, List.forall_mem_cons.mpr ⟨cw_120, List.forall_mem_cons.mpr ⟨cw_121, List.forall_mem_cons.mpr ⟨cw_122, List.forall_mem_cons.mpr ⟨cw_123, List.forall_mem_cons.mpr ⟨cw_124, List.forall_mem_cons.mpr ⟨cw_125, List.forall_mem_cons.mpr ⟨cw_126, List.forall_mem_cons.mpr ⟨cw_127, List.forall_mem_cons.mpr ⟨cw_128, fun _ h => absurd h List.not_mem_nil⟩⟩⟩⟩⟩⟩⟩⟩⟩⟩⟩⟩⟩⟩⟩⟩
theorem mR9_code : ∀ e ∈ mR9, Cond.code e.1 e.2.1 e.2.2.1 e.2.2.2.1 ∈ gT := List.forall_mem_cons.mpr ⟨cw_129, List.forall_mem_cons.mpr ⟨cw_130, List.forall_mem_cons.mpr ⟨cw_131, List.forall_mem_cons.mpr ⟨cw_132, List.forall_mem_cons.mpr ⟨cw_133, List.forall_mem_cons.mpr ⟨cw_134, List.forall_mem_cons.mpr ⟨cw_135, List.forall_mem_cons.mpr ⟨cw_136, List.forall_mem_cons.mpr ⟨cw_137, List.forall_mem_cons.mpr ⟨cw_138, List.forall_mem_cons.mpr ⟨cw_139, List.forall_mem_cons.mpr ⟨cw_140, List.forall_mem_cons.mpr ⟨cw_141, List.forall_mem_cons.mpr ⟨cw_142, List.forall_mem_cons.mpr ⟨cw_143, List.forall_mem_cons.mpr ⟨cw_144, fun _ h => absurd h List.not_mem_nil⟩⟩⟩⟩⟩⟩⟩⟩⟩⟩⟩⟩⟩⟩⟩⟩
theorem mR10_code : ∀ e ∈ mR10, Cond.code e.1 e.2.1 e.2.2.1 e.2.2.2.1 ∈ gT := List.forall_mem_cons.mpr ⟨cw_145, List.forall_mem_cons.mpr ⟨cw_146, List.forall_mem_cons.mpr ⟨cw_147, List.forall_mem_cons.mpr ⟨cw_148, List.forall_mem_cons.mpr ⟨cw_149, List.forall_mem_cons.mpr ⟨cw_150, List.forall_mem_cons.mpr ⟨cw_151, List.forall_mem_cons.mpr ⟨cw_152, List.forall_mem_cons.mpr ⟨cw_153, List.forall_mem_cons.mpr ⟨cw_154, List.forall_mem_cons.mpr ⟨cw_155, List.forall_mem_cons.mpr ⟨cw_156, List.forall_mem_cons.mpr ⟨cw_157, List.forall_mem_cons.mpr ⟨cw_158, List.forall_mem_cons.mpr ⟨cw_159, List.forall_mem_cons.mpr ⟨cw_160, fun _ h => absurd h List.not_mem_nil⟩⟩⟩⟩⟩⟩⟩⟩⟩⟩⟩⟩⟩⟩⟩⟩
theorem mR11_code : ∀ e ∈ mR11, Cond.code e.1 e.2.1 e.2.2.1 e.2.2.2.1 ∈ gT := List.forall_mem_cons.mpr ⟨cw_161, List.forall_mem_cons.mpr ⟨cw_162, fun _ h => absurd h List.not_mem_nil⟩⟩
theorem mRest_code : ∀ e ∈ mRest, Cond.code e.1 e.2.1 e.2.2.1 e.2.2.2.1 ∈ gT := List.forall_mem_append.mpr ⟨mR1_code, List.forall_mem_append.mpr ⟨mR2_code, List.forall_mem_append.mpr ⟨mR3_code, List.forall_mem_append.mpr ⟨mR4_code, List.forall_mem_append.mpr ⟨mR5_code, List.forall_mem_append.mpr ⟨mR6_code, List.forall_mem_append.mpr ⟨mR7_code, List.forall_mem_append.mpr ⟨mR8_code, List.forall_mem_append.mpr ⟨mR9_code, List.forall_mem_append.mpr ⟨mR10_code, mR11_code⟩⟩⟩⟩⟩⟩⟩⟩⟩⟩
set_option maxRecDepth 100000 in
theorem ftab_ok : ∀ e ∈ ftab, e.2.1 < 10 ∧ e.2.2.1 < clN e.2.1 ∧ lw_tbl[e.2.2.2]? = some (.fieldLink (oN (e.1 / 1000)) (e.1 % 1000) (clT e.2.1 e.2.2.1).1 (clT e.2.1 e.2.2.1).2.1 (clT e.2.1 e.2.2.1).2.2.1) := by decide +kernel
set_option maxRecDepth 100000 in
theorem ntab_ok : ∀ e ∈ ntab, e.2.1 < 10 ∧ lw_tbl[e.2.2]? = some (.classLink (oN (e.1 / 1000)) (e.1 % 1000) (clR e.2.1)) := by decide +kernel
set_option maxRecDepth 100000 in
theorem ltab_ok : ∀ e ∈ ltab, lw_tbl[e.2.2]? = some (.constantLong (oN (e.1 / 1000)) (e.1 % 1000) e.2.1) := by decide +kernel
set_option maxRecDepth 100000 in
theorem cpos_ok : ∀ ci, ci < 10 → lw_tbl[(cpos.getD ci (0, 0)).1]? = some (.instantiable (clR ci) (clN ci)) ∧ lw_tbl[(cpos.getD ci (0, 0)).2]? = some (.initialized (clR ci)) := by decide +kernel

set_option maxRecDepth 100000 in
theorem ct1_ok : ∀ e ∈ ct1, 1 ≤ e.2.1 ∧ e.2.1 ≤ 7 ∧ (e.2.1 = 6 → lw_tbl[e.2.2.2.2]? = some (.methodLink (oN (e.1 / 1000)) (e.1 % 1000) Lib.Math.max.name)) ∧ (e.2.1 = 7 → lw_tbl[e.2.2.2.2]? = some (.methodLink (oN (e.1 / 1000)) (e.1 % 1000) Lib.Math.min.name)) ∧ (e.2.1 = 4 → lw_tbl[e.2.2.2.2]? = some (.methodLink (oN (e.1 / 1000)) (e.1 % 1000) objectInit)) ∧ (e.2.1 ≠ 4 → e.2.1 ≤ 5 → 0 < e.2.2.1 ∧ e.2.2.1 < 163 ∧ (parseMethodDescriptor (mY e.2.2.1).desc).map (fun d => d.parameters.length) = some e.2.2.2.1) ∧
    (e.2.1 = 1 ∨ e.2.1 = 2 ∨ e.2.1 = 3 → lw_tbl[e.2.2.2.2]? = some (.methodLink (oN (e.1 / 1000)) (e.1 % 1000) (mY e.2.2.1))) ∧ (e.2.1 = 5 → lw_tbl[e.2.2.2.2]? = some (.methodLinkNest (oN (e.1 / 1000)) (e.1 % 1000) (mY e.2.2.1) RX8)) ∧
    (e.2.1 = 1 → lw_tbl[(mE e.2.2.1).2.2.2.2.2.2.2.1]? = some (.instanceMethod (mY e.2.2.1)) ∧ lw_tbl[(mE e.2.2.1).2.2.2.2.2.2.2.2]? = some (.selects (mY e.2.2.1).cls (mY e.2.2.1) (mY e.2.2.1))) ∧ (e.2.1 = 2 → lw_tbl[(mE e.2.2.1).2.2.2.2.2.2.2.1]? = some (.static (mY e.2.2.1))) ∧
    (e.2.1 = 3 ∨ e.2.1 = 5 → lw_tbl[(mE e.2.2.1).2.2.2.2.2.2.2.1]? = some (.instanceMethod (mY e.2.2.1)) ∧ (mY e.2.2.1).name = "<init>") := by decide +kernel
set_option maxRecDepth 100000 in
theorem ct2_ok : ∀ e ∈ ct2, 1 ≤ e.2.1 ∧ e.2.1 ≤ 7 ∧ (e.2.1 = 6 → lw_tbl[e.2.2.2.2]? = some (.methodLink (oN (e.1 / 1000)) (e.1 % 1000) Lib.Math.max.name)) ∧ (e.2.1 = 7 → lw_tbl[e.2.2.2.2]? = some (.methodLink (oN (e.1 / 1000)) (e.1 % 1000) Lib.Math.min.name)) ∧ (e.2.1 = 4 → lw_tbl[e.2.2.2.2]? = some (.methodLink (oN (e.1 / 1000)) (e.1 % 1000) objectInit)) ∧ (e.2.1 ≠ 4 → e.2.1 ≤ 5 → 0 < e.2.2.1 ∧ e.2.2.1 < 163 ∧ (parseMethodDescriptor (mY e.2.2.1).desc).map (fun d => d.parameters.length) = some e.2.2.2.1) ∧
    (e.2.1 = 1 ∨ e.2.1 = 2 ∨ e.2.1 = 3 → lw_tbl[e.2.2.2.2]? = some (.methodLink (oN (e.1 / 1000)) (e.1 % 1000) (mY e.2.2.1))) ∧ (e.2.1 = 5 → lw_tbl[e.2.2.2.2]? = some (.methodLinkNest (oN (e.1 / 1000)) (e.1 % 1000) (mY e.2.2.1) RX8)) ∧
    (e.2.1 = 1 → lw_tbl[(mE e.2.2.1).2.2.2.2.2.2.2.1]? = some (.instanceMethod (mY e.2.2.1)) ∧ lw_tbl[(mE e.2.2.1).2.2.2.2.2.2.2.2]? = some (.selects (mY e.2.2.1).cls (mY e.2.2.1) (mY e.2.2.1))) ∧ (e.2.1 = 2 → lw_tbl[(mE e.2.2.1).2.2.2.2.2.2.2.1]? = some (.static (mY e.2.2.1))) ∧
    (e.2.1 = 3 ∨ e.2.1 = 5 → lw_tbl[(mE e.2.2.1).2.2.2.2.2.2.2.1]? = some (.instanceMethod (mY e.2.2.1)) ∧ (mY e.2.2.1).name = "<init>") := by decide +kernel
set_option maxRecDepth 100000 in
theorem ct3_ok : ∀ e ∈ ct3, 1 ≤ e.2.1 ∧ e.2.1 ≤ 7 ∧ (e.2.1 = 6 → lw_tbl[e.2.2.2.2]? = some (.methodLink (oN (e.1 / 1000)) (e.1 % 1000) Lib.Math.max.name)) ∧ (e.2.1 = 7 → lw_tbl[e.2.2.2.2]? = some (.methodLink (oN (e.1 / 1000)) (e.1 % 1000) Lib.Math.min.name)) ∧ (e.2.1 = 4 → lw_tbl[e.2.2.2.2]? = some (.methodLink (oN (e.1 / 1000)) (e.1 % 1000) objectInit)) ∧ (e.2.1 ≠ 4 → e.2.1 ≤ 5 → 0 < e.2.2.1 ∧ e.2.2.1 < 163 ∧ (parseMethodDescriptor (mY e.2.2.1).desc).map (fun d => d.parameters.length) = some e.2.2.2.1) ∧
    (e.2.1 = 1 ∨ e.2.1 = 2 ∨ e.2.1 = 3 → lw_tbl[e.2.2.2.2]? = some (.methodLink (oN (e.1 / 1000)) (e.1 % 1000) (mY e.2.2.1))) ∧ (e.2.1 = 5 → lw_tbl[e.2.2.2.2]? = some (.methodLinkNest (oN (e.1 / 1000)) (e.1 % 1000) (mY e.2.2.1) RX8)) ∧
    (e.2.1 = 1 → lw_tbl[(mE e.2.2.1).2.2.2.2.2.2.2.1]? = some (.instanceMethod (mY e.2.2.1)) ∧ lw_tbl[(mE e.2.2.1).2.2.2.2.2.2.2.2]? = some (.selects (mY e.2.2.1).cls (mY e.2.2.1) (mY e.2.2.1))) ∧ (e.2.1 = 2 → lw_tbl[(mE e.2.2.1).2.2.2.2.2.2.2.1]? = some (.static (mY e.2.2.1))) ∧
    (e.2.1 = 3 ∨ e.2.1 = 5 → lw_tbl[(mE e.2.2.1).2.2.2.2.2.2.2.1]? = some (.instanceMethod (mY e.2.2.1)) ∧ (mY e.2.2.1).name = "<init>") := by decide +kernel
set_option maxRecDepth 100000 in
theorem ct4_ok : ∀ e ∈ ct4, 1 ≤ e.2.1 ∧ e.2.1 ≤ 7 ∧ (e.2.1 = 6 → lw_tbl[e.2.2.2.2]? = some (.methodLink (oN (e.1 / 1000)) (e.1 % 1000) Lib.Math.max.name)) ∧ (e.2.1 = 7 → lw_tbl[e.2.2.2.2]? = some (.methodLink (oN (e.1 / 1000)) (e.1 % 1000) Lib.Math.min.name)) ∧ (e.2.1 = 4 → lw_tbl[e.2.2.2.2]? = some (.methodLink (oN (e.1 / 1000)) (e.1 % 1000) objectInit)) ∧ (e.2.1 ≠ 4 → e.2.1 ≤ 5 → 0 < e.2.2.1 ∧ e.2.2.1 < 163 ∧ (parseMethodDescriptor (mY e.2.2.1).desc).map (fun d => d.parameters.length) = some e.2.2.2.1) ∧
    (e.2.1 = 1 ∨ e.2.1 = 2 ∨ e.2.1 = 3 → lw_tbl[e.2.2.2.2]? = some (.methodLink (oN (e.1 / 1000)) (e.1 % 1000) (mY e.2.2.1))) ∧ (e.2.1 = 5 → lw_tbl[e.2.2.2.2]? = some (.methodLinkNest (oN (e.1 / 1000)) (e.1 % 1000) (mY e.2.2.1) RX8)) ∧
    (e.2.1 = 1 → lw_tbl[(mE e.2.2.1).2.2.2.2.2.2.2.1]? = some (.instanceMethod (mY e.2.2.1)) ∧ lw_tbl[(mE e.2.2.1).2.2.2.2.2.2.2.2]? = some (.selects (mY e.2.2.1).cls (mY e.2.2.1) (mY e.2.2.1))) ∧ (e.2.1 = 2 → lw_tbl[(mE e.2.2.1).2.2.2.2.2.2.2.1]? = some (.static (mY e.2.2.1))) ∧
    (e.2.1 = 3 ∨ e.2.1 = 5 → lw_tbl[(mE e.2.2.1).2.2.2.2.2.2.2.1]? = some (.instanceMethod (mY e.2.2.1)) ∧ (mY e.2.2.1).name = "<init>") := by decide +kernel
set_option maxRecDepth 100000 in
theorem ct5_ok : ∀ e ∈ ct5, 1 ≤ e.2.1 ∧ e.2.1 ≤ 7 ∧ (e.2.1 = 6 → lw_tbl[e.2.2.2.2]? = some (.methodLink (oN (e.1 / 1000)) (e.1 % 1000) Lib.Math.max.name)) ∧ (e.2.1 = 7 → lw_tbl[e.2.2.2.2]? = some (.methodLink (oN (e.1 / 1000)) (e.1 % 1000) Lib.Math.min.name)) ∧ (e.2.1 = 4 → lw_tbl[e.2.2.2.2]? = some (.methodLink (oN (e.1 / 1000)) (e.1 % 1000) objectInit)) ∧ (e.2.1 ≠ 4 → e.2.1 ≤ 5 → 0 < e.2.2.1 ∧ e.2.2.1 < 163 ∧ (parseMethodDescriptor (mY e.2.2.1).desc).map (fun d => d.parameters.length) = some e.2.2.2.1) ∧
    (e.2.1 = 1 ∨ e.2.1 = 2 ∨ e.2.1 = 3 → lw_tbl[e.2.2.2.2]? = some (.methodLink (oN (e.1 / 1000)) (e.1 % 1000) (mY e.2.2.1))) ∧ (e.2.1 = 5 → lw_tbl[e.2.2.2.2]? = some (.methodLinkNest (oN (e.1 / 1000)) (e.1 % 1000) (mY e.2.2.1) RX8)) ∧
    (e.2.1 = 1 → lw_tbl[(mE e.2.2.1).2.2.2.2.2.2.2.1]? = some (.instanceMethod (mY e.2.2.1)) ∧ lw_tbl[(mE e.2.2.1).2.2.2.2.2.2.2.2]? = some (.selects (mY e.2.2.1).cls (mY e.2.2.1) (mY e.2.2.1))) ∧ (e.2.1 = 2 → lw_tbl[(mE e.2.2.1).2.2.2.2.2.2.2.1]? = some (.static (mY e.2.2.1))) ∧
    (e.2.1 = 3 ∨ e.2.1 = 5 → lw_tbl[(mE e.2.2.1).2.2.2.2.2.2.2.1]? = some (.instanceMethod (mY e.2.2.1)) ∧ (mY e.2.2.1).name = "<init>") := by decide +kernel
set_option maxRecDepth 100000 in
theorem ct6_ok : ∀ e ∈ ct6, 1 ≤ e.2.1 ∧ e.2.1 ≤ 7 ∧ (e.2.1 = 6 → lw_tbl[e.2.2.2.2]? = some (.methodLink (oN (e.1 / 1000)) (e.1 % 1000) Lib.Math.max.name)) ∧ (e.2.1 = 7 → lw_tbl[e.2.2.2.2]? = some (.methodLink (oN (e.1 / 1000)) (e.1 % 1000) Lib.Math.min.name)) ∧ (e.2.1 = 4 → lw_tbl[e.2.2.2.2]? = some (.methodLink (oN (e.1 / 1000)) (e.1 % 1000) objectInit)) ∧ (e.2.1 ≠ 4 → e.2.1 ≤ 5 → 0 < e.2.2.1 ∧ e.2.2.1 < 163 ∧ (parseMethodDescriptor (mY e.2.2.1).desc).map (fun d => d.parameters.length) = some e.2.2.2.1) ∧
    (e.2.1 = 1 ∨ e.2.1 = 2 ∨ e.2.1 = 3 → lw_tbl[e.2.2.2.2]? = some (.methodLink (oN (e.1 / 1000)) (e.1 % 1000) (mY e.2.2.1))) ∧ (e.2.1 = 5 → lw_tbl[e.2.2.2.2]? = some (.methodLinkNest (oN (e.1 / 1000)) (e.1 % 1000) (mY e.2.2.1) RX8)) ∧
    (e.2.1 = 1 → lw_tbl[(mE e.2.2.1).2.2.2.2.2.2.2.1]? = some (.instanceMethod (mY e.2.2.1)) ∧ lw_tbl[(mE e.2.2.1).2.2.2.2.2.2.2.2]? = some (.selects (mY e.2.2.1).cls (mY e.2.2.1) (mY e.2.2.1))) ∧ (e.2.1 = 2 → lw_tbl[(mE e.2.2.1).2.2.2.2.2.2.2.1]? = some (.static (mY e.2.2.1))) ∧
    (e.2.1 = 3 ∨ e.2.1 = 5 → lw_tbl[(mE e.2.2.1).2.2.2.2.2.2.2.1]? = some (.instanceMethod (mY e.2.2.1)) ∧ (mY e.2.2.1).name = "<init>") := by decide +kernel
set_option maxRecDepth 100000 in
theorem ct7_ok : ∀ e ∈ ct7, 1 ≤ e.2.1 ∧ e.2.1 ≤ 7 ∧ (e.2.1 = 6 → lw_tbl[e.2.2.2.2]? = some (.methodLink (oN (e.1 / 1000)) (e.1 % 1000) Lib.Math.max.name)) ∧ (e.2.1 = 7 → lw_tbl[e.2.2.2.2]? = some (.methodLink (oN (e.1 / 1000)) (e.1 % 1000) Lib.Math.min.name)) ∧ (e.2.1 = 4 → lw_tbl[e.2.2.2.2]? = some (.methodLink (oN (e.1 / 1000)) (e.1 % 1000) objectInit)) ∧ (e.2.1 ≠ 4 → e.2.1 ≤ 5 → 0 < e.2.2.1 ∧ e.2.2.1 < 163 ∧ (parseMethodDescriptor (mY e.2.2.1).desc).map (fun d => d.parameters.length) = some e.2.2.2.1) ∧
    (e.2.1 = 1 ∨ e.2.1 = 2 ∨ e.2.1 = 3 → lw_tbl[e.2.2.2.2]? = some (.methodLink (oN (e.1 / 1000)) (e.1 % 1000) (mY e.2.2.1))) ∧ (e.2.1 = 5 → lw_tbl[e.2.2.2.2]? = some (.methodLinkNest (oN (e.1 / 1000)) (e.1 % 1000) (mY e.2.2.1) RX8)) ∧
    (e.2.1 = 1 → lw_tbl[(mE e.2.2.1).2.2.2.2.2.2.2.1]? = some (.instanceMethod (mY e.2.2.1)) ∧ lw_tbl[(mE e.2.2.1).2.2.2.2.2.2.2.2]? = some (.selects (mY e.2.2.1).cls (mY e.2.2.1) (mY e.2.2.1))) ∧ (e.2.1 = 2 → lw_tbl[(mE e.2.2.1).2.2.2.2.2.2.2.1]? = some (.static (mY e.2.2.1))) ∧
    (e.2.1 = 3 ∨ e.2.1 = 5 → lw_tbl[(mE e.2.2.1).2.2.2.2.2.2.2.1]? = some (.instanceMethod (mY e.2.2.1)) ∧ (mY e.2.2.1).name = "<init>") := by decide +kernel
set_option maxRecDepth 100000 in
theorem ct8_ok : ∀ e ∈ ct8, 1 ≤ e.2.1 ∧ e.2.1 ≤ 7 ∧ (e.2.1 = 6 → lw_tbl[e.2.2.2.2]? = some (.methodLink (oN (e.1 / 1000)) (e.1 % 1000) Lib.Math.max.name)) ∧ (e.2.1 = 7 → lw_tbl[e.2.2.2.2]? = some (.methodLink (oN (e.1 / 1000)) (e.1 % 1000) Lib.Math.min.name)) ∧ (e.2.1 = 4 → lw_tbl[e.2.2.2.2]? = some (.methodLink (oN (e.1 / 1000)) (e.1 % 1000) objectInit)) ∧ (e.2.1 ≠ 4 → e.2.1 ≤ 5 → 0 < e.2.2.1 ∧ e.2.2.1 < 163 ∧ (parseMethodDescriptor (mY e.2.2.1).desc).map (fun d => d.parameters.length) = some e.2.2.2.1) ∧
    (e.2.1 = 1 ∨ e.2.1 = 2 ∨ e.2.1 = 3 → lw_tbl[e.2.2.2.2]? = some (.methodLink (oN (e.1 / 1000)) (e.1 % 1000) (mY e.2.2.1))) ∧ (e.2.1 = 5 → lw_tbl[e.2.2.2.2]? = some (.methodLinkNest (oN (e.1 / 1000)) (e.1 % 1000) (mY e.2.2.1) RX8)) ∧
    (e.2.1 = 1 → lw_tbl[(mE e.2.2.1).2.2.2.2.2.2.2.1]? = some (.instanceMethod (mY e.2.2.1)) ∧ lw_tbl[(mE e.2.2.1).2.2.2.2.2.2.2.2]? = some (.selects (mY e.2.2.1).cls (mY e.2.2.1) (mY e.2.2.1))) ∧ (e.2.1 = 2 → lw_tbl[(mE e.2.2.1).2.2.2.2.2.2.2.1]? = some (.static (mY e.2.2.1))) ∧
    (e.2.1 = 3 ∨ e.2.1 = 5 → lw_tbl[(mE e.2.2.1).2.2.2.2.2.2.2.1]? = some (.instanceMethod (mY e.2.2.1)) ∧ (mY e.2.2.1).name = "<init>") := by decide +kernel
set_option maxRecDepth 100000 in
theorem ct9_ok : ∀ e ∈ ct9, 1 ≤ e.2.1 ∧ e.2.1 ≤ 7 ∧ (e.2.1 = 6 → lw_tbl[e.2.2.2.2]? = some (.methodLink (oN (e.1 / 1000)) (e.1 % 1000) Lib.Math.max.name)) ∧ (e.2.1 = 7 → lw_tbl[e.2.2.2.2]? = some (.methodLink (oN (e.1 / 1000)) (e.1 % 1000) Lib.Math.min.name)) ∧ (e.2.1 = 4 → lw_tbl[e.2.2.2.2]? = some (.methodLink (oN (e.1 / 1000)) (e.1 % 1000) objectInit)) ∧ (e.2.1 ≠ 4 → e.2.1 ≤ 5 → 0 < e.2.2.1 ∧ e.2.2.1 < 163 ∧ (parseMethodDescriptor (mY e.2.2.1).desc).map (fun d => d.parameters.length) = some e.2.2.2.1) ∧
    (e.2.1 = 1 ∨ e.2.1 = 2 ∨ e.2.1 = 3 → lw_tbl[e.2.2.2.2]? = some (.methodLink (oN (e.1 / 1000)) (e.1 % 1000) (mY e.2.2.1))) ∧ (e.2.1 = 5 → lw_tbl[e.2.2.2.2]? = some (.methodLinkNest (oN (e.1 / 1000)) (e.1 % 1000) (mY e.2.2.1) RX8)) ∧
    (e.2.1 = 1 → lw_tbl[(mE e.2.2.1).2.2.2.2.2.2.2.1]? = some (.instanceMethod (mY e.2.2.1)) ∧ lw_tbl[(mE e.2.2.1).2.2.2.2.2.2.2.2]? = some (.selects (mY e.2.2.1).cls (mY e.2.2.1) (mY e.2.2.1))) ∧ (e.2.1 = 2 → lw_tbl[(mE e.2.2.1).2.2.2.2.2.2.2.1]? = some (.static (mY e.2.2.1))) ∧
    (e.2.1 = 3 ∨ e.2.1 = 5 → lw_tbl[(mE e.2.2.1).2.2.2.2.2.2.2.1]? = some (.instanceMethod (mY e.2.2.1)) ∧ (mY e.2.2.1).name = "<init>") := by decide +kernel
set_option maxRecDepth 100000 in
theorem ct10_ok : ∀ e ∈ ct10, 1 ≤ e.2.1 ∧ e.2.1 ≤ 7 ∧ (e.2.1 = 6 → lw_tbl[e.2.2.2.2]? = some (.methodLink (oN (e.1 / 1000)) (e.1 % 1000) Lib.Math.max.name)) ∧ (e.2.1 = 7 → lw_tbl[e.2.2.2.2]? = some (.methodLink (oN (e.1 / 1000)) (e.1 % 1000) Lib.Math.min.name)) ∧ (e.2.1 = 4 → lw_tbl[e.2.2.2.2]? = some (.methodLink (oN (e.1 / 1000)) (e.1 % 1000) objectInit)) ∧ (e.2.1 ≠ 4 → e.2.1 ≤ 5 → 0 < e.2.2.1 ∧ e.2.2.1 < 163 ∧ (parseMethodDescriptor (mY e.2.2.1).desc).map (fun d => d.parameters.length) = some e.2.2.2.1) ∧
    (e.2.1 = 1 ∨ e.2.1 = 2 ∨ e.2.1 = 3 → lw_tbl[e.2.2.2.2]? = some (.methodLink (oN (e.1 / 1000)) (e.1 % 1000) (mY e.2.2.1))) ∧ (e.2.1 = 5 → lw_tbl[e.2.2.2.2]? = some (.methodLinkNest (oN (e.1 / 1000)) (e.1 % 1000) (mY e.2.2.1) RX8)) ∧
    (e.2.1 = 1 → lw_tbl[(mE e.2.2.1).2.2.2.2.2.2.2.1]? = some (.instanceMethod (mY e.2.2.1)) ∧ lw_tbl[(mE e.2.2.1).2.2.2.2.2.2.2.2]? = some (.selects (mY e.2.2.1).cls (mY e.2.2.1) (mY e.2.2.1))) ∧ (e.2.1 = 2 → lw_tbl[(mE e.2.2.1).2.2.2.2.2.2.2.1]? = some (.static (mY e.2.2.1))) ∧
    (e.2.1 = 3 ∨ e.2.1 = 5 → lw_tbl[(mE e.2.2.1).2.2.2.2.2.2.2.1]? = some (.instanceMethod (mY e.2.2.1)) ∧ (mY e.2.2.1).name = "<init>") := by decide +kernel
set_option maxRecDepth 100000 in
theorem ct11_ok : ∀ e ∈ ct11, 1 ≤ e.2.1 ∧ e.2.1 ≤ 7 ∧ (e.2.1 = 6 → lw_tbl[e.2.2.2.2]? = some (.methodLink (oN (e.1 / 1000)) (e.1 % 1000) Lib.Math.max.name)) ∧ (e.2.1 = 7 → lw_tbl[e.2.2.2.2]? = some (.methodLink (oN (e.1 / 1000)) (e.1 % 1000) Lib.Math.min.name)) ∧ (e.2.1 = 4 → lw_tbl[e.2.2.2.2]? = some (.methodLink (oN (e.1 / 1000)) (e.1 % 1000) objectInit)) ∧ (e.2.1 ≠ 4 → e.2.1 ≤ 5 → 0 < e.2.2.1 ∧ e.2.2.1 < 163 ∧ (parseMethodDescriptor (mY e.2.2.1).desc).map (fun d => d.parameters.length) = some e.2.2.2.1) ∧
    (e.2.1 = 1 ∨ e.2.1 = 2 ∨ e.2.1 = 3 → lw_tbl[e.2.2.2.2]? = some (.methodLink (oN (e.1 / 1000)) (e.1 % 1000) (mY e.2.2.1))) ∧ (e.2.1 = 5 → lw_tbl[e.2.2.2.2]? = some (.methodLinkNest (oN (e.1 / 1000)) (e.1 % 1000) (mY e.2.2.1) RX8)) ∧
    (e.2.1 = 1 → lw_tbl[(mE e.2.2.1).2.2.2.2.2.2.2.1]? = some (.instanceMethod (mY e.2.2.1)) ∧ lw_tbl[(mE e.2.2.1).2.2.2.2.2.2.2.2]? = some (.selects (mY e.2.2.1).cls (mY e.2.2.1) (mY e.2.2.1))) ∧ (e.2.1 = 2 → lw_tbl[(mE e.2.2.1).2.2.2.2.2.2.2.1]? = some (.static (mY e.2.2.1))) ∧
    (e.2.1 = 3 ∨ e.2.1 = 5 → lw_tbl[(mE e.2.2.1).2.2.2.2.2.2.2.1]? = some (.instanceMethod (mY e.2.2.1)) ∧ (mY e.2.2.1).name = "<init>") := by decide +kernel
set_option maxRecDepth 100000 in
theorem ct12_ok : ∀ e ∈ ct12, 1 ≤ e.2.1 ∧ e.2.1 ≤ 7 ∧ (e.2.1 = 6 → lw_tbl[e.2.2.2.2]? = some (.methodLink (oN (e.1 / 1000)) (e.1 % 1000) Lib.Math.max.name)) ∧ (e.2.1 = 7 → lw_tbl[e.2.2.2.2]? = some (.methodLink (oN (e.1 / 1000)) (e.1 % 1000) Lib.Math.min.name)) ∧ (e.2.1 = 4 → lw_tbl[e.2.2.2.2]? = some (.methodLink (oN (e.1 / 1000)) (e.1 % 1000) objectInit)) ∧ (e.2.1 ≠ 4 → e.2.1 ≤ 5 → 0 < e.2.2.1 ∧ e.2.2.1 < 163 ∧ (parseMethodDescriptor (mY e.2.2.1).desc).map (fun d => d.parameters.length) = some e.2.2.2.1) ∧
    (e.2.1 = 1 ∨ e.2.1 = 2 ∨ e.2.1 = 3 → lw_tbl[e.2.2.2.2]? = some (.methodLink (oN (e.1 / 1000)) (e.1 % 1000) (mY e.2.2.1))) ∧ (e.2.1 = 5 → lw_tbl[e.2.2.2.2]? = some (.methodLinkNest (oN (e.1 / 1000)) (e.1 % 1000) (mY e.2.2.1) RX8)) ∧
    (e.2.1 = 1 → lw_tbl[(mE e.2.2.1).2.2.2.2.2.2.2.1]? = some (.instanceMethod (mY e.2.2.1)) ∧ lw_tbl[(mE e.2.2.1).2.2.2.2.2.2.2.2]? = some (.selects (mY e.2.2.1).cls (mY e.2.2.1) (mY e.2.2.1))) ∧ (e.2.1 = 2 → lw_tbl[(mE e.2.2.1).2.2.2.2.2.2.2.1]? = some (.static (mY e.2.2.1))) ∧
    (e.2.1 = 3 ∨ e.2.1 = 5 → lw_tbl[(mE e.2.2.1).2.2.2.2.2.2.2.1]? = some (.instanceMethod (mY e.2.2.1)) ∧ (mY e.2.2.1).name = "<init>") := by decide +kernel
theorem ctab_ok : ∀ e ∈ ctab, 1 ≤ e.2.1 ∧ e.2.1 ≤ 7 ∧ (e.2.1 = 6 → lw_tbl[e.2.2.2.2]? = some (.methodLink (oN (e.1 / 1000)) (e.1 % 1000) Lib.Math.max.name)) ∧ (e.2.1 = 7 → lw_tbl[e.2.2.2.2]? = some (.methodLink (oN (e.1 / 1000)) (e.1 % 1000) Lib.Math.min.name)) ∧ (e.2.1 = 4 → lw_tbl[e.2.2.2.2]? = some (.methodLink (oN (e.1 / 1000)) (e.1 % 1000) objectInit)) ∧ (e.2.1 ≠ 4 → e.2.1 ≤ 5 → 0 < e.2.2.1 ∧ e.2.2.1 < 163 ∧ (parseMethodDescriptor (mY e.2.2.1).desc).map (fun d => d.parameters.length) = some e.2.2.2.1) ∧
    (e.2.1 = 1 ∨ e.2.1 = 2 ∨ e.2.1 = 3 → lw_tbl[e.2.2.2.2]? = some (.methodLink (oN (e.1 / 1000)) (e.1 % 1000) (mY e.2.2.1))) ∧ (e.2.1 = 5 → lw_tbl[e.2.2.2.2]? = some (.methodLinkNest (oN (e.1 / 1000)) (e.1 % 1000) (mY e.2.2.1) RX8)) ∧
    (e.2.1 = 1 → lw_tbl[(mE e.2.2.1).2.2.2.2.2.2.2.1]? = some (.instanceMethod (mY e.2.2.1)) ∧ lw_tbl[(mE e.2.2.1).2.2.2.2.2.2.2.2]? = some (.selects (mY e.2.2.1).cls (mY e.2.2.1) (mY e.2.2.1))) ∧ (e.2.1 = 2 → lw_tbl[(mE e.2.2.1).2.2.2.2.2.2.2.1]? = some (.static (mY e.2.2.1))) ∧
    (e.2.1 = 3 ∨ e.2.1 = 5 → lw_tbl[(mE e.2.2.1).2.2.2.2.2.2.2.1]? = some (.instanceMethod (mY e.2.2.1)) ∧ (mY e.2.2.1).name = "<init>") := List.forall_mem_append.mpr ⟨ct1_ok, List.forall_mem_append.mpr ⟨ct2_ok, List.forall_mem_append.mpr ⟨ct3_ok, List.forall_mem_append.mpr ⟨ct4_ok, List.forall_mem_append.mpr ⟨ct5_ok, List.forall_mem_append.mpr ⟨ct6_ok, List.forall_mem_append.mpr ⟨ct7_ok, List.forall_mem_append.mpr ⟨ct8_ok, List.forall_mem_append.mpr ⟨ct9_ok, List.forall_mem_append.mpr ⟨ct10_ok, List.forall_mem_append.mpr ⟨ct11_ok, ct12_ok⟩⟩⟩⟩⟩⟩⟩⟩⟩⟩⟩
set_option maxRecDepth 100000 in
theorem cl_lays : ∀ ci, ci < 10 → ∀ w ∈ u_ws (clR ci) (clT ci) (clN ci), w ∈ lw_tbl := by decide +kernel
theorem cl_types : ∀ ci, ci < 10 → ∀ k, k < clN ci → parseFieldDescriptor (clT ci k).2.2.1 = some (fT ci k) := by decide +kernel
theorem cl_own : ∀ ci, ci < 10 → ∀ k, k < clN ci → (clT ci k).1 = clR ci := by decide +kernel
theorem cl_names : ∀ ci, ci < 10 → ∀ a, a < clN ci → ∀ b, b < clN ci → a ≠ b → (clT ci a).2.1 ≠ (clT ci b).2.1 := by decide +kernel
theorem cl_at : ∀ ci, ci < 10 → vwCl[ci]? = some (clR ci, clT ci, clN ci) := by
  intro ci h
  match ci, h with
  | 0, _ => rfl
  | 1, _ => rfl
  | 2, _ => rfl
  | 3, _ => rfl
  | 4, _ => rfl
  | 5, _ => rfl
  | 6, _ => rfl
  | 7, _ => rfl
  | 8, _ => rfl
  | 9, _ => rfl
theorem obj_words : lw_tbl[99]? = some (.instanceMethod objectInit) ∧ lw_tbl[100]? = some (.code objectInit ⟨#[0xb1]⟩ 1 none) := by decide +kernel
theorem arr_words : lw_tbl[147]? = some (.arrayClass .int) ∧ lw_tbl[175]? = some (.arrayClass .long) ∧ lw_tbl[295]? = some (.arrayClass .byte) ∧ lw_tbl[279]? = some (.arrayClass .boolean) ∧ lw_tbl[843]? = some (.arrayOver (.array .int)) ∧ lw_tbl[845]? = some (.arrayOver (.array .long)) := by decide +kernel
theorem math_words : lw_tbl[690]? = some (.static Lib.Math.max.name) ∧ lw_tbl[687]? = some (.static Lib.Math.min.name) ∧ lw_tbl[91]? = some (.initialized "java/lang/Math") := by decide +kernel
theorem math_max : lw_tbl[691]? = some (Cond.code Lib.Math.max.name Lib.Math.max.code 2 (some .int)) := by decide +kernel
theorem math_min : lw_tbl[688]? = some (Cond.code Lib.Math.min.name Lib.Math.min.code 2 (some .int)) := by decide +kernel
theorem stat_word : lw_tbl[667]? = some (.fieldLinkNest RX3 103 "SweepBench" "INPUT_PATTERNS" "[J" "SweepBench") := by decide +kernel
theorem gtab_ok : ∀ e ∈ gtab, (e.2.1 = 5 → lw_tbl[e.2.2]? = some (.classLink (oN (e.1 / 1000)) (e.1 % 1000) ("[" ++ (FieldType.array .int).toString))) ∧ (e.2.1 = 6 → lw_tbl[e.2.2]? = some (.classLink (oN (e.1 / 1000)) (e.1 % 1000) ("[" ++ (FieldType.array .long).toString))) := by decide +kernel
def pOk (j : Nat) : Prop := ∀ q ∈ pt j, decode (mC j) q.1 = .ok q.2
theorem pok0 : pOk 0 := okL_law
theorem pok1 : pOk 1 := okX0_init
theorem pok2 : pOk 2 := okX0_parse
theorem pok3 : pOk 3 := okX0_fail
theorem pok4 : pOk 4 := okX0_andOf
theorem pok5 : pOk 5 := okX0_sideOf
theorem pok6 : pOk 6 := okX0_startAnew
theorem pok7 : pOk 7 := okX0_parseHead
theorem pok8 : pOk 8 := okX0_parseHeadNumber
theorem pok9 : pOk 9 := okX0_askHeadNumbers
theorem pok10 : pOk 10 := okX0_isBadHeadNumber
theorem pok11 : pOk 11 := okX0_hasTooFewVariables
theorem pok12 : pOk 12 := okX0_parseInputLines
theorem pok13 : pOk 13 := okX0_parseOutLines
theorem pok14 : pOk 14 := okX0_parseAndLines
theorem pok15 : pOk 15 := okX0_parseDefinition
theorem pok16 : pOk 16 := okX0_parseUse
theorem pok17 : pOk 17 := okX0_parseNumber
theorem pok18 : pOk 18 := okX0_expect
theorem pok19 : pOk 19 := okX0_failIf
theorem pok20 : pOk 20 := okX0_findNotDefined
theorem pok21 : pOk 21 := okX1_init
theorem pok22 : pOk 22 := okX1_arrange
theorem pok23 : pOk 23 := okX1_fill
theorem pok24 : pOk 24 := okX1_signalOf
theorem pok25 : pOk 25 := okX1_firstReady
theorem pok26 : pOk 26 := okX1_isThere
theorem pok27 : pOk 27 := okX1_failAtFirstLoop
theorem pok28 : pOk 28 := okX1_needsItself
theorem pok29 : pOk 29 := okX1_reachSides
theorem pok30 : pOk 30 := okX1_reach
theorem pok31 : pOk 31 := okX2_init
theorem pok32 : pOk 32 := okX2_reset
theorem pok33 : pOk 33 := okX2_hasSignal
theorem pok34 : pOk 34 := okX2_canTake
theorem pok35 : pOk 35 := okX2_addGate
theorem pok36 : pOk 36 := okX2_addOut
theorem pok37 : pOk 37 := okX2_literalOf
theorem pok38 : pOk 38 := okX2_plain
theorem pok39 : pOk 39 := okX3_init
theorem pok40 : pOk 40 := okX3_bringUp
theorem pok41 : pOk 41 := okX3_isAnd
theorem pok42 : pOk 42 := okX3_bitOf
theorem pok43 : pOk 43 := okX3_firstWordApart
theorem pok44 : pOk 44 := okX3_likeness
theorem pok45 : pOk 45 := okX3_restart
theorem pok46 : pOk 46 := okX3_makeFalse
theorem pok47 : pOk 47 := okX3_makeInput
theorem pok48 : pOk 48 := okX3_makeGate
theorem pok49 : pOk 49 := okX3_makeKind
theorem pok50 : pOk 50 := okX3_makeChoice
theorem pok51 : pOk 51 := okX3_makeMajority
theorem pok52 : pOk 52 := okX3_makeAnd
theorem pok53 : pOk 53 := okX3_addAnd
theorem pok54 : pOk 54 := okX3_addNode
theorem pok55 : pOk 55 := okX3_wordOf
theorem pok56 : pOk 56 := okX4_init
theorem pok57 : pOk 57 := okX4_find
theorem pok58 : pOk 58 := okX4_leaderOf
theorem pok59 : pOk 59 := okX5_init
theorem pok60 : pOk 60 := okX5_run
theorem pok61 : pOk 61 := okX5_representativeOf
theorem pok62 : pOk 62 := okX5_askCandidate
theorem pok63 : pOk 63 := okX5_findNeeded
theorem pok64 : pOk 64 := okX5_markOuts
theorem pok65 : pOk 65 := okX5_mark
theorem pok66 : pOk 66 := okX6_init
theorem pok67 : pOk 67 := okX6_append
theorem pok68 : pOk 68 := okX6_byteAt
theorem pok69 : pOk 69 := okX6_hasDigitAt
theorem pok70 : pOk 70 := okX7_init
theorem pok71 : pOk 71 := okX7_empty
theorem pok72 : pOk 72 := okX7_has
theorem pok73 : pOk 73 := okX7_add
theorem pok74 : pOk 74 := okX8_init
theorem pok75 : pOk 75 := okX8_inputs
theorem pok76 : pOk 76 := okX8_gate
theorem pok77 : pOk 77 := okX8_output
theorem pok78 : pOk 78 := okX8_clear
theorem pok79 : pOk 79 := okX8_feed
theorem pok80 : pOk 80 := okX8_end
theorem pok81 : pOk 81 := okX8_read
theorem pok82 : pOk 82 := okX8_place
theorem pok83 : pOk 83 := okX8_value
theorem pok84 : pOk 84 := okX8_vector
theorem pok85 : pOk 85 := okX8_forget
theorem pok86 : pOk 86 := okX8_given
theorem pok87 : pOk 87 := okX8_count
theorem pok88 : pOk 88 := okX8_node
theorem pok89 : pOk 89 := okX8_literal
theorem pok90 : pOk 90 := okX8_sweep
theorem pok91 : pOk 91 := okX8_swept
theorem pok92 : pOk 92 := okX8_told
theorem pok93 : pOk 93 := okX8_same
theorem pok94 : pOk 94 := okX8_differs
theorem pok95 : pOk 95 := okX8_verdict
theorem pok96 : pOk 96 := okX8_circuitAt
theorem pok97 : pOk 97 := okX8_isInputWord
theorem pok98 : pOk 98 := okX8_noteMoreOfACircuit
theorem pok99 : pOk 99 := okX8_noteNewCircuit
theorem pok100 : pOk 100 := okX8_bringUpGroups
theorem pok101 : pOk 101 := okX8_bothHaveOut
theorem pok102 : pOk 102 := okX8_firstWordApart
theorem pok103 : pOk 103 := okX9_init
theorem pok104 : pOk 104 := okX9_words
theorem pok105 : pOk 105 := okX9_isCircuit
theorem pok106 : pOk 106 := okX9_changed
theorem pok107 : pOk 107 := okX9_empty
theorem pok108 : pOk 108 := okX9_inputs
theorem pok109 : pOk 109 := okX9_has
theorem pok110 : pOk 110 := okX9_gate
theorem pok111 : pOk 111 := okX9_output
theorem pok112 : pOk 112 := okX9_clear
theorem pok113 : pOk 113 := okX9_feed
theorem pok114 : pOk 114 := okX9_put
theorem pok115 : pOk 115 := okX9_end
theorem pok116 : pOk 116 := okX9_fails
theorem pok117 : pOk 117 := okX9_is
theorem pok118 : pOk 118 := okX9_number
theorem pok119 : pOk 119 := okX9_firstLine
theorem pok120 : pOk 120 := okX9_defines
theorem pok121 : pOk 121 := okX9_uses
theorem pok122 : pOk 122 := okX9_lines
theorem pok123 : pOk 123 := okX9_at0
theorem pok124 : pOk 124 := okX9_isDefined
theorem pok125 : pOk 125 := okX9_allDefined
theorem pok126 : pOk 126 := okX9_needsItself
theorem pok127 : pOk 127 := okX9_mark
theorem pok128 : pOk 128 := okX9_signalOf
theorem pok129 : pOk 129 := okX9_becomes
theorem pok130 : pOk 130 := okX9_read
theorem pok131 : pOk 131 := okX9_place
theorem pok132 : pOk 132 := okX9_newNode
theorem pok133 : pOk 133 := okX9_bits
theorem pok134 : pOk 134 := okX9_and
theorem pok135 : pOk 135 := okX9_side
theorem pok136 : pOk 136 := okX9_gateOf
theorem pok137 : pOk 137 := okX9_graph
theorem pok138 : pOk 138 := okX9_bit
theorem pok139 : pOk 139 := okX9_unlike
theorem pok140 : pOk 140 := okX9_value
theorem pok141 : pOk 141 := okX9_isGiven
theorem pok142 : pOk 142 := okX9_give
theorem pok143 : pOk 143 := okX9_vector
theorem pok144 : pOk 144 := okX9_forget
theorem pok145 : pOk 145 := okX9_given
theorem pok146 : pOk 146 := okX9_like
theorem pok147 : pOk 147 := okX9_leastLike
theorem pok148 : pOk 148 := okX9_count
theorem pok149 : pOk 149 := okX9_node
theorem pok150 : pOk 150 := okX9_literal
theorem pok151 : pOk 151 := okX9_candidate
theorem pok152 : pOk 152 := okX9_sweep
theorem pok153 : pOk 153 := okX9_need
theorem pok154 : pOk 154 := okX9_swept
theorem pok155 : pOk 155 := okX9_told
theorem pok156 : pOk 156 := okX9_both
theorem pok157 : pOk 157 := okX9_differs
theorem pok158 : pOk 158 := okX9_same
theorem pok159 : pOk 159 := okX9_verdict
theorem pok160 : pOk 160 := okJ13_bitCount_95d88
theorem pok161 : pOk 161 := okJ7_fill_d0a16
theorem pok162 : pOk 162 := okJ7_fill_53178
