theorem pk_0 : ∀ j, 0 ≤ j → j < 10 → pOk j := by
  intro j h1 h2
  rcases (show j = 0 ∨ j = 1 ∨ j = 2 ∨ j = 3 ∨ j = 4 ∨ j = 5 ∨ j = 6 ∨ j = 7 ∨ j = 8 ∨ j = 9 by omega) with rfl | rfl | rfl | rfl | rfl | rfl | rfl | rfl | rfl | rfl
  · exact pok0
  · exact pok1
  · exact pok2
  · exact pok3
  · exact pok4
  · exact pok5
  · exact pok6
  · exact pok7
  · exact pok8
  · exact pok9
theorem pk_10 : ∀ j, 10 ≤ j → j < 20 → pOk j := by
  intro j h1 h2
  rcases (show j = 10 ∨ j = 11 ∨ j = 12 ∨ j = 13 ∨ j = 14 ∨ j = 15 ∨ j = 16 ∨ j = 17 ∨ j = 18 ∨ j = 19 by omega) with rfl | rfl | rfl | rfl | rfl | rfl | rfl | rfl | rfl | rfl
  · exact pok10
  · exact pok11
  · exact pok12
  · exact pok13
  · exact pok14
  · exact pok15
  · exact pok16
  · exact pok17
  · exact pok18
  · exact pok19
theorem pk_20 : ∀ j, 20 ≤ j → j < 30 → pOk j := by
  intro j h1 h2
  rcases (show j = 20 ∨ j = 21 ∨ j = 22 ∨ j = 23 ∨ j = 24 ∨ j = 25 ∨ j = 26 ∨ j = 27 ∨ j = 28 ∨ j = 29 by omega) with rfl | rfl | rfl | rfl | rfl | rfl | rfl | rfl | rfl | rfl
  · exact pok20
  · exact pok21
  · exact pok22
  · exact pok23
  · exact pok24
  · exact pok25
  · exact pok26
  · exact pok27
  · exact pok28
  · exact pok29
theorem pk_30 : ∀ j, 30 ≤ j → j < 40 → pOk j := by
  intro j h1 h2
  rcases (show j = 30 ∨ j = 31 ∨ j = 32 ∨ j = 33 ∨ j = 34 ∨ j = 35 ∨ j = 36 ∨ j = 37 ∨ j = 38 ∨ j = 39 by omega) with rfl | rfl | rfl | rfl | rfl | rfl | rfl | rfl | rfl | rfl
  · exact pok30
  · exact pok31
  · exact pok32
  · exact pok33
  · exact pok34
  · exact pok35
  · exact pok36
  · exact pok37
  · exact pok38
  · exact pok39
theorem pk_40 : ∀ j, 40 ≤ j → j < 50 → pOk j := by
  intro j h1 h2
  rcases (show j = 40 ∨ j = 41 ∨ j = 42 ∨ j = 43 ∨ j = 44 ∨ j = 45 ∨ j = 46 ∨ j = 47 ∨ j = 48 ∨ j = 49 by omega) with rfl | rfl | rfl | rfl | rfl | rfl | rfl | rfl | rfl | rfl
  · exact pok40
  · exact pok41
  · exact pok42
  · exact pok43
  · exact pok44
  · exact pok45
  · exact pok46
  · exact pok47
  · exact pok48
  · exact pok49
theorem pk_50 : ∀ j, 50 ≤ j → j < 60 → pOk j := by
  intro j h1 h2
  rcases (show j = 50 ∨ j = 51 ∨ j = 52 ∨ j = 53 ∨ j = 54 ∨ j = 55 ∨ j = 56 ∨ j = 57 ∨ j = 58 ∨ j = 59 by omega) with rfl | rfl | rfl | rfl | rfl | rfl | rfl | rfl | rfl | rfl
  · exact pok50
  · exact pok51
  · exact pok52
  · exact pok53
  · exact pok54
  · exact pok55
  · exact pok56
  · exact pok57
  · exact pok58
  · exact pok59
theorem pk_60 : ∀ j, 60 ≤ j → j < 70 → pOk j := by
  intro j h1 h2
  rcases (show j = 60 ∨ j = 61 ∨ j = 62 ∨ j = 63 ∨ j = 64 ∨ j = 65 ∨ j = 66 ∨ j = 67 ∨ j = 68 ∨ j = 69 by omega) with rfl | rfl | rfl | rfl | rfl | rfl | rfl | rfl | rfl | rfl
  · exact pok60
  · exact pok61
  · exact pok62
  · exact pok63
  · exact pok64
  · exact pok65
  · exact pok66
  · exact pok67
  · exact pok68
  · exact pok69
theorem pk_70 : ∀ j, 70 ≤ j → j < 80 → pOk j := by
  intro j h1 h2
  rcases (show j = 70 ∨ j = 71 ∨ j = 72 ∨ j = 73 ∨ j = 74 ∨ j = 75 ∨ j = 76 ∨ j = 77 ∨ j = 78 ∨ j = 79 by omega) with rfl | rfl | rfl | rfl | rfl | rfl | rfl | rfl | rfl | rfl
  · exact pok70
  · exact pok71
  · exact pok72
  · exact pok73
  · exact pok74
  · exact pok75
  · exact pok76
  · exact pok77
  · exact pok78
  · exact pok79
theorem pk_80 : ∀ j, 80 ≤ j → j < 90 → pOk j := by
  intro j h1 h2
  rcases (show j = 80 ∨ j = 81 ∨ j = 82 ∨ j = 83 ∨ j = 84 ∨ j = 85 ∨ j = 86 ∨ j = 87 ∨ j = 88 ∨ j = 89 by omega) with rfl | rfl | rfl | rfl | rfl | rfl | rfl | rfl | rfl | rfl
  · exact pok80
  · exact pok81
  · exact pok82
  · exact pok83
  · exact pok84
  · exact pok85
  · exact pok86
  · exact pok87
  · exact pok88
  · exact pok89
theorem pk_90 : ∀ j, 90 ≤ j → j < 100 → pOk j := by
  intro j h1 h2
  rcases (show j = 90 ∨ j = 91 ∨ j = 92 ∨ j = 93 ∨ j = 94 ∨ j = 95 ∨ j = 96 ∨ j = 97 ∨ j = 98 ∨ j = 99 by omega) with rfl | rfl | rfl | rfl | rfl | rfl | rfl | rfl | rfl | rfl
  · exact pok90
  · exact pok91
  · exact pok92
  · exact pok93
  · exact pok94
  · exact pok95
  · exact pok96
  · exact pok97
  · exact pok98
  · exact pok99
theorem pk_100 : ∀ j, 100 ≤ j → j < 110 → pOk j := by
  intro j h1 h2
  rcases (show j = 100 ∨ j = 101 ∨ j = 102 ∨ j = 103 ∨ j = 104 ∨ j = 105 ∨ j = 106 ∨ j = 107 ∨ j = 108 ∨ j = 109 by omega) with rfl | rfl | rfl | rfl | rfl | rfl | rfl | rfl | rfl | rfl
  · exact pok100
  · exact pok101
  · exact pok102
  · exact pok103
  · exact pok104
  · exact pok105
  · exact pok106
  · exact pok107
  · exact pok108
  · exact pok109
theorem pk_110 : ∀ j, 110 ≤ j → j < 120 → pOk j := by
  intro j h1 h2
  rcases (show j = 110 ∨ j = 111 ∨ j = 112 ∨ j = 113 ∨ j = 114 ∨ j = 115 ∨ j = 116 ∨ j = 117 ∨ j = 118 ∨ j = 119 by omega) with rfl | rfl | rfl | rfl | rfl | rfl | rfl | rfl | rfl | rfl
  · exact pok110
  · exact pok111
  · exact pok112
  · exact pok113
  · exact pok114
  · exact pok115
  · exact pok116
  · exact pok117
  · exact pok118
  · exact pok119
theorem pk_120 : ∀ j, 120 ≤ j → j < 130 → pOk j := by
  intro j h1 h2
  rcases (show j = 120 ∨ j = 121 ∨ j = 122 ∨ j = 123 ∨ j = 124 ∨ j = 125 ∨ j = 126 ∨ j = 127 ∨ j = 128 ∨ j = 129 by omega) with rfl | rfl | rfl | rfl | rfl | rfl | rfl | rfl | rfl | rfl
  · exact pok120
  · exact pok121
  · exact pok122
  · exact pok123
  · exact pok124
  · exact pok125
  · exact pok126
  · exact pok127
  · exact pok128
  · exact pok129
theorem pk_130 : ∀ j, 130 ≤ j → j < 140 → pOk j := by
  intro j h1 h2
  rcases (show j = 130 ∨ j = 131 ∨ j = 132 ∨ j = 133 ∨ j = 134 ∨ j = 135 ∨ j = 136 ∨ j = 137 ∨ j = 138 ∨ j = 139 by omega) with rfl | rfl | rfl | rfl | rfl | rfl | rfl | rfl | rfl | rfl
  · exact pok130
  · exact pok131
  · exact pok132
  · exact pok133
  · exact pok134
  · exact pok135
  · exact pok136
  · exact pok137
  · exact pok138
  · exact pok139
theorem pk_140 : ∀ j, 140 ≤ j → j < 150 → pOk j := by
  intro j h1 h2
  rcases (show j = 140 ∨ j = 141 ∨ j = 142 ∨ j = 143 ∨ j = 144 ∨ j = 145 ∨ j = 146 ∨ j = 147 ∨ j = 148 ∨ j = 149 by omega) with rfl | rfl | rfl | rfl | rfl | rfl | rfl | rfl | rfl | rfl
  · exact pok140
  · exact pok141
  · exact pok142
  · exact pok143
  · exact pok144
  · exact pok145
  · exact pok146
  · exact pok147
  · exact pok148
  · exact pok149
theorem pk_150 : ∀ j, 150 ≤ j → j < 160 → pOk j := by
  intro j h1 h2
  rcases (show j = 150 ∨ j = 151 ∨ j = 152 ∨ j = 153 ∨ j = 154 ∨ j = 155 ∨ j = 156 ∨ j = 157 ∨ j = 158 ∨ j = 159 by omega) with rfl | rfl | rfl | rfl | rfl | rfl | rfl | rfl | rfl | rfl
  · exact pok150
  · exact pok151
  · exact pok152
  · exact pok153
  · exact pok154
  · exact pok155
  · exact pok156
  · exact pok157
  · exact pok158
  · exact pok159
theorem pk_160 : ∀ j, 160 ≤ j → j < 163 → pOk j := by
  intro j h1 h2
  rcases (show j = 160 ∨ j = 161 ∨ j = 162 by omega) with rfl | rfl | rfl
  · exact pok160
  · exact pok161
  · exact pok162
theorem pok_all : ∀ j, j < 163 → pOk j := by
  intro j h
  by_cases q0 : j < 10
  · exact pk_0 j (by omega) q0
  by_cases q10 : j < 20
  · exact pk_10 j (by omega) q10
  by_cases q20 : j < 30
  · exact pk_20 j (by omega) q20
  by_cases q30 : j < 40
  · exact pk_30 j (by omega) q30
  by_cases q40 : j < 50
  · exact pk_40 j (by omega) q40
  by_cases q50 : j < 60
  · exact pk_50 j (by omega) q50
  by_cases q60 : j < 70
  · exact pk_60 j (by omega) q60
  by_cases q70 : j < 80
  · exact pk_70 j (by omega) q70
  by_cases q80 : j < 90
  · exact pk_80 j (by omega) q80
  by_cases q90 : j < 100
  · exact pk_90 j (by omega) q90
  by_cases q100 : j < 110
  · exact pk_100 j (by omega) q100
  by_cases q110 : j < 120
  · exact pk_110 j (by omega) q110
  by_cases q120 : j < 130
  · exact pk_120 j (by omega) q120
  by_cases q130 : j < 140
  · exact pk_130 j (by omega) q130
  by_cases q140 : j < 150
  · exact pk_140 j (by omega) q140
  by_cases q150 : j < 160
  · exact pk_150 j (by omega) q150
  exact pk_160 j (by omega) h
