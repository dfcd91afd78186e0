/-! the tables are the code's: methods 105 to 130 -/
theorem mok_105 : mokB 105 = true := by decide +kernel
theorem mok_106 : mokB 106 = true := by decide +kernel
theorem mok_107 : mokB 107 = true := by decide +kernel
theorem mok_108 : mokB 108 = true := by decide +kernel
theorem mok_109 : mokB 109 = true := by decide +kernel
theorem mok_110 : mokB 110 = true := by decide +kernel
theorem mok_111 : mokB 111 = true := by decide +kernel
theorem mok_112 : mokB 112 = true := by decide +kernel
theorem mok_113 : mokB 113 = true := by decide +kernel
theorem mok_114 : mokB 114 = true := by decide +kernel
theorem mok_115 : mokB 115 = true := by decide +kernel
theorem mok_116 : mokB 116 = true := by decide +kernel
theorem mok_117 : mokB 117 = true := by decide +kernel
theorem mok_118 : mokB 118 = true := by decide +kernel
theorem mok_119 : mokB 119 = true := by decide +kernel
theorem mok_120 : mokB 120 = true := by decide +kernel
theorem mok_121 : mokB 121 = true := by decide +kernel
theorem mok_122 : mokB 122 = true := by decide +kernel
theorem mok_123 : mokB 123 = true := by decide +kernel
theorem mok_124 : mokB 124 = true := by decide +kernel
theorem mok_125 : mokB 125 = true := by decide +kernel
theorem mok_126 : mokB 126 = true := by decide +kernel
theorem mok_127 : mokB 127 = true := by decide +kernel
theorem mok_128 : mokB 128 = true := by decide +kernel
theorem mok_129 : mokB 129 = true := by decide +kernel
theorem mok_130 : mokB 130 = true := by decide +kernel
theorem mokR_3 (M : Nat) (h1 : 105 ≤ M) (h2 : M < 131) : mokB M = true := by
  have h : M = 105 ∨ M = 106 ∨ M = 107 ∨ M = 108 ∨ M = 109 ∨ M = 110 ∨ M = 111 ∨ M = 112 ∨ M = 113 ∨ M = 114 ∨ M = 115 ∨ M = 116 ∨ M = 117 ∨ M = 118 ∨ M = 119 ∨ M = 120 ∨ M = 121 ∨ M = 122 ∨ M = 123 ∨ M = 124 ∨ M = 125 ∨ M = 126 ∨ M = 127 ∨ M = 128 ∨ M = 129 ∨ M = 130 := by omega
  rcases h with rfl | rfl | rfl | rfl | rfl | rfl | rfl | rfl | rfl | rfl | rfl | rfl | rfl | rfl | rfl | rfl | rfl | rfl | rfl | rfl | rfl | rfl | rfl | rfl | rfl | rfl
  · exact mok_105
  · exact mok_106
  · exact mok_107
  · exact mok_108
  · exact mok_109
  · exact mok_110
  · exact mok_111
  · exact mok_112
  · exact mok_113
  · exact mok_114
  · exact mok_115
  · exact mok_116
  · exact mok_117
  · exact mok_118
  · exact mok_119
  · exact mok_120
  · exact mok_121
  · exact mok_122
  · exact mok_123
  · exact mok_124
  · exact mok_125
  · exact mok_126
  · exact mok_127
  · exact mok_128
  · exact mok_129
  · exact mok_130
