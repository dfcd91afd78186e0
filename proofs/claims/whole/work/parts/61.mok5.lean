/-! the tables are the code's: methods 131 to 151 -/
theorem mok_131 : mokB 131 = true := by decide +kernel
theorem mok_132 : mokB 132 = true := by decide +kernel
theorem mok_133 : mokB 133 = true := by decide +kernel
theorem mok_134 : mokB 134 = true := by decide +kernel
theorem mok_135 : mokB 135 = true := by decide +kernel
theorem mok_136 : mokB 136 = true := by decide +kernel
theorem mok_137 : mokB 137 = true := by decide +kernel
theorem mok_138 : mokB 138 = true := by decide +kernel
theorem mok_139 : mokB 139 = true := by decide +kernel
theorem mok_140 : mokB 140 = true := by decide +kernel
theorem mok_141 : mokB 141 = true := by decide +kernel
theorem mok_142 : mokB 142 = true := by decide +kernel
theorem mok_143 : mokB 143 = true := by decide +kernel
theorem mok_144 : mokB 144 = true := by decide +kernel
theorem mok_145 : mokB 145 = true := by decide +kernel
theorem mok_146 : mokB 146 = true := by decide +kernel
theorem mok_147 : mokB 147 = true := by decide +kernel
theorem mok_148 : mokB 148 = true := by decide +kernel
theorem mok_149 : mokB 149 = true := by decide +kernel
theorem mok_150 : mokB 150 = true := by decide +kernel
theorem mok_151 : mokB 151 = true := by decide +kernel
theorem mokR_4 (M : Nat) (h1 : 131 ≤ M) (h2 : M < 152) : mokB M = true := by
  have h : M = 131 ∨ M = 132 ∨ M = 133 ∨ M = 134 ∨ M = 135 ∨ M = 136 ∨ M = 137 ∨ M = 138 ∨ M = 139 ∨ M = 140 ∨ M = 141 ∨ M = 142 ∨ M = 143 ∨ M = 144 ∨ M = 145 ∨ M = 146 ∨ M = 147 ∨ M = 148 ∨ M = 149 ∨ M = 150 ∨ M = 151 := by omega
  rcases h with rfl | rfl | rfl | rfl | rfl | rfl | rfl | rfl | rfl | rfl | rfl | rfl | rfl | rfl | rfl | rfl | rfl | rfl | rfl | rfl | rfl
  · exact mok_131
  · exact mok_132
  · exact mok_133
  · exact mok_134
  · exact mok_135
  · exact mok_136
  · exact mok_137
  · exact mok_138
  · exact mok_139
  · exact mok_140
  · exact mok_141
  · exact mok_142
  · exact mok_143
  · exact mok_144
  · exact mok_145
  · exact mok_146
  · exact mok_147
  · exact mok_148
  · exact mok_149
  · exact mok_150
  · exact mok_151
