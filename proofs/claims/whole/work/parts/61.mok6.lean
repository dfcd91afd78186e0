/-! the tables are the code's: methods 152 to 169 -/
theorem mok_152 : mokB 152 = true := by decide +kernel
theorem mok_153 : mokB 153 = true := by decide +kernel
theorem mok_154 : mokB 154 = true := by decide +kernel
theorem mok_155 : mokB 155 = true := by decide +kernel
theorem mok_156 : mokB 156 = true := by decide +kernel
theorem mok_157 : mokB 157 = true := by decide +kernel
theorem mok_158 : mokB 158 = true := by decide +kernel
theorem mok_159 : mokB 159 = true := by decide +kernel
theorem mok_160 : mokB 160 = true := by decide +kernel
theorem mok_161 : mokB 161 = true := by decide +kernel
theorem mok_162 : mokB 162 = true := by decide +kernel
theorem mok_163 : mokB 163 = true := by decide +kernel
theorem mok_164 : mokB 164 = true := by decide +kernel
theorem mok_165 : mokB 165 = true := by decide +kernel
theorem mok_166 : mokB 166 = true := by decide +kernel
theorem mok_167 : mokB 167 = true := by decide +kernel
theorem mok_168 : mokB 168 = true := by decide +kernel
theorem mok_169 : mokB 169 = true := by decide +kernel
theorem mokR_5 (M : Nat) (h1 : 152 ≤ M) (h2 : M < 170) : mokB M = true := by
  have h : M = 152 ∨ M = 153 ∨ M = 154 ∨ M = 155 ∨ M = 156 ∨ M = 157 ∨ M = 158 ∨ M = 159 ∨ M = 160 ∨ M = 161 ∨ M = 162 ∨ M = 163 ∨ M = 164 ∨ M = 165 ∨ M = 166 ∨ M = 167 ∨ M = 168 ∨ M = 169 := by omega
  rcases h with rfl | rfl | rfl | rfl | rfl | rfl | rfl | rfl | rfl | rfl | rfl | rfl | rfl | rfl | rfl | rfl | rfl | rfl
  · exact mok_152
  · exact mok_153
  · exact mok_154
  · exact mok_155
  · exact mok_156
  · exact mok_157
  · exact mok_158
  · exact mok_159
  · exact mok_160
  · exact mok_161
  · exact mok_162
  · exact mok_163
  · exact mok_164
  · exact mok_165
  · exact mok_166
  · exact mok_167
  · exact mok_168
  · exact mok_169
