/-! the tables are the code's: methods 170 to 187 -/
theorem mok_170 : mokB 170 = true := by decide +kernel
theorem mok_171 : mokB 171 = true := by decide +kernel
theorem mok_172 : mokB 172 = true := by decide +kernel
theorem mok_173 : mokB 173 = true := by decide +kernel
theorem mok_174 : mokB 174 = true := by decide +kernel
theorem mok_175 : mokB 175 = true := by decide +kernel
theorem mok_176 : mokB 176 = true := by decide +kernel
theorem mok_177 : mokB 177 = true := by decide +kernel
theorem mok_178 : mokB 178 = true := by decide +kernel
theorem mok_179 : mokB 179 = true := by decide +kernel
theorem mok_180 : mokB 180 = true := by decide +kernel
theorem mok_181 : mokB 181 = true := by decide +kernel
theorem mok_182 : mokB 182 = true := by decide +kernel
theorem mok_183 : mokB 183 = true := by decide +kernel
theorem mok_184 : mokB 184 = true := by decide +kernel
theorem mok_185 : mokB 185 = true := by decide +kernel
theorem mok_186 : mokB 186 = true := by decide +kernel
theorem mok_187 : mokB 187 = true := by decide +kernel
theorem mokR_6 (M : Nat) (h1 : 170 ≤ M) (h2 : M < 188) : mokB M = true := by
  have h : M = 170 ∨ M = 171 ∨ M = 172 ∨ M = 173 ∨ M = 174 ∨ M = 175 ∨ M = 176 ∨ M = 177 ∨ M = 178 ∨ M = 179 ∨ M = 180 ∨ M = 181 ∨ M = 182 ∨ M = 183 ∨ M = 184 ∨ M = 185 ∨ M = 186 ∨ M = 187 := by omega
  rcases h with rfl | rfl | rfl | rfl | rfl | rfl | rfl | rfl | rfl | rfl | rfl | rfl | rfl | rfl | rfl | rfl | rfl | rfl
  · exact mok_170
  · exact mok_171
  · exact mok_172
  · exact mok_173
  · exact mok_174
  · exact mok_175
  · exact mok_176
  · exact mok_177
  · exact mok_178
  · exact mok_179
  · exact mok_180
  · exact mok_181
  · exact mok_182
  · exact mok_183
  · exact mok_184
  · exact mok_185
  · exact mok_186
  · exact mok_187
theorem mok_all (M : Nat) (h : M < 188) : mokB M = true := by
  by_cases h0 : M < 34
  · exact mokR_0 M (by omega) h0
  by_cases h1 : M < 73
  · exact mokR_1 M (by omega) h1
  by_cases h2 : M < 105
  · exact mokR_2 M (by omega) h2
  by_cases h3 : M < 131
  · exact mokR_3 M (by omega) h3
  by_cases h4 : M < 152
  · exact mokR_4 M (by omega) h4
  by_cases h5 : M < 170
  · exact mokR_5 M (by omega) h5
  by_cases h6 : M < 188
  · exact mokR_6 M (by omega) h6
  · omega
