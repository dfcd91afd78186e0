/-! the tables are the code's: methods 0 to 33 -/
theorem mok_0 : mokB 0 = true := by decide +kernel
theorem mok_1 : mokB 1 = true := by decide +kernel
theorem mok_2 : mokB 2 = true := by decide +kernel
theorem mok_3 : mokB 3 = true := by decide +kernel
theorem mok_4 : mokB 4 = true := by decide +kernel
theorem mok_5 : mokB 5 = true := by decide +kernel
theorem mok_6 : mokB 6 = true := by decide +kernel
theorem mok_7 : mokB 7 = true := by decide +kernel
theorem mok_8 : mokB 8 = true := by decide +kernel
theorem mok_9 : mokB 9 = true := by decide +kernel
theorem mok_10 : mokB 10 = true := by decide +kernel
theorem mok_11 : mokB 11 = true := by decide +kernel
theorem mok_12 : mokB 12 = true := by decide +kernel
theorem mok_13 : mokB 13 = true := by decide +kernel
theorem mok_14 : mokB 14 = true := by decide +kernel
theorem mok_15 : mokB 15 = true := by decide +kernel
theorem mok_16 : mokB 16 = true := by decide +kernel
theorem mok_17 : mokB 17 = true := by decide +kernel
theorem mok_18 : mokB 18 = true := by decide +kernel
theorem mok_19 : mokB 19 = true := by decide +kernel
theorem mok_20 : mokB 20 = true := by decide +kernel
theorem mok_21 : mokB 21 = true := by decide +kernel
theorem mok_22 : mokB 22 = true := by decide +kernel
theorem mok_23 : mokB 23 = true := by decide +kernel
theorem mok_24 : mokB 24 = true := by decide +kernel
theorem mok_25 : mokB 25 = true := by decide +kernel
theorem mok_26 : mokB 26 = true := by decide +kernel
theorem mok_27 : mokB 27 = true := by decide +kernel
theorem mok_28 : mokB 28 = true := by decide +kernel
theorem mok_29 : mokB 29 = true := by decide +kernel
theorem mok_30 : mokB 30 = true := by decide +kernel
theorem mok_31 : mokB 31 = true := by decide +kernel
theorem mok_32 : mokB 32 = true := by decide +kernel
theorem mok_33 : mokB 33 = true := by decide +kernel
theorem mokR_0 (M : Nat) (h1 : 0 ≤ M) (h2 : M < 34) : mokB M = true := by
  have h : M = 0 ∨ M = 1 ∨ M = 2 ∨ M = 3 ∨ M = 4 ∨ M = 5 ∨ M = 6 ∨ M = 7 ∨ M = 8 ∨ M = 9 ∨ M = 10 ∨ M = 11 ∨ M = 12 ∨ M = 13 ∨ M = 14 ∨ M = 15 ∨ M = 16 ∨ M = 17 ∨ M = 18 ∨ M = 19 ∨ M = 20 ∨ M = 21 ∨ M = 22 ∨ M = 23 ∨ M = 24 ∨ M = 25 ∨ M = 26 ∨ M = 27 ∨ M = 28 ∨ M = 29 ∨ M = 30 ∨ M = 31 ∨ M = 32 ∨ M = 33 := by omega
  rcases h with rfl | rfl | rfl | rfl | rfl | rfl | rfl | rfl | rfl | rfl | rfl | rfl | rfl | rfl | rfl | rfl | rfl | rfl | rfl | rfl | rfl | rfl | rfl | rfl | rfl | rfl | rfl | rfl | rfl | rfl | rfl | rfl | rfl | rfl
  · exact mok_0
  · exact mok_1
  · exact mok_2
  · exact mok_3
  · exact mok_4
  · exact mok_5
  · exact mok_6
  · exact mok_7
  · exact mok_8
  · exact mok_9
  · exact mok_10
  · exact mok_11
  · exact mok_12
  · exact mok_13
  · exact mok_14
  · exact mok_15
  · exact mok_16
  · exact mok_17
  · exact mok_18
  · exact mok_19
  · exact mok_20
  · exact mok_21
  · exact mok_22
  · exact mok_23
  · exact mok_24
  · exact mok_25
  · exact mok_26
  · exact mok_27
  · exact mok_28
  · exact mok_29
  · exact mok_30
  · exact mok_31
  · exact mok_32
  · exact mok_33
