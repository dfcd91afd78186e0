/-! the tables are the code's: methods 73 to 104 -/
theorem mok_73 : mokB 73 = true := by decide +kernel
theorem mok_74 : mokB 74 = true := by decide +kernel
theorem mok_75 : mokB 75 = true := by decide +kernel
theorem mok_76 : mokB 76 = true := by decide +kernel
theorem mok_77 : mokB 77 = true := by decide +kernel
theorem mok_78 : mokB 78 = true := by decide +kernel
theorem mok_79 : mokB 79 = true := by decide +kernel
theorem mok_80 : mokB 80 = true := by decide +kernel
theorem mok_81 : mokB 81 = true := by decide +kernel
theorem mok_82 : mokB 82 = true := by decide +kernel
theorem mok_83 : mokB 83 = true := by decide +kernel
theorem mok_84 : mokB 84 = true := by decide +kernel
theorem mok_85 : mokB 85 = true := by decide +kernel
theorem mok_86 : mokB 86 = true := by decide +kernel
theorem mok_87 : mokB 87 = true := by decide +kernel
theorem mok_88 : mokB 88 = true := by decide +kernel
theorem mok_89 : mokB 89 = true := by decide +kernel
theorem mok_90 : mokB 90 = true := by decide +kernel
theorem mok_91 : mokB 91 = true := by decide +kernel
theorem mok_92 : mokB 92 = true := by decide +kernel
theorem mok_93 : mokB 93 = true := by decide +kernel
theorem mok_94 : mokB 94 = true := by decide +kernel
theorem mok_95 : mokB 95 = true := by decide +kernel
theorem mok_96 : mokB 96 = true := by decide +kernel
theorem mok_97 : mokB 97 = true := by decide +kernel
theorem mok_98 : mokB 98 = true := by decide +kernel
theorem mok_99 : mokB 99 = true := by decide +kernel
theorem mok_100 : mokB 100 = true := by decide +kernel
theorem mok_101 : mokB 101 = true := by decide +kernel
theorem mok_102 : mokB 102 = true := by decide +kernel
theorem mok_103 : mokB 103 = true := by decide +kernel
theorem mok_104 : mokB 104 = true := by decide +kernel
theorem mokR_2 (M : Nat) (h1 : 73 ≤ M) (h2 : M < 105) : mokB M = true := by
  have h : M = 73 ∨ M = 74 ∨ M = 75 ∨ M = 76 ∨ M = 77 ∨ M = 78 ∨ M = 79 ∨ M = 80 ∨ M = 81 ∨ M = 82 ∨ M = 83 ∨ M = 84 ∨ M = 85 ∨ M = 86 ∨ M = 87 ∨ M = 88 ∨ M = 89 ∨ M = 90 ∨ M = 91 ∨ M = 92 ∨ M = 93 ∨ M = 94 ∨ M = 95 ∨ M = 96 ∨ M = 97 ∨ M = 98 ∨ M = 99 ∨ M = 100 ∨ M = 101 ∨ M = 102 ∨ M = 103 ∨ M = 104 := by omega
  rcases h with rfl | rfl | rfl | rfl | rfl | rfl | rfl | rfl | rfl | rfl | rfl | rfl | rfl | rfl | rfl | rfl | rfl | rfl | rfl | rfl | rfl | rfl | rfl | rfl | rfl | rfl | rfl | rfl | rfl | rfl | rfl | rfl
  · exact mok_73
  · exact mok_74
  · exact mok_75
  · exact mok_76
  · exact mok_77
  · exact mok_78
  · exact mok_79
  · exact mok_80
  · exact mok_81
  · exact mok_82
  · exact mok_83
  · exact mok_84
  · exact mok_85
  · exact mok_86
  · exact mok_87
  · exact mok_88
  · exact mok_89
  · exact mok_90
  · exact mok_91
  · exact mok_92
  · exact mok_93
  · exact mok_94
  · exact mok_95
  · exact mok_96
  · exact mok_97
  · exact mok_98
  · exact mok_99
  · exact mok_100
  · exact mok_101
  · exact mok_102
  · exact mok_103
  · exact mok_104
