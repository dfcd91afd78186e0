/-! the tables are the code's: methods 34 to 72 -/
theorem mok_34 : mokB 34 = true := by decide +kernel
theorem mok_35 : mokB 35 = true := by decide +kernel
theorem mok_36 : mokB 36 = true := by decide +kernel
theorem mok_37 : mokB 37 = true := by decide +kernel
theorem mok_38 : mokB 38 = true := by decide +kernel
theorem mok_39 : mokB 39 = true := by decide +kernel
theorem mok_40 : mokB 40 = true := by decide +kernel
theorem mok_41 : mokB 41 = true := by decide +kernel
theorem mok_42 : mokB 42 = true := by decide +kernel
theorem mok_43 : mokB 43 = true := by decide +kernel
theorem mok_44 : mokB 44 = true := by decide +kernel
theorem mok_45 : mokB 45 = true := by decide +kernel
theorem mok_46 : mokB 46 = true := by decide +kernel
theorem mok_47 : mokB 47 = true := by decide +kernel
theorem mok_48 : mokB 48 = true := by decide +kernel
theorem mok_49 : mokB 49 = true := by decide +kernel
theorem mok_50 : mokB 50 = true := by decide +kernel
theorem mok_51 : mokB 51 = true := by decide +kernel
theorem mok_52 : mokB 52 = true := by decide +kernel
theorem mok_53 : mokB 53 = true := by decide +kernel
theorem mok_54 : mokB 54 = true := by decide +kernel
theorem mok_55 : mokB 55 = true := by decide +kernel
theorem mok_56 : mokB 56 = true := by decide +kernel
theorem mok_57 : mokB 57 = true := by decide +kernel
theorem mok_58 : mokB 58 = true := by decide +kernel
theorem mok_59 : mokB 59 = true := by decide +kernel
theorem mok_60 : mokB 60 = true := by decide +kernel
theorem mok_61 : mokB 61 = true := by decide +kernel
theorem mok_62 : mokB 62 = true := by decide +kernel
theorem mok_63 : mokB 63 = true := by decide +kernel
theorem mok_64 : mokB 64 = true := by decide +kernel
theorem mok_65 : mokB 65 = true := by decide +kernel
theorem mok_66 : mokB 66 = true := by decide +kernel
theorem mok_67 : mokB 67 = true := by decide +kernel
theorem mok_68 : mokB 68 = true := by decide +kernel
theorem mok_69 : mokB 69 = true := by decide +kernel
theorem mok_70 : mokB 70 = true := by decide +kernel
theorem mok_71 : mokB 71 = true := by decide +kernel
theorem mok_72 : mokB 72 = true := by decide +kernel
theorem mokR_1 (M : Nat) (h1 : 34 ≤ M) (h2 : M < 73) : mokB M = true := by
  have h : M = 34 ∨ M = 35 ∨ M = 36 ∨ M = 37 ∨ M = 38 ∨ M = 39 ∨ M = 40 ∨ M = 41 ∨ M = 42 ∨ M = 43 ∨ M = 44 ∨ M = 45 ∨ M = 46 ∨ M = 47 ∨ M = 48 ∨ M = 49 ∨ M = 50 ∨ M = 51 ∨ M = 52 ∨ M = 53 ∨ M = 54 ∨ M = 55 ∨ M = 56 ∨ M = 57 ∨ M = 58 ∨ M = 59 ∨ M = 60 ∨ M = 61 ∨ M = 62 ∨ M = 63 ∨ M = 64 ∨ M = 65 ∨ M = 66 ∨ M = 67 ∨ M = 68 ∨ M = 69 ∨ M = 70 ∨ M = 71 ∨ M = 72 := by omega
  rcases h with rfl | rfl | rfl | rfl | rfl | rfl | rfl | rfl | rfl | rfl | rfl | rfl | rfl | rfl | rfl | rfl | rfl | rfl | rfl | rfl | rfl | rfl | rfl | rfl | rfl | rfl | rfl | rfl | rfl | rfl | rfl | rfl | rfl | rfl | rfl | rfl | rfl | rfl | rfl
  · exact mok_34
  · exact mok_35
  · exact mok_36
  · exact mok_37
  · exact mok_38
  · exact mok_39
  · exact mok_40
  · exact mok_41
  · exact mok_42
  · exact mok_43
  · exact mok_44
  · exact mok_45
  · exact mok_46
  · exact mok_47
  · exact mok_48
  · exact mok_49
  · exact mok_50
  · exact mok_51
  · exact mok_52
  · exact mok_53
  · exact mok_54
  · exact mok_55
  · exact mok_56
  · exact mok_57
  · exact mok_58
  · exact mok_59
  · exact mok_60
  · exact mok_61
  · exact mok_62
  · exact mok_63
  · exact mok_64
  · exact mok_65
  · exact mok_66
  · exact mok_67
  · exact mok_68
  · exact mok_69
  · exact mok_70
  · exact mok_71
  · exact mok_72
