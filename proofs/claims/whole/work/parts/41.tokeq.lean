/-! both take the same tokens -/
def dgQ (a b : Int32) : Prop := (∃ m, m ≤ 99 ∧ a = nI m ∧ b = nI m) ∨ (a = nI 100 ∧ ∃ m, 100 ≤ m ∧ m ≤ 1000 ∧ b = nI m)
theorem dig_n {x : Int32} (h : digB x = true) : ∃ e, 48 ≤ e ∧ e ≤ 57 ∧ x = nI e := by
  unfold digB at h
  simp only [Bool.and_eq_true, decide_eq_true_eq] at h
  obtain ⟨m, h1, h2⟩ := (rngB (x := x) (k := 57) (by omega)).mp (by simp only [Bool.and_eq_true, decide_eq_true_eq]; exact ⟨Int32.le_trans (by decide) h.1, h.2⟩)
  refine ⟨m, ?_, h1, h2⟩
  have := h.1
  rw [h2] at this
  exact (nI_leI (a := 48) (by omega) (by omega)).mp this
theorem dg_val {m e : Nat} (he : 48 ≤ e) : 10 * nI m + nI e - 48 = nI (10 * m + e - 48) := by
  rw [show (10 : Int32) = nI 10 from rfl, pk_mul, nI_add, show (48 : Int32) = nI 48 from rfl, pk_sub (by omega)]
theorem dg_step {a b c : Int32} (h : dgQ a b) (hc : digB c = true) : dgQ (if 100 < 10 * a + c - 48 then 100 else 10 * a + c - 48) (if b ≤ 99 then 10 * b + c - 48 else b) := by
  obtain ⟨e, e1, e2, rfl⟩ := dig_n hc
  rcases h with ⟨m, h1, rfl, rfl⟩ | ⟨rfl, m, h1, h2, rfl⟩
  · rw [dg_val e1, if_pos (show nI m ≤ 99 from nI_le (b := 99) h1 (by omega))]
    by_cases h3 : 100 < 10 * m + e - 48
    · rw [if_pos (show (100 : Int32) < _ from nI_lt (a := 100) h3 (by omega))]
      exact Or.inr ⟨rfl, _, by omega, by omega, rfl⟩
    · rw [if_neg (show ¬ (100 : Int32) < _ from nI_nlt (b := 10 * m + e - 48) (a := 100) (by omega) (by omega))]
      by_cases h4 : 10 * m + e - 48 ≤ 99
      · exact Or.inl ⟨_, h4, rfl, rfl⟩
      · exact Or.inr ⟨by rw [show 10 * m + e - 48 = 100 by omega], _, by omega, by omega, rfl⟩
  · rw [dg_val e1, if_pos (show (100 : Int32) < _ from nI_lt (a := 100) (by omega) (by omega)), if_neg (show ¬ nI m ≤ 99 from nI_ge (a := 99) (by omega) (by omega))]
    exact Or.inr ⟨rfl, m, h1, h2, rfl⟩
theorem dg_eq (f : Nat → Int32) : ∀ j i a b, dgQ a b → (dgF f j i a).1 = (dgR f j i b).1 ∧ dgQ (dgF f j i a).2 (dgR f j i b).2
  | 0, _, _, _, h => ⟨rfl, h⟩
  | j + 1, i, a, b, h => by
    unfold dgF dgR
    by_cases hd : digB (f i) = true
    · rw [if_pos hd, if_pos hd]
      exact dg_eq f j (i + 1) _ _ (dg_step h hd)
    · rw [if_neg hd, if_neg hd]
      exact ⟨rfl, h⟩
theorem kd_eq {a b : Int32} (h : dgQ a b) (c : Int32) (l : Nat) : (tkD c l a = 48 ∧ tkE c l b = 2 ∧ a = b) ∨ (tkD c l a = 63 ∧ tkE c l b = 4) := by
  unfold tkD tkE
  rcases h with ⟨m, h1, rfl, rfl⟩ | ⟨rfl, m, h1, h2, rfl⟩
  · have hn : ¬ 99 < nI m := nI_nlt (a := 99) (b := m) h1 (by omega)
    by_cases hz : c = 48 ∧ 1 < l
    · rw [if_pos (Or.inl hz), if_pos (Or.inr hz)]
      exact Or.inr ⟨rfl, rfl⟩
    · rw [if_neg (fun h => h.elim hz hn), if_neg (fun h => h.elim hn hz)]
      exact Or.inl ⟨rfl, rfl, rfl⟩
  · rw [if_pos (Or.inr (show (99 : Int32) < nI 100 from nI_lt (a := 99) (by omega) (by omega))), if_pos (Or.inl (show (99 : Int32) < nI m from nI_lt (a := 99) (by omega) (by omega)))]
    exact Or.inr ⟨rfl, rfl⟩
/-- the kinds of a token, as the class and as the reference say them -/
def KND (a : Int32) (va : Int32) (b : Int32) (vb : Int32) : Prop := (a = 46 ∧ b = 0) ∨ (a = 48 ∧ b = 2 ∧ va = vb) ∨ (a = 59 ∧ b = 3) ∨ (a = vb ∧ b = 1 ∧ (a = 107 ∨ a = 116 ∨ a = 112 ∨ a = 100)) ∨ (a = 63 ∧ b = 4)
theorem own_eq (c : Int32) (va : Int32) : KND (if ownB c = true then c else 63) va (knd c) c := by
  unfold KND knd ownB
  by_cases h1 : c = 59
  · subst h1; exact Or.inr (Or.inr (Or.inl ⟨by decide, by decide⟩))
  · by_cases h2 : c = 107 ∨ c = 116 ∨ c = 112 ∨ c = 100
    · rw [if_neg h1, if_pos h2, if_pos (by rcases h2 with rfl | rfl | rfl | rfl <;> decide)]
      exact Or.inr (Or.inr (Or.inr (Or.inl ⟨rfl, rfl, h2⟩)))
    · rw [if_neg h1, if_neg h2, if_neg (by
        intro h
        simp only [Bool.or_eq_true, decide_eq_true_eq] at h
        rcases h with h | h | h | h | h
        · exact h2 (Or.inl h)
        · exact h2 (Or.inr (Or.inl h))
        · exact h2 (Or.inr (Or.inr (Or.inl h)))
        · exact h2 (Or.inr (Or.inr (Or.inr h)))
        · exact h1 h)]
      exact Or.inr (Or.inr (Or.inr (Or.inr ⟨rfl, rfl⟩)))
theorem tok_eq (f : Nat → Int32) (k i : Nat) (tv vl : Int32) : (tkF f k i tv).1 = (tkG f k i vl).1 ∧ (tkF f k i tv).2.2.1 = (tkG f k i vl).2.2.1 ∧ KND (tkF f k i tv).2.1 (tkF f k i tv).2.2.2 (tkG f k i vl).2.1 (tkG f k i vl).2.2.2 := by
  unfold tkF tkG
  by_cases h1 : k ≤ skp f (k - i) i
  · rw [if_pos h1, if_pos h1]
    exact ⟨rfl, rfl, Or.inl ⟨rfl, rfl⟩⟩
  · rw [if_neg h1, if_neg h1]
    by_cases h2 : digB (f (skp f (k - i) i)) = true
    · rw [if_pos h2, if_pos h2]
      have hd := dg_eq f (k - skp f (k - i) i) (skp f (k - i) i) 0 0 (Or.inl ⟨0, by omega, rfl, rfl⟩)
      refine ⟨hd.1, rfl, ?_⟩
      have hk := kd_eq hd.2 (f (skp f (k - i) i)) ((dgF f (k - skp f (k - i) i) (skp f (k - i) i) 0).1 - skp f (k - i) i)
      dsimp only
      rw [← hd.1]
      rcases hk with ⟨a, b, c⟩ | ⟨a, b⟩
      · exact Or.inr (Or.inl ⟨a, b, c⟩)
      · exact Or.inr (Or.inr (Or.inr (Or.inr ⟨a, b⟩)))
    · rw [if_neg h2, if_neg h2]
      exact ⟨rfl, rfl, own_eq _ _⟩
