/-! both end an item alike -/
def AHD (k : Nat) (s r : TS) : Prop := s.1 = r.1 ∧ s.2.2.1 = r.2.2.1 ∧ KND s.2.1 s.2.2.2.1 r.2.1 r.2.2.2.1 ∧ s.2.2.2.2 = -1 ∧ r.2.2.2.2 = -1 ∧ r.1 ≤ k ∧ r.2.2.1 ≤ k
theorem syn_ahd {f : Nat → Int32} {k : Nat} {s r : TS} (h : SYN f k s r) : AHD k (tk5 f k s) r := by
  have ht := syn_tok h
  obtain ⟨h1, h2, h3, vl, e⟩ := id h
  refine ⟨ht.1, ht.2.1, ht.2.2.1, ht.2.2.2, h2, ?_, ?_⟩
  · rw [← ht.1]; exact tk5_le h3
  · rw [e]; exact (tkG_ok f h3 vl).1
theorem ahd_syn {f : Nat → Int32} {k : Nat} {s r : TS} (h : AHD k s r) : SYN f k s (ad9 f k r) := by
  obtain ⟨h1, h2, h3, h4, h5, h6, h7⟩ := h
  refine ⟨h4, h5, by rw [h1]; exact h6, r.2.2.2.1, ?_⟩
  rw [h1]
  unfold ad9
  rw [h5]
theorem end_eq {f : Nat → Int32} {k : Nat} (hk : k ≤ 200) {s r : TS} (h : SYN f k s r) : AHD k (en5 f k s) (e9 f k r) ∨ FLT k (en5 f k s) (e9 f k r) := by
  have ht := syn_tok h
  have h2 := h.2.1
  unfold en5 e9
  by_cases hc : (tk5 f k s).2.1 = 59
  · rw [if_pos hc]
    have hv : r.2.1 = 3 := by
      rcases ht.2.2.1 with ⟨a, _⟩ | ⟨a, _⟩ | ⟨_, b⟩ | ⟨_, _, c⟩ | ⟨a, _⟩
      · rw [hc] at a; exact absurd a (by decide)
      · rw [hc] at a; exact absurd a (by decide)
      · exact b
      · rw [hc] at c; exact absurd c (by decide)
      · rw [hc] at a; exact absurd a (by decide)
    rw [decide_eq_true hv]
    have e : tk9 f k true r = (r.2.2.2.1, ad9 f k r) := by
      unfold tk9
      rw [if_neg (by rw [h2]; decide), if_neg (by decide)]
    rw [e]
    exact Or.inl (syn_ahd (syn_next h))
  · rw [if_neg hc]
    have hv : ¬ r.2.1 = 3 := by
      intro hx
      rcases ht.2.2.1 with ⟨_, b⟩ | ⟨_, b, _⟩ | ⟨a, _⟩ | ⟨_, b, _⟩ | ⟨_, b⟩
      · rw [hx] at b; exact absurd b (by decide)
      · rw [hx] at b; exact absurd b (by decide)
      · exact hc a
      · rw [hx] at b; exact absurd b (by decide)
      · rw [hx] at b; exact absurd b (by decide)
    rw [decide_eq_false hv]
    exact Or.inr (flt_tk (syn_bad hk h))
theorem end_flt {f : Nat → Int32} {k : Nat} (hk : k ≤ 200) {s r : TS} (h : FLT k s r) : FLT k (en5 f k s) (e9 f k r) := by
  unfold en5 e9
  apply flt_tk
  split
  · exact flt_tk9 hk (flt_tk h)
  · exact flt_tk9 hk (flt_rf hk (flt_tk h))
