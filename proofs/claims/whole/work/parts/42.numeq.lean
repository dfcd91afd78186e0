/-! both read the same numbers -/
def SYN (f : Nat → Int32) (k : Nat) (s r : TS) : Prop := s.2.2.2.2 = -1 ∧ r.2.2.2.2 = -1 ∧ s.1 ≤ k ∧ ∃ vl, r = ((tkG f k s.1 vl).1, (tkG f k s.1 vl).2.1, (tkG f k s.1 vl).2.2.1, (tkG f k s.1 vl).2.2.2, -1)
def FLT (k : Nat) (s r : TS) : Prop := s.1 ≤ k ∧ ∃ p, p ≤ k ∧ s.2.2.2.2 = nI p ∧ r.2.2.2.2 = nI p
theorem nI_m1 {p : Nat} (hp : p ≤ 200) : ¬ nI p = -1 := fun h => by
  have h2 := nI_pos (n := p) (by omega)
  rw [h] at h2
  exact h2 (by decide)
theorem flt_tk {f : Nat → Int32} {k : Nat} {s r : TS} (h : FLT k s r) : FLT k (tk5 f k s) r := by
  obtain ⟨h1, p, h2, h3, h4⟩ := h
  exact ⟨tk5_le h1, p, h2, h3, h4⟩
theorem flt_rf {k : Nat} (hk : k ≤ 200) {s r : TS} (h : FLT k s r) : FLT k (rf5 s) r := by
  obtain ⟨h1, p, h2, h3, h4⟩ := id h
  unfold rf5
  rw [if_neg (by rw [h3]; exact nI_m1 (by omega))]
  exact h
theorem flt_tk9 {f : Nat → Int32} {k : Nat} (hk : k ≤ 200) {b : Bool} {s r : TS} (h : FLT k s r) : FLT k s (tk9 f k b r).2 := by
  obtain ⟨h1, p, h2, h3, h4⟩ := id h
  unfold tk9
  rw [if_pos (by rw [h4]; exact nI_pos' (by omega))]
  exact h
theorem syn_tok {f : Nat → Int32} {k : Nat} {s r : TS} (h : SYN f k s r) : (tk5 f k s).1 = r.1 ∧ (tk5 f k s).2.2.1 = r.2.2.1 ∧ KND (tk5 f k s).2.1 (tk5 f k s).2.2.2.1 r.2.1 r.2.2.2.1 ∧ (tk5 f k s).2.2.2.2 = -1 := by
  obtain ⟨h1, h2, h3, vl, rfl⟩ := h
  have := tok_eq f k s.1 s.2.2.2.1 vl
  exact ⟨this.1, this.2.1, this.2.2, h1⟩
theorem syn_next {f : Nat → Int32} {k : Nat} {s r : TS} (h : SYN f k s r) : SYN f k (tk5 f k s) (ad9 f k r) := by
  have ht := syn_tok h
  obtain ⟨h1, h2, h3, h4⟩ := id h
  refine ⟨ht.2.2.2, h2, tk5_le h3, r.2.2.2.1, ?_⟩
  rw [ht.1]
  unfold ad9
  rw [h2]
theorem syn_bad {f : Nat → Int32} {k : Nat} (hk : k ≤ 200) {s r : TS} (h : SYN f k s r) : FLT k (rf5 (tk5 f k s)) (tk9 f k false r).2 := by
  have ht := syn_tok h
  obtain ⟨h1, h2, h3, vl, e⟩ := id h
  have hp : r.2.2.1 ≤ k := by rw [e]; exact (tkG_ok f h3 vl).1
  unfold rf5 tk9
  rw [if_pos ht.2.2.2, if_neg (by rw [h2]; decide), if_pos rfl]
  exact ⟨tk5_le h3, r.2.2.1, hp, by rw [ht.2.1], rfl⟩
theorem num_eq {f : Nat → Int32} {k : Nat} (hk : k ≤ 200) {s r : TS} (lo hi : Int32) (h : SYN f k s r) : (SYN f k (nm5 f k lo hi s).2 (nm9 f k lo hi r).2 ∧ (nm5 f k lo hi s).1 = (nm9 f k lo hi r).1) ∨ FLT k (nm5 f k lo hi s).2 (nm9 f k lo hi r).2 := by
  have ht := syn_tok h
  have h2 := h.2.1
  unfold nm5 nm9
  by_cases hc : (tk5 f k s).2.1 = 48 ∧ lo ≤ (tk5 f k s).2.2.2.1 ∧ (tk5 f k s).2.2.2.1 ≤ hi
  · rw [if_pos hc]
    have hv : r.2.1 = 2 ∧ (tk5 f k s).2.2.2.1 = r.2.2.2.1 := by
      rcases ht.2.2.1 with ⟨a, _⟩ | ⟨_, b, c⟩ | ⟨a, _⟩ | ⟨a, b, c⟩ | ⟨a, _⟩
      · rw [hc.1] at a; exact absurd a (by decide)
      · exact ⟨b, c⟩
      · rw [hc.1] at a; exact absurd a (by decide)
      · rw [hc.1] at c; exact absurd c (by decide)
      · rw [hc.1] at a; exact absurd a (by decide)
    have hb : (decide (r.2.1 = 2) && (decide (lo ≤ r.2.2.2.1) && decide (r.2.2.2.1 ≤ hi))) = true := by
      rw [← hv.2]
      simp [hv.1, hc.2.1, hc.2.2]
    rw [hb]
    have e : tk9 f k true r = (r.2.2.2.1, ad9 f k r) := by
      unfold tk9
      rw [if_neg (by rw [h2]; decide), if_neg (by decide)]
    rw [e]
    exact Or.inl ⟨syn_next h, hv.2⟩
  · rw [if_neg hc]
    have hb : (decide (r.2.1 = 2) && (decide (lo ≤ r.2.2.2.1) && decide (r.2.2.2.1 ≤ hi))) = false := by
      cases hx : (decide (r.2.1 = 2) && (decide (lo ≤ r.2.2.2.1) && decide (r.2.2.2.1 ≤ hi))) with
      | false => rfl
      | true =>
        simp only [Bool.and_eq_true, decide_eq_true_eq] at hx
        exfalso
        rcases ht.2.2.1 with ⟨_, b⟩ | ⟨a, b, c⟩ | ⟨_, b⟩ | ⟨_, b, _⟩ | ⟨_, b⟩
        · rw [hx.1] at b; exact absurd b (by decide)
        · exact hc ⟨a, by rw [c]; exact hx.2.1, by rw [c]; exact hx.2.2⟩
        · rw [hx.1] at b; exact absurd b (by decide)
        · rw [hx.1] at b; exact absurd b (by decide)
        · rw [hx.1] at b; exact absurd b (by decide)
    rw [hb]
    exact Or.inr (syn_bad hk h)
theorem num_flt {f : Nat → Int32} {k : Nat} (hk : k ≤ 200) {s r : TS} (lo hi : Int32) (lo' hi' : Int32) (h : FLT k s r) : FLT k (nm5 f k lo hi s).2 (nm9 f k lo' hi' r).2 := by
  unfold nm5 nm9
  split
  · exact flt_tk9 hk (flt_tk h)
  · exact flt_tk9 hk (flt_rf hk (flt_tk h))
