/-! both read the same text -/
theorem rdA_stop {f : Nat → Int32} {k : Nat} {g : RG} {s : TS} {c : Nat} (h : s.2.1 = 46 ∨ ¬ s.2.2.2.2 = -1) : ∀ j, rdA f k j g s c = (g, s, c)
  | 0 => rfl
  | j + 1 => by unfold rdA; rw [if_pos h]
theorem rdB_stop {f : Nat → Int32} {k : Nat} {g : RG} {s : TS} {c : Nat} (h : 0 ≤ s.2.2.2.2 ∨ s.2.1 = 0) : ∀ j, rdB f k j g s c = (g, s, c)
  | 0 => rfl
  | j + 1 => by unfold rdB; rw [if_pos h]
def RDQ (k : Nat) (a b : RG × TS × Nat) : Prop := (∃ n q dn, TEL n q dn a.1 b.1 ∧ a.2.1.2.2.2.2 = -1 ∧ b.2.1.2.2.2.2 = -1 ∧ a.2.2 = b.2.2) ∨ FLT k a.2.1 b.2.1
theorem knd_end {k : Nat} {s r : TS} (h : AHD k s r) : s.2.1 = 46 ↔ r.2.1 = 0 := by
  rcases h.2.2.1 with ⟨a, b⟩ | ⟨a, b, _⟩ | ⟨a, b⟩ | ⟨_, b, c⟩ | ⟨a, b⟩
  · rw [a, b]; decide
  · rw [a, b]; decide
  · rw [a, b]; decide
  · rw [b]; rcases c with c | c | c | c <;> rw [c] <;> decide
  · rw [a, b]; decide
theorem ahd_inv {k : Nat} {s r : TS} (h : AHD k s r) : INV k r := by
  refine ⟨h.2.2.2.2.2.1, h.2.2.2.2.2.2, fun e => ?_⟩
  rcases h.2.2.1 with ⟨a, b⟩ | ⟨a, b, _⟩ | ⟨a, b⟩ | ⟨a, b, c⟩ | ⟨a, b⟩
  · rw [e] at b; exact absurd b (by decide)
  · rw [e] at b; exact absurd b (by decide)
  · rw [e] at b; exact absurd b (by decide)
  · rw [← a]; exact c
  · rw [e] at b; exact absurd b (by decide)
theorem flt_stop {f : Nat → Int32} {k : Nat} (hk : k ≤ 200) {g h : RG} {s r : TS} {c : Nat} (hf : FLT k s r) (j1 j2 : Nat) : RDQ k (rdA f k j1 g s c) (rdB f k j2 h r c) := by
  obtain ⟨h1, p, h2, h3, h4⟩ := id hf
  rw [rdA_stop (Or.inr (by rw [h3]; exact nI_m1 (by omega))), rdB_stop (Or.inl (by rw [h4]; exact nI_pos' (by omega)))]
  exact Or.inr hf
theorem read_eq {f : Nat → Int32} {k : Nat} (hk : k ≤ 200) : ∀ (j1 j2 : Nat) (g h : RG) (s r : TS) (c n q dn : Nat), AHD k s r → TEL n q dn g h → (r.2.1 = 0 ∨ k + 1 ≤ r.1 + j1) → (r.2.1 = 0 ∨ k + 1 ≤ r.1 + j2) → RDQ k (rdA f k j1 g s c) (rdB f k j2 h r c) := by
  intro j1
  induction j1 with
  | zero =>
    intro j2 g h s r c n q dn ha hT h1 h2
    have hr := ha.2.2.2.2.2.1
    have e : r.2.1 = 0 := by rcases h1 with h1 | h1; exact h1; omega
    rw [rdA_stop (Or.inl ((knd_end ha).mpr e)), rdB_stop (Or.inr e)]
    exact Or.inl ⟨n, q, dn, hT, ha.2.2.2.1, ha.2.2.2.2.1, rfl⟩
  | succ j1 ih =>
    intro j2 g h s r c n q dn ha hT h1 h2
    have hr := ha.2.2.2.2.2.1
    by_cases e : r.2.1 = 0
    · rw [rdA_stop (Or.inl ((knd_end ha).mpr e)), rdB_stop (Or.inr e)]
      exact Or.inl ⟨n, q, dn, hT, ha.2.2.2.1, ha.2.2.2.2.1, rfl⟩
    · cases j2 with
      | zero => rcases h2 with h2 | h2; exact absurd h2 e; omega
      | succ j2 =>
        have hfr : ¬ (0 : Int32) ≤ r.2.2.2.2 := by rw [ha.2.2.2.2.1]; decide
        have a1 : rdA f k (j1 + 1) g s c = rdA f k j1 (it5 f k g s).1 (en5 f k (it5 f k g s).2) (c + 1) := by
          rw [rdA]
          rw [if_neg]
          rintro (h3 | h3)
          · exact e ((knd_end ha).mp h3)
          · exact h3 ha.2.2.2.1
        have a2 : rdB f k (j2 + 1) h r c = rdB f k j2 (z9 f k h r).1 (e9 f k (z9 f k h r).2) (c + 1) := by
          rw [rdB]
          rw [if_neg]
          rintro (h3 | h3)
          · exact hfr h3
          · exact e h3
        rw [a1, a2]
        have hta : TA9 h := ⟨⟨n, hT.1.2.2, hT.1.2.1⟩, ⟨q, hT.2.1.2.2, hT.2.1.2.1⟩, dn, hT.2.2.1.2.2, hT.2.2.1.2.1⟩
        have hz := z9_ok (f := f) hk (ahd_inv ha) hta hfr
        have hp : INV k (e9 f k (z9 f k h r).2) ∧ PRG r.1 (e9 f k (z9 f k h r).2) := tk9_inv hk hz.1 hz.2.1
        rcases item_eq (f := f) hk ha hT with ⟨n', q', dn', hT', hs⟩ | hf
        · rcases end_eq hk hs with ha' | hf
          · have hw : ¬ (0 : Int32) ≤ (e9 f k (z9 f k h r).2).2.2.2.2 := by rw [ha'.2.2.2.2.1]; decide
            have hq : (e9 f k (z9 f k h r).2).2.1 = 0 ∨ r.1 + 1 ≤ (e9 f k (z9 f k h r).2).1 := by
              rcases hp.2.2 with x | x | x
              · exact Or.inl x
              · exact absurd x hw
              · exact Or.inr x
            refine ih j2 _ _ _ _ _ n' q' dn' ha' hT' ?_ ?_
            · rcases hq with x | x
              · exact Or.inl x
              · rcases h1 with y | y
                · exact absurd y e
                · exact Or.inr (by omega)
            · rcases hq with x | x
              · exact Or.inl x
              · rcases h2 with y | y
                · exact absurd y e
                · exact Or.inr (by omega)
          · exact flt_stop hk hf _ _
        · exact flt_stop hk (end_flt hk hf) _ _
theorem tel_0 (g h : RG) : TEL 0 0 0 (bas g) (b9 h) := by
  refine ⟨⟨rfl, rfl, by omega⟩, ⟨rfl, rfl, by omega⟩, ⟨rfl, rfl, by omega⟩, fun u hu => ?_, fun t ht => absurd ht (Nat.not_lt_zero t), fun t ht => absurd ht (Nat.not_lt_zero t), fun t ht => absurd ht (Nat.not_lt_zero t)⟩
  match u, hu with
  | 0, _ => exact ⟨rfl, rfl, ⟨4, by omega, by omega, rfl⟩, ⟨6, by omega, by omega, rfl⟩⟩
  | 1, _ => exact ⟨rfl, rfl, ⟨20, by omega, by omega, rfl⟩, ⟨24, by omega, by omega, rfl⟩⟩
  | 2, _ => exact ⟨rfl, rfl, ⟨21, by omega, by omega, rfl⟩, ⟨40, by omega, by omega, rfl⟩⟩
theorem all_eq {f : Nat → Int32} {k : Nat} (hk : k ≤ 200) (g h : RG) : RDQ k (rAL f k g) (rBL f k h) := by
  unfold rAL rBL
  have ht := tok_eq f k 0 (g 0 4) (h 0 4)
  have ho := tkG_ok f (Nat.zero_le k) (h 0 4)
  refine read_eq hk 200 (k + 1) _ _ _ _ 0 0 0 0 ⟨ht.1, ht.2.1, ht.2.2, rfl, rfl, (tkG_le f (Nat.zero_le k) _).2, ho.1⟩ (tel_0 _ _) ?_ (Or.inr (by omega))
  rcases ho.2.2 with x | x
  · exact Or.inl x
  · exact Or.inr (by show k + 1 ≤ (tkG f k 0 (h 0 4)).1 + 200; omega)
