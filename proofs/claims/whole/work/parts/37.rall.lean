/-! the text: the reference reads all of it -/
def INV (k : Nat) (s : TS) : Prop := s.1 ≤ k ∧ s.2.2.1 ≤ k ∧ (s.2.1 = 1 → s.2.2.2.1 = 107 ∨ s.2.2.2.1 = 116 ∨ s.2.2.2.1 = 112 ∨ s.2.2.2.1 = 100)
def PRG (i : Nat) (s : TS) : Prop := i ≤ s.1 ∧ (s.2.1 = 0 ∨ 0 ≤ s.2.2.2.2 ∨ i + 1 ≤ s.1)
theorem knd_1 {c : Int32} (h : knd c = 1) : c = 107 ∨ c = 116 ∨ c = 112 ∨ c = 100 := by
  unfold knd at h
  split at h
  · exact absurd h (by decide)
  · split at h
    · assumption
    · exact absurd h (by decide)
theorem tkE_1 (c : Int32) (l : Nat) (v : Int32) : ¬ tkE c l v = 1 := by
  unfold tkE
  split <;> decide
theorem dgR_gt (f : Nat → Int32) {j i : Nat} {v : Int32} (hj : 0 < j) (h : digB (f i) = true) : i + 1 ≤ (dgR f j i v).1 := by
  obtain ⟨j, rfl⟩ : ∃ x, j = x + 1 := ⟨j - 1, by omega⟩
  unfold dgR
  rw [if_pos h]
  exact (dgR_le f j (i + 1) _).1
theorem tkG_ok (f : Nat → Int32) {k i : Nat} (h : i ≤ k) (vl : Int32) : (tkG f k i vl).2.2.1 ≤ k ∧ ((tkG f k i vl).2.1 = 1 → (tkG f k i vl).2.2.2 = 107 ∨ (tkG f k i vl).2.2.2 = 116 ∨ (tkG f k i vl).2.2.2 = 112 ∨ (tkG f k i vl).2.2.2 = 100) ∧ ((tkG f k i vl).2.1 = 0 ∨ i + 1 ≤ (tkG f k i vl).1) := by
  have h1 := skp_le f (k - i) i
  unfold tkG
  split
  · exact ⟨by show skp f (k - i) i ≤ k; omega, fun h => absurd (show (0 : Int32) = 1 from h) (by decide), Or.inl rfl⟩
  · split
    · rename_i h2 h3
      have := dgR_gt f (j := k - skp f (k - i) i) (v := 0) (by omega) h3
      exact ⟨by show skp f (k - i) i ≤ k; omega, fun h => absurd h (tkE_1 _ _ _), Or.inr (by show i + 1 ≤ (dgR _ _ _ _).1; omega)⟩
    · exact ⟨by show skp f (k - i) i ≤ k; omega, fun h => knd_1 h, Or.inr (by show i + 1 ≤ skp f (k - i) i + 1; omega)⟩
theorem tk9_inv {f : Nat → Int32} {k i : Nat} (hk : k ≤ 200) {b : Bool} {s : TS} (h : INV k s) (hp : PRG i s) : INV k (tk9 f k b s).2 ∧ PRG i (tk9 f k b s).2 := by
  obtain ⟨h1, h2, h3⟩ := id h
  unfold tk9
  split
  · exact ⟨h, hp⟩
  · split
    · exact ⟨⟨h1, h2, h3⟩, hp.1, Or.inr (Or.inl (nI_pos' (by omega)))⟩
    · have t1 := tkG_le f h1 s.2.2.2.1
      obtain ⟨t2, t3, t4⟩ := tkG_ok f h1 s.2.2.2.1
      have hp1 := hp.1
      refine ⟨⟨t1.2, t2, t3⟩, ?_, ?_⟩
      · show i ≤ (tkG f k s.1 s.2.2.2.1).1
        omega
      · rcases t4 with t4 | t4
        · exact Or.inl t4
        · exact Or.inr (Or.inr (by show i + 1 ≤ (tkG f k s.1 s.2.2.2.1).1; omega))
theorem tk9_first {f : Nat → Int32} {k : Nat} (hk : k ≤ 200) {b : Bool} {s : TS} (h : INV k s) : PRG s.1 (tk9 f k b s).2 := by
  obtain ⟨h1, h2, h3⟩ := id h
  unfold tk9
  split
  · rename_i h4
    exact ⟨Nat.le_refl _, Or.inr (Or.inl h4)⟩
  · split
    · exact ⟨Nat.le_refl _, Or.inr (Or.inl (nI_pos' (by omega)))⟩
    · have t1 := tkG_le f h1 s.2.2.2.1
      obtain ⟨t2, t3, t4⟩ := tkG_ok f h1 s.2.2.2.1
      refine ⟨t1.1, ?_⟩
      rcases t4 with t4 | t4
      · exact Or.inl t4
      · exact Or.inr (Or.inr t4)
theorem nm9_inv {f : Nat → Int32} {k i : Nat} (hk : k ≤ 200) {lo hi : Int32} {s : TS} (h : INV k s ∧ PRG i s) : INV k (nm9 f k lo hi s).2 ∧ PRG i (nm9 f k lo hi s).2 := tk9_inv hk h.1 h.2
def ri9 (f : Nat → Int32) (k : Nat) (v : Int32) (g : RG) (s : TS) : RG × TS := if v = 107 then rL9 f k g s else if v = 116 then rT9 f k (g 2 3).toNatClampNeg g s else if v = 112 then rP9 f k (g 2 4).toNatClampNeg g s else rD9 f k (g 2 5).toNatClampNeg g s
theorem ri9_inv {f : Nat → Int32} {k i : Nat} (hk : k ≤ 200) {v : Int32} {g : RG} {s : TS} (h : INV k s ∧ PRG i s) : INV k (ri9 f k v g s).2 ∧ PRG i (ri9 f k v g s).2 := by
  have e1 : (rL9 f k g s).2 = (nm9 f k (nm9 f k 0 60 (nm9 f k 0 2 s).2).1 60 (nm9 f k 0 60 (nm9 f k 0 2 s).2).2).2 := by unfold rL9; dsimp only
  have e2 : ∀ n, (rT9 f k n g s).2 = (nm9 f k 1 9 (nm9 f k 1 99 (nm9 f k 1 48 (nm9 f k 0 2 s).2).2).2).2 := fun n => by unfold rT9; dsimp only
  have e3 : ∀ n, (rP9 f k n g s).2 = (nm9 f k 1 99 (nm9 f k 1 48 s).2).2 := fun n => by unfold rP9; dsimp only
  have e4 : ∀ n, (rD9 f k n g s).2 = (nm9 f k 1 99 (nm9 f k 1 48 (nm9 f k ((nm9 f k 0 60 s).1 + 1) 99 (nm9 f k 0 60 s).2).2).2).2 := fun n => by unfold rD9; dsimp only
  unfold ri9
  split
  · rw [e1]
    exact nm9_inv hk (nm9_inv hk (nm9_inv hk h))
  · split
    · rw [e2]
      exact nm9_inv hk (nm9_inv hk (nm9_inv hk (nm9_inv hk h)))
    · split
      · rw [e3]
        exact nm9_inv hk (nm9_inv hk h)
      · rw [e4]
        exact nm9_inv hk (nm9_inv hk (nm9_inv hk (nm9_inv hk h)))
def b1F (g : RG) (s : TS) : Bool := decide (s.2.1 = 1) && mbB s.2.2.2.1 (g 2 3) (g 2 4) (g 2 5)
def z9 (f : Nat → Int32) (k : Nat) (g : RG) (s : TS) : RG × TS := if 0 ≤ (tk9 f k (b1F g s) s).2.2.2.2.2 then (g, (tk9 f k (b1F g s) s).2) else ri9 f k (tk9 f k (b1F g s) s).1 g (tk9 f k (b1F g s) s).2
def e9 (f : Nat → Int32) (k : Nat) (s : TS) : TS := (tk9 f k (decide (s.2.1 = 3)) s).2
def rdB (f : Nat → Int32) (k : Nat) : Nat → RG → TS → Nat → RG × TS × Nat
  | 0, g, s, c => (g, s, c)
  | j + 1, g, s, c => if 0 ≤ s.2.2.2.2 ∨ s.2.1 = 0 then (g, s, c) else rdB f k j (z9 f k g s).1 (e9 f k (z9 f k g s).2) (c + 1)
def TA9 (g : RG) : Prop := (∃ n, n ≤ 6 ∧ g 2 3 = nI n) ∧ (∃ n, n ≤ 5 ∧ g 2 4 = nI n) ∧ ∃ n, n ≤ 3 ∧ g 2 5 = nI n
theorem rL9_ne {f : Nat → Int32} {k : Nat} {g : RG} {s : TS} {r : Nat} (h : r ≠ 6) : (rL9 f k g s).1 r = g r := by
  unfold rL9
  show stA (stA g 6 _ _) 6 _ _ r = g r
  rw [stA_ne h, stA_ne h]
theorem rT9_ne {f : Nat → Int32} {k n : Nat} {g : RG} {s : TS} {r : Nat} (h : r ≠ 3) (h5 : r ≠ 2) : (rT9 f k n g s).1 r = g r := by
  unfold rT9
  show stA (stA (stA (stA (stA g 3 _ _) 3 _ _) 3 _ _) 3 _ _) 2 _ _ r = g r
  rw [stA_ne h5, stA_ne h, stA_ne h, stA_ne h, stA_ne h]
theorem rP9_ne {f : Nat → Int32} {k n : Nat} {g : RG} {s : TS} {r : Nat} (h : r ≠ 4) (h5 : r ≠ 2) : (rP9 f k n g s).1 r = g r := by
  unfold rP9
  show stA (stA (stA g 4 _ _) 4 _ _) 2 _ _ r = g r
  rw [stA_ne h5, stA_ne h, stA_ne h]
theorem rD9_ne {f : Nat → Int32} {k n : Nat} {g : RG} {s : TS} {r : Nat} (h : r ≠ 5) (h5 : r ≠ 2) : (rD9 f k n g s).1 r = g r := by
  unfold rD9
  show stA (stA (stA (stA (stA g 5 _ _) 5 _ _) 5 _ _) 5 _ _) 2 _ _ r = g r
  rw [stA_ne h5, stA_ne h, stA_ne h, stA_ne h, stA_ne h]
theorem rT9_2 {f : Nat → Int32} {k n : Nat} {g : RG} {s : TS} : (rT9 f k n g s).1 2 = upd (g 2) 3 (nI (n + 1)) := by
  unfold rT9
  show upd (stA (stA (stA (stA g 3 _ _) 3 _ _) 3 _ _) 3 _ _ 2) 3 _ = _
  rw [stA_ne (by decide), stA_ne (by decide), stA_ne (by decide), stA_ne (by decide)]
theorem rP9_2 {f : Nat → Int32} {k n : Nat} {g : RG} {s : TS} : (rP9 f k n g s).1 2 = upd (g 2) 4 (nI (n + 1)) := by
  unfold rP9
  show upd (stA (stA g 4 _ _) 4 _ _ 2) 4 _ = _
  rw [stA_ne (by decide), stA_ne (by decide)]
theorem rD9_2 {f : Nat → Int32} {k n : Nat} {g : RG} {s : TS} : (rD9 f k n g s).1 2 = upd (g 2) 5 (nI (n + 1)) := by
  unfold rD9
  show upd (stA (stA (stA (stA g 5 _ _) 5 _ _) 5 _ _) 5 _ _ 2) 5 _ = _
  rw [stA_ne (by decide), stA_ne (by decide), stA_ne (by decide), stA_ne (by decide)]
theorem ta9_up {g g' : RG} {x c : Nat} (h : TA9 g) (e : g' 2 = upd (g 2) x (nI c)) (hx : (x = 3 ∧ c ≤ 6) ∨ (x = 4 ∧ c ≤ 5) ∨ (x = 5 ∧ c ≤ 3)) : TA9 g' := by
  obtain ⟨h0, h1, h2⟩ := h
  unfold TA9
  rw [e]
  rcases hx with ⟨rfl, hc⟩ | ⟨rfl, hc⟩ | ⟨rfl, hc⟩
  · exact ⟨⟨c, hc, if_pos rfl⟩, h1, h2⟩
  · exact ⟨h0, ⟨c, hc, if_pos rfl⟩, h2⟩
  · exact ⟨h0, h1, ⟨c, hc, if_pos rfl⟩⟩
