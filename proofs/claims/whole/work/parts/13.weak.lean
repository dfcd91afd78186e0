/-! what is less known of the locals: any answer stands for what is better known -/
theorem st1_get {ls : List Value} {i k : Nat} {v : Value} : (st1 ls i v)[k]? = if k = i then (if i < ls.length then some v else none) else if k + 1 = i ∧ (∃ u, ls[k]? = some u ∧ u.category = 2) then some .null else ls[k]? := by
  cases i with
  | zero =>
    simp only [st1, List.getElem?_set]
    by_cases hk : k = 0
    · subst hk; simp
    · simp [hk, Ne.symm hk]
  | succ j =>
    have two : ∀ x : Value, x.category = 2 → ls[j]? = some x → ((ls.set j .null).set (j + 1) v)[k]? = if k = j + 1 then (if j + 1 < ls.length then some v else none) else if k + 1 = j + 1 ∧ (∃ u, ls[k]? = some u ∧ u.category = 2) then some .null else ls[k]? := by
      intro x hx h
      have hl : j < ls.length := (List.getElem?_eq_some_iff.mp h).1
      simp only [List.getElem?_set, List.length_set]
      by_cases hk : k = j + 1
      · subst hk; simp
      · rw [if_neg hk, if_neg (Ne.symm hk)]
        by_cases hj : k = j
        · subst hj
          simp [hl, h, hx]
          intro q
          exact absurd (by simp [(List.getElem?_eq_some_iff.mp h).2, hx]) q
        · rw [if_neg (Ne.symm hj), if_neg (by omega)]
    simp only [st1]
    split
    · rename_i x h; exact two _ rfl h
    · rename_i x h; exact two _ rfl h
    · rename_i n1 n2
      simp only [List.getElem?_set]
      by_cases hk : k = j + 1
      · subst hk; simp
      · rw [if_neg hk, if_neg (Ne.symm hk)]
        rw [if_neg]
        rintro ⟨h1, u, h2, h3⟩
        have h1 : k = j := by omega
        subst h1
        cases u <;> simp [Value.category] at h3
        · exact absurd h2 (n1 _)
        · exact absurd h2 (n2 _)
theorem lle_refl (a : List Value) : lle a a := ⟨rfl, fun _ _ h _ => h⟩
theorem lle_0 : lle [] [] := lle_refl []
theorem lle_c {x : Value} {a b : List Value} (h : lle a b) : lle (x :: a) (x :: b) := ⟨by simp [h.1], fun k v h1 h2 => by
  cases k with
  | zero => exact h1
  | succ k => exact h.2 k v (by simpa using h1) h2⟩
theorem lle_n {y : Value} {a b : List Value} (h : lle a b) : lle (.null :: a) (y :: b) := ⟨by simp [h.1], fun k v h1 h2 => by
  cases k with
  | zero => simp at h1; exact absurd h1.symm h2
  | succ k => exact h.2 k v (by simpa using h1) h2⟩
theorem lle_st1 {a b : List Value} (h : lle a b) (i : Nat) (v : Value) : lle (st1 a i v) (st1 b i v) := by
  refine ⟨by rw [st1_len, st1_len]; exact h.1, fun k u h1 h2 => ?_⟩
  rw [st1_get] at h1 ⊢
  by_cases hk : k = i
  · rw [if_pos hk] at h1 ⊢
    rw [← h.1]; exact h1
  · rw [if_neg hk] at h1 ⊢
    by_cases hc : k + 1 = i ∧ ∃ u, a[k]? = some u ∧ u.category = 2
    · rw [if_pos hc] at h1
      cases h1
      exact absurd rfl h2
    · rw [if_neg hc] at h1
      have h3 := h.2 k u h1 h2
      rw [if_neg]
      · exact h3
      · rintro ⟨e1, u2, e2, e3⟩
        rw [h3] at e2
        cases e2
        exact hc ⟨e1, u, h1, e3⟩
theorem lle_st2 {a b : List Value} (h : lle a b) (i : Nat) (v : Value) : lle (st2 a i v) (st2 b i v) := by
  have h0 := lle_st1 h i v
  refine ⟨by simp only [st2, List.length_set]; exact h0.1, fun k u h1 h2 => ?_⟩
  unfold st2 at h1 ⊢
  by_cases hk : k = i + 1
  · subst hk
    rw [List.getElem?_set] at h1
    simp only [if_true] at h1
    split at h1
    · cases h1; exact absurd rfl h2
    · cases h1
  · rw [List.getElem?_set_ne (Ne.symm hk)] at h1 ⊢
    exact h0.2 k u h1 h2
set_option maxHeartbeats 4000000 in
theorem nx1_lle {row : Row} {i : Nat} {ls ls2 st : List Value} {w : AW} {i' : Nat} {ls' st' : List Value} (hl : lle ls ls2) (h : nx1 row i ls st w = some (i', ls', st')) : ∃ ls2', nx1 row i ls2 st w = some (i', ls2', st') ∧ lle ls' ls2' := by
  obtain ⟨pc, ins, a, b, z, zl, sw, ps⟩ := row
  cases ins with
  | ifCond c off =>
    cases c <;> simp only [nx1] at h ⊢ <;> split at h <;> first
      | (cases h; done)
      | (simp only [Option.some.injEq, Prod.mk.injEq] at h ⊢
         obtain ⟨rfl, rfl, rfl⟩ := h
         exact ⟨_, ⟨rfl, rfl, rfl⟩, hl⟩)
  | if_icmp c off =>
    cases c <;> simp only [nx1] at h ⊢ <;> split at h <;> first
      | (cases h; done)
      | (simp only [Option.some.injEq, Prod.mk.injEq] at h ⊢
         obtain ⟨rfl, rfl, rfl⟩ := h
         exact ⟨_, ⟨rfl, rfl, rfl⟩, hl⟩)
  | _ =>
    simp only [nx1] at h ⊢
    first
      | (cases h; done)
      | (simp at h; done)
      | (simp only [Option.some.injEq, Prod.mk.injEq] at h ⊢
         obtain ⟨rfl, rfl, rfl⟩ := h
         exact ⟨_, ⟨rfl, rfl, rfl⟩, hl⟩)
      | (repeat' split at h)
    all_goals first
      | (cases h; done)
      | (simp only [Option.some.injEq, Prod.mk.injEq] at h
         obtain ⟨rfl, rfl, rfl⟩ := h
         first
           | exact ⟨_, rfl, hl⟩
           | exact ⟨_, rfl, lle_st1 hl _ _⟩
           | exact ⟨_, rfl, lle_st2 hl _ _⟩
           | (rename_i hx; rw [hl.2 _ _ hx (by simp)]; exact ⟨_, rfl, hl⟩)
           | (rename_i hx; rw [hl.2 _ _ hx (by simp)]; exact ⟨_, rfl, lle_st1 hl _ _⟩)
           | (refine ⟨ls2, ?_, hl⟩; simp_all))
set_option maxHeartbeats 4000000 in
theorem nx12 {row : Row} {rt : Option FieldType} {d : Nat} {st : List Value} {w : AW} {q : A2} (h : nx2 row rt d st w = some q) (i : Nat) (ls : List Value) : nx1 row i ls st w = none := by
  obtain ⟨pc, ins, a, b, z, zl, sw, ps⟩ := row
  cases ins <;> first
    | rfl
    | (simp [nx2] at h; done)
theorem run_lle : ∀ (n d M i : Nat) (ls ls2 st : List Value) (w : AW) (x : AR), lle ls ls2 → run n d M i ls st w = some x → run n d M i ls2 st w = some x := by
  intro n
  induction n with
  | zero => intro d M i ls ls2 st w x hl h; simp [run] at h
  | succ n ih =>
    intro d M i ls ls2 st w x hl h
    rw [run] at h ⊢
    cases hr : (mP M)[i]? with
    | none => rw [hr] at h; simp at h
    | some row =>
      rw [hr] at h
      simp only at h ⊢
      cases h1 : nx1 row i ls st w with
      | some q =>
        obtain ⟨i', ls', st'⟩ := q
        rw [h1] at h
        simp only at h
        obtain ⟨ls2', e1, e2⟩ := nx1_lle hl h1
        rw [e1]
        exact ih _ _ _ _ _ _ _ _ e2 h
      | none =>
        rw [h1] at h
        simp only at h
        cases h2 : nx2 row (mR M) d st w with
        | none => rw [h2] at h; simp at h
        | some q =>
          rw [nx12 h2]
          rw [h2] at h
          match q, h with
          | .inl (st', w'), h => simp only at h ⊢; exact ih _ _ _ _ _ _ _ _ hl h
          | .inr (.inl r), h => exact h
          | .inr (.inr (d', M', args, rest)), h =>
            simp only at h ⊢
            cases h3 : run n d' M' 0 (ent (mL M') args) [] w with
            | none => rw [h3] at h; simp at h
            | some q =>
              rw [h3] at h
              obtain ⟨r, w'⟩ := q
              simp only at h ⊢
              exact ih _ _ _ _ _ _ _ _ hl h
theorem Ev.weak {d M i : Nat} {ls ls2 st : List Value} {w w' : AW} {r : Option Value} (hl : lle ls ls2) (h : Ev d M i ls st w r w') : Ev d M i ls2 st w r w' := by
  obtain ⟨n, hn⟩ := h
  exact ⟨n, run_lle _ _ _ _ _ _ _ _ _ hl hn⟩
