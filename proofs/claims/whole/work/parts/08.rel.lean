/-! the abstract machine's states, and the machine's -/
def cV (ρ : Nat → Nat) : Value → Value
  | .ref k => .ref (ρ k)
  | .int x => .int x
  | .long x => .long x
  | .float x => .float x
  | .double x => .double x
  | .null => .null
  | .retAddr x => .retAddr x
theorem cV_cat (ρ : Nat → Nat) (v : Value) : (cV ρ v).category = v.category := by cases v <;> rfl
theorem cats (ρ : Nat → Nat) (l : List Value) : ((l.map (cV ρ)).map fun v => v.category).sum = (l.map Value.category).sum := by
  rw [List.map_map]
  congr 1
  exact List.map_congr_left (fun v _ => cV_cat ρ v)
def cA (ρ : Nat → Nat) (x : vp_A) : vp_A := match x with
  | (n, .inl f) => (n, .inl f)
  | (n, .inr (.inl f)) => (n, .inr (.inl f))
  | (n, .inr (.inr (.inl f))) => (n, .inr (.inr (.inl f)))
  | (n, .inr (.inr (.inr (.inl f)))) => (n, .inr (.inr (.inr (.inl f))))
  | (n, .inr (.inr (.inr (.inr f)))) => (n, .inr (.inr (.inr (.inr (fun j => (f j).map ρ)))))
def cE (ρ : Nat → Nat) (tys : List (ClassId × FieldType)) (x : AE) : va_E := match x with
  | .inl (t, x) => .inl ((tys.getD t (0, .int)).1, cA ρ x)
  | .inr (ci, fs) => .inr (ci, fs.map (cV ρ))
def cW (ρ : Nat → Nat) (tys : List (ClassId × FieldType)) (w : AW) : va_W := w.mapIdx (fun k e => (ρ k, cE ρ tys e))
section CW
variable {ρ : Nat → Nat} {tys : List (ClassId × FieldType)} {w : AW} {k : Nat} {e : AE}
theorem cW_at (h : w[k]? = some e) : (cW ρ tys w)[k]? = some (ρ k, cE ρ tys e) := by
  simp [cW, List.getElem?_mapIdx, h]
theorem cW_of {q : Nat × va_E} (h : (cW ρ tys w)[k]? = some q) : ∃ e, w[k]? = some e ∧ q = (ρ k, cE ρ tys e) := by
  simp only [cW, List.getElem?_mapIdx, Option.map_eq_some_iff] at h
  obtain ⟨e, h1, h2⟩ := h
  exact ⟨e, h1, h2.symm⟩
theorem cW_set : cW ρ tys (w.set k e) = (cW ρ tys w).set k (ρ k, cE ρ tys e) := by
  apply List.ext_getElem?
  intro j
  simp only [cW, List.getElem?_mapIdx, List.getElem?_set, List.length_mapIdx]
  by_cases h : k = j
  · subst h
    by_cases h2 : k < w.length
    · simp [h2]
    · simp [h2]
  · simp [h]
theorem cW_push : cW ρ tys (w ++ [e]) = cW ρ tys w ++ [(ρ w.length, cE ρ tys e)] := by
  simp [cW, List.mapIdx_append]
end CW
/-- what is yet to be made comes in a row -/
def Fut (ρ : Nat → Nat) (n sz : Nat) : Prop := ∀ k, n ≤ k → k < 1000000 → ρ k = sz + (k - n)
def sl1 (e : AE) : Nat := match e with
  | .inl (_, n, _) => n
  | .inr (_, fs) => fs.length
def sl (w : AW) : Nat := (w.map sl1).sum
theorem sl_push (w : AW) (e : AE) : sl (w ++ [e]) = sl w + sl1 e := by simp [sl]
theorem sl_set {w : AW} {k : Nat} {e e' : AE} (h : w[k]? = some e) (hs : sl1 e' = sl1 e) : sl (w.set k e') = sl w := by
  unfold sl
  congr 1
  apply List.ext_getElem?
  intro j
  simp only [List.getElem?_map, List.getElem?_set]
  by_cases h2 : k = j
  · subst h2
    obtain ⟨hl, he⟩ := List.getElem?_eq_some_iff.mp h
    simp [hl, he, hs]
  · simp [h2]
/-- locals -/
def LR (ρ : Nat → Nat) (nL : Nat) (ls : List Value) (lc : Array Slot) : Prop := lc.size = nL ∧ lv_wf lc ∧ ls.length = nL ∧ ∀ (k : Nat) (v : Value), ls[k]? = some v → v ≠ .null → lc[k]? = some (.val (cV ρ v))
def lvl (ρ : Nat → Nat) (ls : List Value) : List (Nat × Value) := (ls.mapIdx (fun k v => (k, cV ρ v))).filter (fun q => decide (q.2 ≠ .null))
theorem cV_null {ρ : Nat → Nat} {v : Value} : cV ρ v = .null ↔ v = .null := by cases v <;> simp [cV]
theorem lvl_mem {ρ : Nat → Nat} {ls : List Value} {q : Nat × Value} : q ∈ lvl ρ ls ↔ ∃ v, ls[q.1]? = some v ∧ v ≠ .null ∧ q.2 = cV ρ v := by
  simp only [lvl, List.mem_filter, List.mem_mapIdx, decide_eq_true_eq]
  constructor
  · rintro ⟨⟨i, hi, rfl⟩, h2⟩
    exact ⟨ls[i], by simp [hi], fun h => h2 (cV_null.mpr h), rfl⟩
  · rintro ⟨v, h1, h2, h3⟩
    obtain ⟨hl, he⟩ := List.getElem?_eq_some_iff.mp h1
    refine ⟨⟨q.1, hl, ?_⟩, by rw [h3]; exact fun h => h2 (cV_null.mp h)⟩
    rw [he, ← h3]
theorem LR.has {ρ : Nat → Nat} {nL : Nat} {ls : List Value} {lc : Array Slot} (h : LR ρ nL ls lc) : lv_has lc nL (lvl ρ ls) := by
  refine ⟨h.1, h.2.1, fun q hq => ?_⟩
  obtain ⟨v, h1, h2, h3⟩ := lvl_mem.mp hq
  rw [h3]
  exact h.2.2.2 _ _ h1 h2
theorem LR.of {ρ : Nat → Nat} {nL : Nat} {ls : List Value} {lc : Array Slot} {l : List (Nat × Value)} (h : lv_has lc nL l) (hl : ls.length = nL) (hm : ∀ (k : Nat) (v : Value), ls[k]? = some v → v ≠ .null → (k, cV ρ v) ∈ l) : LR ρ nL ls lc :=
  ⟨h.1, h.2.1, hl, fun k v h1 h2 => h.2.2 _ (hm k v h1 h2)⟩
theorem LR.at {ρ : Nat → Nat} {nL : Nat} {ls : List Value} {lc : Array Slot} (h : LR ρ nL ls lc) {k : Nat} {v : Value} (h1 : ls[k]? = some v) (h2 : v ≠ .null) : lc[k]? = some (.val (cV ρ v)) := h.2.2.2 k v h1 h2
theorem st1_main {ls l2 : List Value} {j k : Nat} {v u : Value} (hi : j + 1 < ls.length) (hu : u ≠ .null) (h2 : ∀ k : Nat, l2[k]? = ls[k]? ∨ (k = j ∧ l2[k]? = some .null)) (hl : l2.length = ls.length) (h : (l2.set (j + 1) v)[k]? = some u) (hc : ls[j]? = some u → u.category = 2 → l2[j]? = some .null) : (k = j + 1 ∧ u = v) ∨ (k ≠ j + 1 ∧ ls[k]? = some u ∧ ¬ (k + 1 = j + 1 ∧ u.category = 2)) := by
  simp only [List.getElem?_set] at h
  by_cases hk : j + 1 = k
  · subst hk
    simp [hl, hi] at h
    exact Or.inl ⟨rfl, h.symm⟩
  · simp only [hk, if_false] at h
    have h5 : ls[k]? = some u := by
      rcases h2 k with h3 | ⟨h3, h4⟩
      · rw [← h3]; exact h
      · rw [h4] at h; cases h; exact absurd rfl hu
    refine Or.inr ⟨fun e => hk e.symm, h5, ?_⟩
    rintro ⟨e1, e2⟩
    have e1 : k = j := by omega
    subst e1
    rw [hc h5 e2] at h
    cases h
    exact hu rfl
theorem st1_at {ls : List Value} {i k : Nat} {v u : Value} (hi : i < ls.length) (h : (st1 ls i v)[k]? = some u) (hu : u ≠ .null) : (k = i ∧ u = v) ∨ (k ≠ i ∧ ls[k]? = some u ∧ ¬ (k + 1 = i ∧ u.category = 2)) := by
  cases i with
  | zero =>
    simp only [st1, List.getElem?_set] at h
    by_cases hk : 0 = k
    · subst hk
      simp [hi] at h
      exact Or.inl ⟨rfl, h.symm⟩
    · simp [hk] at h
      exact Or.inr ⟨fun e => hk e.symm, h, by omega⟩
  | succ j =>
    have hj : j < ls.length := by omega
    have two : ∀ k : Nat, (ls.set j .null)[k]? = ls[k]? ∨ (k = j ∧ (ls.set j .null)[k]? = some .null) := by
      intro k
      by_cases e : k = j
      · subst e; exact Or.inr ⟨rfl, by simp [hj]⟩
      · exact Or.inl (by simp [List.getElem?_set, Ne.symm e])
    simp only [st1] at h
    split at h
    · exact st1_main hi hu two (by simp) h (fun _ _ => by simp [hj])
    · exact st1_main hi hu two (by simp) h (fun _ _ => by simp [hj])
    · rename_i n1 n2
      refine st1_main hi hu (fun k => Or.inl rfl) rfl h (fun h5 h6 => ?_)
      cases u <;> simp [Value.category] at h6
      · exact absurd h5 (n1 _)
      · exact absurd h5 (n2 _)
theorem st1_len (ls : List Value) (i : Nat) (v : Value) : (st1 ls i v).length = ls.length := by
  unfold st1
  cases i with
  | zero => simp
  | succ j => simp only []; split <;> simp
theorem LR.store1 {ρ : Nat → Nat} {nL : Nat} {ls : List Value} {lc lc' : Array Slot} {i : Nat} {v : Value} (h : LR ρ nL ls lc) (hi : i < nL) (hh : lv_has lc' nL ((i, cV ρ v) :: (lvl ρ ls).filter (fun q => !(q.1 == i) && !(q.1 + 1 == i && q.2.category == 2)))) : LR ρ nL (st1 ls i v) lc' := by
  refine LR.of hh (by rw [st1_len]; exact h.2.2.1) (fun k u h1 h2 => ?_)
  rcases st1_at (by rw [h.2.2.1]; exact hi) h1 h2 with ⟨rfl, rfl⟩ | ⟨a1, a2, a3⟩
  · exact List.mem_cons_self
  · refine List.mem_cons_of_mem _ (List.mem_filter.mpr ⟨lvl_mem.mpr ⟨u, a2, h2, rfl⟩, ?_⟩)
    simp only [Bool.and_eq_true, Bool.not_eq_true', beq_eq_false_iff_ne, ne_eq, Bool.and_eq_false_iff]
    refine ⟨a1, ?_⟩
    by_cases e : k + 1 = i
    · refine Or.inr ?_
      rw [cV_cat]
      exact fun q => a3 ⟨e, q⟩
    · exact Or.inl e
theorem LR.store2 {ρ : Nat → Nat} {nL : Nat} {ls : List Value} {lc lc' : Array Slot} {i : Nat} {v : Value} (h : LR ρ nL ls lc) (hi : i + 1 < nL) (hh : lv_has lc' nL ((i, cV ρ v) :: (lvl ρ ls).filter (fun q => !(q.1 == i) && (!(q.1 == i + 1) && !(q.1 + 1 == i && q.2.category == 2))))) : LR ρ nL (st2 ls i v) lc' := by
  refine LR.of hh (by unfold st2; rw [List.length_set, st1_len]; exact h.2.2.1) (fun k u h1 h2 => ?_)
  unfold st2 at h1
  have hlen : (st1 ls i v).length = nL := by rw [st1_len]; exact h.2.2.1
  have hk : k ≠ i + 1 := by
    intro e
    subst e
    rw [List.getElem?_set_self (by omega)] at h1
    cases h1
    exact h2 rfl
  rw [List.getElem?_set_ne (Ne.symm hk)] at h1
  rcases st1_at (by rw [h.2.2.1]; omega) h1 h2 with ⟨rfl, rfl⟩ | ⟨a1, a2, a3⟩
  · exact List.mem_cons_self
  · refine List.mem_cons_of_mem _ (List.mem_filter.mpr ⟨lvl_mem.mpr ⟨u, a2, h2, rfl⟩, ?_⟩)
    simp only [Bool.and_eq_true, Bool.not_eq_true', beq_eq_false_iff_ne, ne_eq, Bool.and_eq_false_iff]
    refine ⟨a1, hk, ?_⟩
    by_cases e : k + 1 = i
    · refine Or.inr ?_
      rw [cV_cat]
      exact fun q => a3 ⟨e, q⟩
    · exact Or.inl e
theorem lgl_len (ρ : Nat → Nat) : ∀ (vs : List Value), (lg_sl (vs.map (cV ρ))).length = (spr vs).length
  | [] => by simp [lg_sl, spr]
  | v :: vs => by
    have ih := lgl_len ρ vs
    have e : ∀ (u : Value) (us : List Value), lg_sl (u :: us) = (if u.category = 2 then [Slot.val u, .second] else [Slot.val u]) ++ lg_sl us := fun u us => by simp only [lg_sl, List.flatMap_cons]
    rw [List.map_cons, e, List.length_append, ih, cV_cat]
    cases v <;> simp [spr, Value.category] <;> omega
theorem ent_mem (ρ : Nat → Nat) : ∀ (vs : List Value) (n i k : Nat) (v : Value), (spr vs ++ List.replicate n Value.null)[k]? = some v → v ≠ .null → (i + k, cV ρ v) ∈ lv_args i (vs.map (cV ρ))
  | [], n, i, k, v, h, hv => by
    simp only [spr, List.nil_append, List.getElem?_replicate] at h
    split at h
    · cases h; exact absurd rfl hv
    · cases h
  | u :: vs, n, i, k, v, h, hv => by
    have one : (v = u ∧ k = 0) ∨ (u.category = 1 ∧ ∃ j, k = j + 1 ∧ (spr vs ++ List.replicate n Value.null)[j]? = some v) ∨ (u.category = 2 ∧ ∃ j, k = j + 2 ∧ (spr vs ++ List.replicate n Value.null)[j]? = some v) := by
      cases k with
      | zero => cases u <;> simp [spr] at h <;> exact Or.inl ⟨h.symm, rfl⟩
      | succ k =>
        have w2 : ∀ l : List Value, (Value.null :: l)[k]? = some v → ∃ j, k = j + 1 ∧ l[j]? = some v := by
          intro l hl
          cases k with
          | zero => simp at hl; exact absurd hl.symm hv
          | succ j => exact ⟨j, rfl, by simpa using hl⟩
        cases u <;> simp only [spr, List.cons_append, List.getElem?_cons_succ] at h
        case long =>
          obtain ⟨j, e, hj⟩ := w2 _ h
          exact Or.inr (Or.inr ⟨rfl, j, by omega, hj⟩)
        case double =>
          obtain ⟨j, e, hj⟩ := w2 _ h
          exact Or.inr (Or.inr ⟨rfl, j, by omega, hj⟩)
        all_goals exact Or.inr (Or.inl ⟨rfl, k, rfl, h⟩)
    rcases one with ⟨rfl, rfl⟩ | ⟨hc, j, rfl, hj⟩ | ⟨hc, j, rfl, hj⟩
    · exact List.mem_cons_self
    · have := ent_mem ρ vs n (i + 1) j v hj hv
      simp only [List.map_cons, lv_args, cV_cat, hc]
      exact List.mem_cons_of_mem _ (by simpa [Nat.add_assoc, Nat.add_comm, Nat.add_left_comm] using this)
    · have := ent_mem ρ vs n (i + 2) j v hj hv
      simp only [List.map_cons, lv_args, cV_cat, hc]
      exact List.mem_cons_of_mem _ (by simpa [Nat.add_assoc, Nat.add_comm, Nat.add_left_comm] using this)
theorem LR.entry {ρ : Nat → Nat} {nL : Nat} {vs : List Value} (h : (spr vs).length ≤ nL) : LR ρ nL (ent nL vs) ((lg_sl (vs.map (cV ρ)) ++ List.replicate (nL - (lg_sl (vs.map (cV ρ))).length) Slot.unset).toArray) := by
  refine LR.of (lv_entry (vs.map (cV ρ)) (by rw [lgl_len]; exact h)) (by simp [ent]; omega) (fun k v h1 h2 => ?_)
  have := ent_mem ρ vs _ 0 k v h1 h2
  simpa using this
