/-! CARRIED: when a THING is in, by sets and by orders -/
theorem fo_min {c : Nat → Bool} {E : Nat → Nat} {f : Nat → Nat → Nat} (hf : ∀ d a, f d a = if c d = true then min a (E d) else a) : ∀ (k p a x : Nat), fo f k p a ≤ x ↔ a ≤ x ∨ ∃ d, p ≤ d ∧ d < p + k ∧ c d = true ∧ E d ≤ x
  | 0, p, a, x => by
    constructor
    · intro h; exact Or.inl h
    · rintro (h | ⟨d, h1, h2, _⟩)
      · exact h
      · omega
  | k + 1, p, a, x => by
    rw [fo_s, fo_min hf k (p + 1), hf]
    constructor
    · rintro (h | ⟨d, h1, h2, h3⟩)
      · by_cases hc : c p = true
        · rw [if_pos hc] at h
          rcases Nat.le_total a (E p) with e | e
          · left; omega
          · right; exact ⟨p, by omega, by omega, hc, by omega⟩
        · rw [if_neg hc] at h; exact Or.inl h
      · exact Or.inr ⟨d, by omega, by omega, h3⟩
    · rintro (h | ⟨d, h1, h2, h3, h4⟩)
      · left; split <;> omega
      · by_cases e : d = p
        · subst e; left; rw [if_pos h3]; omega
        · exact Or.inr ⟨d, by omega, by omega, h3, h4⟩
theorem fo_max {c : Nat → Bool} {E : Nat → Nat} {f : Nat → Nat → Nat} (hf : ∀ d a, f d a = if c d = true then max a (E d) else a) : ∀ (k p a x : Nat), x < fo f k p a ↔ x < a ∨ ∃ d, p ≤ d ∧ d < p + k ∧ c d = true ∧ x < E d
  | 0, p, a, x => by
    constructor
    · intro h; exact Or.inl h
    · rintro (h | ⟨d, h1, h2, _⟩)
      · exact h
      · omega
  | k + 1, p, a, x => by
    rw [fo_s, fo_max hf k (p + 1), hf]
    constructor
    · rintro (h | ⟨d, h1, h2, h3⟩)
      · by_cases hc : c p = true
        · rw [if_pos hc] at h
          rcases Nat.le_total (E p) a with e | e
          · left; omega
          · right; exact ⟨p, by omega, by omega, hc, by omega⟩
        · rw [if_neg hc] at h; exact Or.inl h
      · exact Or.inr ⟨d, by omega, by omega, h3⟩
    · rintro (h | ⟨d, h1, h2, h3, h4⟩)
      · left; split <;> omega
      · by_cases e : d = p
        · subst e; left; rw [if_pos h3]; omega
        · exact Or.inr ⟨d, by omega, by omega, h3, h4⟩
def dF (v : VW) (d : Nat) : Nat := (v 8 d).toNatClampNeg
def dU (v : VW) (d : Nat) : Nat := (v 9 d).toNatClampNeg
def mN (v : VW) (t : Nat) : Nat := (v 3 t).toNatClampNeg
def gtB (v : VW) (t d : Nat) : Bool := decide (v 2 t * v 10 d ≤ v 11 d * v 1 t)
def eC (v : VW) (t m d : Nat) : Bool := decide (max m (dF v d) + mN v t ≤ dU v d) && gtB v t d
def eS (v : VW) (t m d a : Nat) : Nat := if eC v t m d = true then min a (max m (dF v d) + mN v t) else a
def eN (v : VW) (dn t m : Nat) : Nat := fo (eS v t m) dn 0 1000
def lC (v : VW) (t L d : Nat) : Bool := decide (1 ≤ L ∧ dF v d + mN v t ≤ min (L - 1) (dU v d)) && gtB v t d
def lS (v : VW) (t L d a : Nat) : Nat := if lC v t L d = true then max a (min (L - 1) (dU v d) - mN v t + 1) else a
def lsN (v : VW) (dn t L : Nat) : Nat := fo (lS v t L) dn 0 0
def UB (v : VW) (dn : Nat) : Prop := ∀ d, d < dn → dU v d ≤ 99
section CARP
variable {v : VW} {n dn t m x : Nat}
theorem eN_le : eN v dn t m ≤ x ↔ 1000 ≤ x ∨ ∃ d, d < dn ∧ max m (dF v d) + mN v t ≤ dU v d ∧ gtB v t d = true ∧ max m (dF v d) + mN v t ≤ x := by
  unfold eN
  rw [fo_min (f := eS v t m) (c := eC v t m) (E := fun d => max m (dF v d) + mN v t) (fun _ _ => rfl)]
  constructor
  · rintro (h | ⟨d, h1, h2, h3, h4⟩)
    · exact Or.inl h
    · unfold eC at h3
      simp only [Bool.and_eq_true, decide_eq_true_eq] at h3
      exact Or.inr ⟨d, by omega, h3.1, h3.2, h4⟩
  · rintro (h | ⟨d, h1, h2, h3, h4⟩)
    · exact Or.inl h
    · refine Or.inr ⟨d, by omega, by omega, ?_, h4⟩
      unfold eC
      simp only [Bool.and_eq_true, decide_eq_true_eq]
      exact ⟨h2, h3⟩
theorem eN_1000 : eN v dn t m ≤ 1000 := eN_le.mpr (Or.inl (Nat.le_refl _))
theorem eN_99 (hU : UB v dn) : eN v dn t m ≤ 99 ∨ eN v dn t m = 1000 := by
  by_cases h : eN v dn t m = 1000
  · exact Or.inr h
  · left
    have h0 : eN v dn t m ≤ 1000 := eN_1000
    rcases eN_le.mp (Nat.le_refl (eN v dn t m)) with e | ⟨d, h1, h2, h3, h4⟩
    · omega
    · exact eN_le.mpr (Or.inr ⟨d, h1, h2, h3, by have := hU d h1; omega⟩)
theorem eN_mono {m' : Nat} (h : m ≤ m') : eN v dn t m ≤ eN v dn t m' := by
  rcases eN_le.mp (Nat.le_refl (eN v dn t m')) with e | ⟨d, h1, h2, h3, h4⟩
  · exact eN_le.mpr (Or.inl e)
  · exact eN_le.mpr (Or.inr ⟨d, h1, by omega, h3, by omega⟩)
theorem eN_far (hU : UB v dn) (h : 99 < m) : eN v dn t m = 1000 := by
  rcases eN_99 (t := t) (m := m) hU with e | e
  · rcases eN_le.mp e with e | ⟨d, h1, h2, h3, h4⟩ <;> omega
  · exact e
theorem lsN_lt {L : Nat} : x < lsN v dn t L ↔ ∃ d, d < dn ∧ (1 ≤ L ∧ dF v d + mN v t ≤ min (L - 1) (dU v d)) ∧ gtB v t d = true ∧ x < min (L - 1) (dU v d) - mN v t + 1 := by
  unfold lsN
  rw [fo_max (f := lS v t L) (c := lC v t L) (E := fun d => min (L - 1) (dU v d) - mN v t + 1) (fun _ _ => rfl)]
  constructor
  · rintro (h | ⟨d, h1, h2, h3, h4⟩)
    · omega
    · unfold lC at h3
      simp only [Bool.and_eq_true, decide_eq_true_eq] at h3
      exact ⟨d, by omega, h3.1, h3.2, h4⟩
  · rintro ⟨d, h1, h2, h3, h4⟩
    refine Or.inr ⟨d, by omega, by omega, ?_, h4⟩
    unfold lC
    simp only [Bool.and_eq_true, decide_eq_true_eq]
    exact ⟨h2, h3⟩
theorem lsN_le (hU : UB v dn) {L : Nat} : lsN v dn t L ≤ 100 := by
  rcases Nat.lt_or_ge 100 (lsN v dn t L) with h | h
  · obtain ⟨d, h1, h2, h3, h4⟩ := lsN_lt.mp h
    have := hU d h1
    omega
  · exact h
theorem ls_iff {L : Nat} (hL : L ≤ 1000) : eN v dn t m < L ↔ m < lsN v dn t L := by
  rw [lsN_lt]
  constructor
  · intro h
    rcases (eN_le (x := L - 1)).mp (by omega : eN v dn t m ≤ L - 1) with e | ⟨d, h1, h2, h3, h4⟩
    · omega
    · exact ⟨d, h1, by omega, h3, by omega⟩
  · rintro ⟨d, h1, h2, h3, h4⟩
    have : eN v dn t m ≤ L - 1 := eN_le.mpr (Or.inr ⟨d, h1, by omega, h3, by omega⟩)
    omega
end CARP
/-! sets -/
theorem bx : ∀ S, S < 64 → ∀ t, t < 6 → S.testBit t = true → pcN (S ^^^ 2 ^ t) + 1 = pcN S ∧ S ^^^ 2 ^ t < S := by decide +kernel
theorem pc0 : ∀ S, S < 64 → pcN S = 0 → S = 0 := by decide +kernel
theorem bex : ∀ S, S < 64 → ¬ S = 0 → ∃ t, t < 6 ∧ S.testBit t = true := by decide +kernel
theorem tb6 {S x : Nat} (h : S < 64) (hx : S.testBit x = true) : x < 6 := by
  rcases Nat.lt_or_ge x 6 with e | e
  · exact e
  · have h2 : 2 ^ 6 ≤ 2 ^ x := Nat.pow_le_pow_right (by omega) e
    rw [Nat.testBit_lt_two_pow (by omega)] at hx
    exact absurd hx (by decide)
theorem tbn {S n x : Nat} (h : S < 2 ^ n) (hx : S.testBit x = true) : x < n := by
  rcases Nat.lt_or_ge x n with e | e
  · exact e
  · have h2 : 2 ^ n ≤ 2 ^ x := Nat.pow_le_pow_right (by omega) e
    rw [Nat.testBit_lt_two_pow (by omega)] at hx
    exact absurd hx (by decide)
theorem xor_tb {S t : Nat} (x : Nat) (h : S.testBit t = true) : (S ^^^ 2 ^ t).testBit x = true ↔ S.testBit x = true ∧ x ≠ t := by
  rw [Nat.testBit_xor, Nat.testBit_two_pow]
  by_cases e : t = x
  · subst e; simp [h]
  · simp [e, Ne.symm e]
def sF (v : VW) (n dn : Nat) : Nat → Nat → Nat
  | 0, _ => 0
  | j + 1, S => fo (fun t a => if S.testBit t = true then min a (eN v dn t (sF v n dn j (S ^^^ 2 ^ t))) else a) n 0 1000
def so (v : VW) (n dn S : Nat) : Nat := sF v n dn (pcN S) S
def soS (v : VW) (n dn S t a : Nat) : Nat := if S.testBit t = true then min a (eN v dn t (so v n dn (S ^^^ 2 ^ t))) else a
theorem so_s {v : VW} {n dn S : Nat} (hn : n ≤ 6) (hS : S < 64) (h0 : ¬ S = 0) : so v n dn S = fo (soS v n dn S) n 0 1000 := by
  obtain ⟨j, hj⟩ : ∃ j, pcN S = j + 1 := by
    cases e : pcN S with
    | zero => exact absurd (pc0 S hS e) h0
    | succ j => exact ⟨j, rfl⟩
  unfold so
  rw [hj]
  unfold sF
  apply fo_congr
  intro t h1 h2 a
  unfold soS so
  by_cases hb : S.testBit t = true
  · rw [if_pos hb, if_pos hb]
    have := (bx S hS t (by omega) hb).1
    rw [show pcN (S ^^^ 2 ^ t) = j by omega]
  · rw [if_neg hb, if_neg hb]
def lF (v : VW) (n dn L : Nat) : Nat → Nat → Nat
  | 0, _ => L
  | j + 1, S => fo (fun t a => if S.testBit t = true then max a (lsN v dn t (lF v n dn L j (S ^^^ 2 ^ t))) else a) n 0 0
def la (v : VW) (n dn L S : Nat) : Nat := lF v n dn L (pcN S) S
def laS (v : VW) (n dn L S t a : Nat) : Nat := if S.testBit t = true then max a (lsN v dn t (la v n dn L (S ^^^ 2 ^ t))) else a
theorem la_s {v : VW} {n dn L S : Nat} (hn : n ≤ 6) (hS : S < 64) (h0 : ¬ S = 0) : la v n dn L S = fo (laS v n dn L S) n 0 0 := by
  obtain ⟨j, hj⟩ : ∃ j, pcN S = j + 1 := by
    cases e : pcN S with
    | zero => exact absurd (pc0 S hS e) h0
    | succ j => exact ⟨j, rfl⟩
  unfold la
  rw [hj]
  unfold lF
  apply fo_congr
  intro t h1 h2 a
  unfold laS la
  by_cases hb : S.testBit t = true
  · rw [if_pos hb, if_pos hb]
    have := (bx S hS t (by omega) hb).1
    rw [show pcN (S ^^^ 2 ^ t) = j by omega]
  · rw [if_neg hb, if_neg hb]
theorem pcN_0 : pcN 0 = 0 := by decide +kernel
theorem so_0 (v : VW) (n dn : Nat) : so v n dn 0 = 0 := by unfold so; rw [pcN_0]; rfl
theorem la_0 (v : VW) (n dn L : Nat) : la v n dn L 0 = L := by unfold la; rw [pcN_0]; rfl
/-! orders -/
def ORD (S : Nat) (l : List Nat) : Prop := l.Nodup ∧ ∀ x, x ∈ l ↔ S.testBit x = true
def TL (v : VW) (dn : Nat) (l : List Nat) (m : Nat) : Nat := l.foldl (fun m t => eN v dn t m) m
theorem ord_nil {l : List Nat} : ORD 0 l ↔ l = [] := by
  constructor
  · intro h
    apply List.eq_nil_iff_forall_not_mem.mpr
    intro a ha
    have := (h.2 a).mp ha
    rw [Nat.zero_testBit] at this
    exact absurd this (by decide)
  · rintro rfl
    exact ⟨List.nodup_nil, fun x => by simp⟩
theorem ord_cons {S t : Nat} {l : List Nat} : ORD S (t :: l) ↔ S.testBit t = true ∧ ORD (S ^^^ 2 ^ t) l := by
  constructor
  · rintro ⟨h1, h2⟩
    have h3 := List.nodup_cons.mp h1
    have ht : S.testBit t = true := (h2 t).mp (List.mem_cons_self ..)
    refine ⟨ht, h3.2, fun x => ?_⟩
    rw [xor_tb x ht]
    constructor
    · intro hx
      exact ⟨(h2 x).mp (List.mem_cons_of_mem _ hx), fun e => h3.1 (e ▸ hx)⟩
    · rintro ⟨hx, hne⟩
      rcases List.mem_cons.mp ((h2 x).mpr hx) with e | e
      · exact absurd e hne
      · exact e
  · rintro ⟨ht, h1, h2⟩
    refine ⟨List.nodup_cons.mpr ⟨fun hm => ((xor_tb t ht).mp ((h2 t).mp hm)).2 rfl, h1⟩, fun x => ?_⟩
    rw [List.mem_cons]
    constructor
    · rintro (e | e)
      · rw [e]; exact ht
      · exact ((xor_tb x ht).mp ((h2 x).mp e)).1
    · intro hx
      by_cases e : x = t
      · exact Or.inl e
      · exact Or.inr ((h2 x).mpr ((xor_tb x ht).mpr ⟨hx, e⟩))
theorem ord_snoc {S t : Nat} {l : List Nat} : ORD S (l ++ [t]) ↔ S.testBit t = true ∧ ORD (S ^^^ 2 ^ t) l := by
  rw [← ord_cons]
  unfold ORD
  have h1 : (l ++ [t]).Nodup ↔ (t :: l).Nodup := by
    constructor
    · intro h
      have h := List.nodup_append.mp h
      exact List.nodup_cons.mpr ⟨fun hm => h.2.2 t hm t (by simp) rfl, h.1⟩
    · intro h
      have h := List.nodup_cons.mp h
      refine List.nodup_append.mpr ⟨h.2, by simp, fun x hx y hy e => ?_⟩
      rw [List.mem_singleton] at hy
      exact h.1 (hy ▸ e ▸ hx)
  rw [h1]
  constructor
  · rintro ⟨a, b⟩
    refine ⟨a, fun x => ?_⟩
    rw [← b x]
    simp [or_comm]
  · rintro ⟨a, b⟩
    refine ⟨a, fun x => ?_⟩
    rw [← b x]
    simp [or_comm]
theorem TL_cons (v : VW) (dn t m : Nat) (l : List Nat) : TL v dn (t :: l) m = TL v dn l (eN v dn t m) := rfl
theorem TL_snoc (v : VW) (dn t m : Nat) (l : List Nat) : TL v dn (l ++ [t]) m = eN v dn t (TL v dn l m) := by
  unfold TL
  rw [List.foldl_append]
  rfl
theorem xlt {S t : Nat} (hS : S < 64) (ht : S.testBit t = true) : S ^^^ 2 ^ t < S ∧ pcN (S ^^^ 2 ^ t) + 1 = pcN S := ⟨(bx S hS t (tb6 hS ht) ht).2, (bx S hS t (tb6 hS ht) ht).1⟩
theorem so_min {v : VW} {n dn S : Nat} (hn : n ≤ 6) (hS : S < 64) (h0 : ¬ S = 0) (x : Nat) : so v n dn S ≤ x ↔ 1000 ≤ x ∨ ∃ t, t < n ∧ S.testBit t = true ∧ eN v dn t (so v n dn (S ^^^ 2 ^ t)) ≤ x := by
  rw [so_s hn hS h0, fo_min (f := soS v n dn S) (c := fun t => S.testBit t) (E := fun t => eN v dn t (so v n dn (S ^^^ 2 ^ t))) (fun _ _ => rfl)]
  constructor
  · rintro (h | ⟨d, h1, h2, h3⟩)
    · exact Or.inl h
    · exact Or.inr ⟨d, by omega, h3⟩
  · rintro (h | ⟨d, h1, h3⟩)
    · exact Or.inl h
    · exact Or.inr ⟨d, by omega, by omega, h3⟩
theorem so_1000 {v : VW} {n dn S : Nat} (hn : n ≤ 6) (hS : S < 64) : so v n dn S ≤ 1000 := by
  by_cases h0 : S = 0
  · rw [h0, so_0]; omega
  · exact (so_min hn hS h0 1000).mpr (Or.inl (Nat.le_refl _))
theorem so_le {v : VW} {n dn : Nat} (hn : n ≤ 6) : ∀ (j S : Nat) (l : List Nat), pcN S = j → S < 2 ^ n → S < 64 → ORD S l → so v n dn S ≤ TL v dn l 0 := by
  intro j
  induction j with
  | zero =>
    intro S l hj hS hS6 hl
    rw [pc0 S hS6 hj, so_0]
    omega
  | succ j ih =>
    intro S l hj hS hS6 hl
    have h0 : ¬ S = 0 := fun e => by rw [e, pcN_0] at hj; omega
    rcases List.eq_nil_or_concat l with e | ⟨l', t, e⟩
    · obtain ⟨t, -, ht⟩ := bex S hS6 h0
      have := (hl.2 t).mpr ht
      rw [e] at this
      exact absurd this (by simp)
    · rw [List.concat_eq_append] at e
      subst e
      have h1 := ord_snoc.mp hl
      have hx := xlt hS6 h1.1
      have h2 := ih (S ^^^ 2 ^ t) l' (by omega) (by omega) (by omega) h1.2
      rw [TL_snoc]
      exact (so_min hn hS6 h0 _).mpr (Or.inr ⟨t, tbn hS h1.1, h1.1, eN_mono h2⟩)
theorem so_ex {v : VW} {n dn : Nat} (hn : n ≤ 6) : ∀ (j S : Nat), pcN S = j → S < 2 ^ n → S < 64 → ∃ l, ORD S l ∧ TL v dn l 0 = so v n dn S := by
  intro j
  induction j with
  | zero =>
    intro S hj hS hS6
    have e := pc0 S hS6 hj
    subst e
    exact ⟨[], ord_nil.mpr rfl, by rw [so_0]; rfl⟩
  | succ j ih =>
    intro S hj hS hS6
    have h0 : ¬ S = 0 := fun e => by rw [e, pcN_0] at hj; omega
    have key : ∃ t, t < n ∧ S.testBit t = true ∧ eN v dn t (so v n dn (S ^^^ 2 ^ t)) ≤ so v n dn S := by
      rcases (so_min (v := v) (dn := dn) hn hS6 h0 _).mp (Nat.le_refl _) with e | e
      · obtain ⟨t, -, ht⟩ := bex S hS6 h0
        exact ⟨t, tbn hS ht, ht, Nat.le_trans eN_1000 e⟩
      · exact e
    obtain ⟨t, ht, hb, hle⟩ := key
    have hx := xlt hS6 hb
    obtain ⟨l, h1, h2⟩ := ih (S ^^^ 2 ^ t) (by omega) (by omega) (by omega)
    have ho : ORD S (l ++ [t]) := ord_snoc.mpr ⟨hb, h1⟩
    refine ⟨l ++ [t], ho, ?_⟩
    have h3 := so_le (v := v) (dn := dn) hn (j + 1) S _ hj hS hS6 ho
    rw [TL_snoc, h2] at h3 ⊢
    omega
theorem la_max {v : VW} {n dn L S : Nat} (hn : n ≤ 6) (hS : S < 64) (h0 : ¬ S = 0) (x : Nat) : x < la v n dn L S ↔ ∃ t, t < n ∧ S.testBit t = true ∧ x < lsN v dn t (la v n dn L (S ^^^ 2 ^ t)) := by
  rw [la_s hn hS h0, fo_max (f := laS v n dn L S) (c := fun t => S.testBit t) (E := fun t => lsN v dn t (la v n dn L (S ^^^ 2 ^ t))) (fun _ _ => rfl)]
  constructor
  · rintro (h | ⟨d, h1, h2, h3⟩)
    · omega
    · exact ⟨d, by omega, h3⟩
  · rintro ⟨d, h1, h3⟩
    exact Or.inr ⟨d, by omega, by omega, h3⟩
theorem la_le {v : VW} {n dn L S : Nat} (hU : UB v dn) (hL : L ≤ 1000) (hn : n ≤ 6) (hS : S < 64) : la v n dn L S ≤ 1000 := by
  by_cases h0 : S = 0
  · rw [h0, la_0]; exact hL
  · rcases Nat.lt_or_ge 1000 (la v n dn L S) with h | h
    · obtain ⟨t, h1, h2, h3⟩ := (la_max hn hS h0 _).mp h
      have := lsN_le (t := t) (L := la v n dn L (S ^^^ 2 ^ t)) hU
      omega
    · exact h
theorem la_iff {v : VW} {n dn L : Nat} (hU : UB v dn) (hL : L ≤ 1000) (hn : n ≤ 6) : ∀ (j S : Nat), pcN S = j → S < 2 ^ n → S < 64 → ∀ m, m < la v n dn L S ↔ ∃ l, ORD S l ∧ TL v dn l m < L := by
  intro j
  induction j with
  | zero =>
    intro S hj hS hS6 m
    have e := pc0 S hS6 hj
    subst e
    rw [la_0]
    constructor
    · intro h; exact ⟨[], ord_nil.mpr rfl, h⟩
    · rintro ⟨l, h1, h2⟩
      rw [ord_nil.mp h1] at h2
      exact h2
  | succ j ih =>
    intro S hj hS hS6 m
    have h0 : ¬ S = 0 := fun e => by rw [e, pcN_0] at hj; omega
    rw [la_max hn hS6 h0]
    constructor
    · rintro ⟨t, h1, h2, h3⟩
      have hx := xlt hS6 h2
      have h4 := (ls_iff (la_le hU hL hn (by omega))).mpr h3
      obtain ⟨l, h5, h6⟩ := (ih (S ^^^ 2 ^ t) (by omega) (by omega) (by omega) _).mp h4
      exact ⟨t :: l, ord_cons.mpr ⟨h2, h5⟩, h6⟩
    · rintro ⟨l, h1, h2⟩
      cases l with
      | nil =>
        obtain ⟨t, -, ht⟩ := bex S hS6 h0
        exact absurd ((h1.2 t).mpr ht) (by simp)
      | cons t l =>
        have h3 := ord_cons.mp h1
        have hx := xlt hS6 h3.1
        have h4 := (ih (S ^^^ 2 ^ t) (by omega) (by omega) (by omega) (eN v dn t m)).mpr ⟨l, h3.2, h2⟩
        exact ⟨t, tbn hS h3.1, h3.1, (ls_iff (la_le hU hL hn (by omega))).mp h4⟩
