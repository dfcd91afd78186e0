/-! THE RELATION of the class's registers g and the reference's h -/
def OWR (q : Nat) (x y : Int32) : Prop := (x = -9 ∧ y = 0) ∨ ∃ p, p < q ∧ x = nI p ∧ y = nI (p + 1)
def SNP (n q : Nat) (o ts ps r : Nat → Int32) : Prop := (∀ t, t < n → OWR q (o t) (r t) ∧ ts t = r (6 + t) ∧ btw 1 48 (ts t)) ∧ ∀ p, p < q → ps p = r (12 + p) ∧ btw 1 48 (ps p)
def HST (n q dn : Nat) (g h : RG) : Prop := (n ≤ 6 ∧ q ≤ 5 ∧ dn ≤ 3) ∧ (g 42 0 = nI n ∧ g 42 1 = nI q ∧ g 42 2 = nI dn) ∧ (h 2 0 = nI n ∧ h 2 1 = nI q ∧ h 2 2 = nI dn) ∧
  (∀ t, t < n → (g 32 t = h 3 (4 * t) ∧ g 34 t = h 3 (4 * t + 2) ∧ g 35 t = h 3 (4 * t + 3)) ∧ btw 0 2 (g 32 t) ∧ btw 1 99 (g 34 t) ∧ btw 1 9 (g 35 t)) ∧
  (∀ p, p < q → g 37 p = h 4 (2 * p + 1) ∧ btw 1 99 (g 37 p)) ∧
  (∀ u, u < 3 → (g 30 u = h 6 (2 * u) ∧ g 31 u = h 6 (2 * u + 1)) ∧ btw 0 60 (g 30 u) ∧ btw 0 60 (g 31 u)) ∧
  (∀ k, k < dn → (g 38 k = h 5 (4 * k) ∧ g 39 k = h 5 (4 * k + 1) ∧ g 40 k = h 5 (4 * k + 2) ∧ g 41 k = h 5 (4 * k + 3)) ∧ btw 0 60 (g 38 k) ∧ btw 0 99 (g 39 k) ∧ btw 1 48 (g 40 k) ∧ btw 1 99 (g 41 k))
theorem cut_congr {n : Nat} {f g : Nat → Int32} (h : ∀ t, t < n → f t = g t) : cut n f = cut n g := by
  funext t
  unfold cut
  by_cases ht : t < n
  · rw [if_pos ht, if_pos ht]; exact h t ht
  · rw [if_neg ht, if_neg ht]
theorem owr_v {q : Nat} (hq : q ≤ 5) {x y : Int32} (h : OWR q x y) : x = (if y = 0 then -9 else y - 1) := by
  rcases h with ⟨h1, h2⟩ | ⟨p, hp, h1, h2⟩
  · rw [if_pos h2]; exact h1
  · rw [if_neg (by rw [h2]; exact nI_ne0 (by omega) (by omega)), h2, nI_pred]; exact h1
theorem core_v {n q dn : Nat} {g h : RG} (hH : HST n q dn g h) (hS : SNP n q (g 50) (g 51) (g 52) (h 7)) : vC n q dn g = vR n q dn h := by
  funext r
  obtain ⟨⟨hn, hq, hd⟩, -, -, hT, hP, hU, hD⟩ := hH
  match r with
  | 0 => exact cut_congr (fun t ht => (hT t ht).1.1)
  | 1 => exact cut_congr (fun t ht => (hS.1 t ht).2.1)
  | 2 => exact cut_congr (fun t ht => (hT t ht).1.2.1)
  | 3 => exact cut_congr (fun t ht => (hT t ht).1.2.2)
  | 4 => exact cut_congr (fun t ht => (hS.2 t ht).1)
  | 5 => exact cut_congr (fun t ht => (hP t ht).1)
  | 6 => exact cut_congr (fun t ht => (hU t ht).1.1)
  | 7 => exact cut_congr (fun t ht => (hU t ht).1.2)
  | 8 => exact cut_congr (fun t ht => (hD t ht).1.1)
  | 9 => exact cut_congr (fun t ht => (hD t ht).1.2.1)
  | 10 => exact cut_congr (fun t ht => (hD t ht).1.2.2.1)
  | 11 => exact cut_congr (fun t ht => (hD t ht).1.2.2.2)
  | 12 => exact cut_congr (fun t ht => owr_v hq (hS.1 t ht).1)
  | r + 13 => rfl
theorem core_w {n q dn : Nat} {g h : RG} (hH : HST n q dn g h) (hS : SNP n q (g 50) (g 51) (g 52) (h 7)) : WF n q dn (vC n q dn g) := by
  obtain ⟨hb, -, -, hT, hP, hU, hD⟩ := hH
  refine ⟨hb, fun t ht => ?_, fun p hp => ?_, fun u hu => ?_, fun k hk => ?_, fun t ht => ?_⟩
  · refine ⟨?_, ?_, ?_, ?_⟩
    · rw [show vC n q dn g 0 t = g 32 t from cut_lt ht]; exact (hT t ht).2.1
    · rw [show vC n q dn g 1 t = g 51 t from cut_lt ht]; exact (hS.1 t ht).2.2
    · rw [show vC n q dn g 2 t = g 34 t from cut_lt ht]; exact (hT t ht).2.2.1
    · rw [show vC n q dn g 3 t = g 35 t from cut_lt ht]; exact (hT t ht).2.2.2
  · refine ⟨?_, ?_⟩
    · rw [show vC n q dn g 4 p = g 52 p from cut_lt hp]; exact (hS.2 p hp).2
    · rw [show vC n q dn g 5 p = g 37 p from cut_lt hp]; exact (hP p hp).2
  · refine ⟨?_, ?_⟩
    · rw [show vC n q dn g 6 u = g 30 u from cut_lt hu]; exact (hU u hu).2.1
    · rw [show vC n q dn g 7 u = g 31 u from cut_lt hu]; exact (hU u hu).2.2
  · refine ⟨?_, ?_, ?_, ?_⟩
    · rw [show vC n q dn g 8 k = g 38 k from cut_lt hk]; exact (hD k hk).2.1
    · rw [show vC n q dn g 9 k = g 39 k from cut_lt hk]; exact (hD k hk).2.2.1
    · rw [show vC n q dn g 10 k = g 40 k from cut_lt hk]; exact (hD k hk).2.2.2.1
    · rw [show vC n q dn g 11 k = g 41 k from cut_lt hk]; exact (hD k hk).2.2.2.2
  · rw [show vC n q dn g 12 t = g 50 t from cut_lt ht]
    rcases (hS.1 t ht).1 with ⟨h1, -⟩ | ⟨p, hp, h1, -⟩
    · exact Or.inl h1
    · exact Or.inr ⟨p, hp, h1⟩
theorem core_C {n q dn : Nat} {g h : RG} (hH : HST n q dn g h) (hS : SNP n q (g 50) (g 51) (g 52) (h 7)) : CI n q dn g := ⟨hH.2.1.1, hH.2.1.2.1, hH.2.1.2.2, core_w hH hS⟩
theorem core_R {n q dn : Nat} {g h : RG} (hH : HST n q dn g h) (hS : SNP n q (g 50) (g 51) (g 52) (h 7)) : RI n q dn h := by
  refine ⟨hH.2.2.1.1, hH.2.2.1.2.1, hH.2.2.1.2.2, by rw [← core_v hH hS]; exact core_w hH hS, fun t ht => ?_⟩
  rcases (hS.1 t ht).1 with ⟨-, h1⟩ | ⟨p, hp, -, h1⟩
  · exact Or.inl h1
  · exact Or.inr ⟨p, hp, h1⟩
def TXT (k : Nat) (g h : RG) : Prop := k ≤ 200 ∧ g 0 0 = nI k ∧ h 0 0 = nI k ∧ h 1 = g 1 ∧ ∀ i, i < k → ∃ m, m < 256 ∧ g 1 i = nI m
def HIS (n q o c : Nat) (g h : RG) : Prop := o < 10 ∧ c ≤ 10 ∧ g 90 0 = nI o ∧ g 90 1 = nI c ∧ h 0 6 = nI c ∧ ∀ i, i < c → SNP n q (g (60 + 3 * ((o + i) % 10))) (g (61 + 3 * ((o + i) % 10))) (g (62 + 3 * ((o + i) % 10))) (fun j => h 10 (17 * i + j))
def IMG (n q : Nat) (g h : RG) : Prop := ∀ i, i < 2 → (g 97 i = 0 ∧ h 9 i = 0) ∨ (g 97 i = 1 ∧ h 9 i = 1 ∧ SNP n q (g (91 + 3 * i)) (g (92 + 3 * i)) (g (93 + 3 * i)) (fun j => h 8 (17 * i + j)))
def TRI (n kt : Nat) (g h : RG) : Prop := kt ≤ 6 ∧ g 100 0 = nI kt ∧ h 0 7 = nI kt ∧ ∀ i, i < kt → (∃ t, t < n ∧ g 98 i = nI t) ∧ (g 99 i = 0 ∨ g 99 i = 1) ∧ g 98 i = h 11 i ∧ g 99 i = h 12 i
def RLX (n q dn k o c kt : Nat) (g h : RG) : Prop := HST n q dn g h ∧ SNP n q (g 50) (g 51) (g 52) (h 7) ∧ TXT k g h ∧ HIS n q o c g h ∧ IMG n q g h ∧ TRI n kt g h
def RL (g h : RG) : Prop := ∃ n q dn k o c kt, RLX n q dn k o c kt g h
theorem tri_TI {n kt : Nat} {g h : RG} (hT : TRI n kt g h) : TI n kt (tC kt g) := by
  refine ⟨hT.1, fun i hi => ?_⟩
  rw [show tC kt g 0 i = g 98 i from cut_lt hi, show tC kt g 1 i = g 99 i from cut_lt hi]
  exact ⟨(hT.2.2.2 i hi).1, (hT.2.2.2 i hi).2.1⟩
theorem tri_v {n kt : Nat} {g h : RG} (hT : TRI n kt g h) : tC kt g = tR kt h := by
  funext r
  match r with
  | 0 => exact cut_congr (fun i hi => (hT.2.2.2 i hi).2.2.1)
  | 1 => exact cut_congr (fun i hi => (hT.2.2.2 i hi).2.2.2)
  | r + 2 => rfl
theorem tri_TR {n kt : Nat} {g h : RG} (hT : TRI n kt g h) : TI n kt (tR kt h) := by rw [← tri_v hT]; exact tri_TI hT
/-- both calls answer alike, and the relation holds behind them -/
def CQ (DC MC : Nat) (lC : List Value) (DR MR : Nat) (lR : List Value) (g h : RG) (tr : Int64) : Prop := ∃ r g' h' tr', Ev DC MC 0 lC [] (wC g tr) (some r) (wC g' tr') ∧ Ev DR MR 0 lR [] (wR h tr) (some r) (wR h' tr') ∧ RL g' h'
def swp (g : RG) : RG := fun r => if 10 ≤ r ∧ r ≤ 22 then g (r + 20) else if 30 ≤ r ∧ r ≤ 42 then g (r - 20) else g r
/-- house(): the class's world may come back with the two tales exchanged -/
def CQH (DC MC : Nat) (lC : List Value) (DR MR : Nat) (lR : List Value) (g h : RG) (tr : Int64) : Prop := ∃ r g' h' tr', Ev DC MC 0 lC [] (wC g tr) (some r) (wX 17 3 g' tr') ∧ Ev DR MR 0 lR [] (wR h tr) (some r) (wR h' tr') ∧ RL (swp g') h'
/-! what reading leaves as it was -/
def LOW (h h' : RG) : Prop := (∀ i, i < 3 → h' 2 i = h 2 i) ∧ (∀ i, i < 24 → h' 3 i = h 3 i) ∧ (∀ i, i < 10 → h' 4 i = h 4 i) ∧ (∀ i, i < 12 → h' 5 i = h 5 i) ∧ (∀ i, i < 6 → h' 6 i = h 6 i) ∧ ∀ x, (x = 1 ∨ 6 < x) → h' x = h x
theorem low_refl (h : RG) : LOW h h := ⟨fun _ _ => rfl, fun _ _ => rfl, fun _ _ => rfl, fun _ _ => rfl, fun _ _ => rfl, fun _ _ => rfl⟩
theorem low_tr {a b c : RG} (h1 : LOW a b) (h2 : LOW b c) : LOW a c := ⟨fun i hi => (h2.1 i hi).trans (h1.1 i hi), fun i hi => (h2.2.1 i hi).trans (h1.2.1 i hi), fun i hi => (h2.2.2.1 i hi).trans (h1.2.2.1 i hi), fun i hi => (h2.2.2.2.1 i hi).trans (h1.2.2.2.1 i hi), fun i hi => (h2.2.2.2.2.1 i hi).trans (h1.2.2.2.2.1 i hi), fun i hi => (h2.2.2.2.2.2 i hi).trans (h1.2.2.2.2.2 i hi)⟩
theorem low_st {a b : RG} (h : LOW a b) {r i : Nat} {v : Int32} (hr : (r = 2 ∧ 3 ≤ i) ∨ (r = 3 ∧ 24 ≤ i) ∨ (r = 4 ∧ 10 ≤ i) ∨ (r = 5 ∧ 12 ≤ i) ∨ (r = 6 ∧ 6 ≤ i)) : LOW a (stA b r i v) := by
  have key : ∀ x j, (x ≠ r ∨ j ≠ i) → stA b r i v x j = b x j := by
    intro x j hx
    by_cases e : x = r
    · subst e
      rcases hx with hx | hx
      · exact absurd rfl hx
      · exact stA_ne2 hx
    · rw [stA_ne e]
  refine low_tr h ⟨fun j hj => key _ _ (by omega), fun j hj => key _ _ (by omega), fun j hj => key _ _ (by omega), fun j hj => key _ _ (by omega), fun j hj => key _ _ (by omega), fun x hx => ?_⟩
  exact stA_ne (by omega)
theorem low_z9 {f : Nat → Int32} {k : Nat} {h : RG} {r : TS} : LOW h (z9 f k h r).1 := by
  unfold z9
  split
  · exact low_refl h
  · unfold ri9
    split
    · exact low_st (low_st (low_refl h) (by omega)) (by omega)
    · split
      · exact low_st (low_st (low_st (low_st (low_st (low_refl h) (by omega)) (by omega)) (by omega)) (by omega)) (by omega)
      · split
        · exact low_st (low_st (low_st (low_refl h) (by omega)) (by omega)) (by omega)
        · exact low_st (low_st (low_st (low_st (low_st (low_refl h) (by omega)) (by omega)) (by omega)) (by omega)) (by omega)
theorem low_rdB {f : Nat → Int32} {k : Nat} : ∀ (j : Nat) (h : RG) (r : TS) (c : Nat), LOW h (rdB f k j h r c).1
  | 0, h, _, _ => low_refl h
  | j + 1, h, r, c => by
    rw [rdB]
    split
    · exact low_refl h
    · exact low_tr low_z9 (low_rdB j _ _ _)
theorem low_b9 (h : RG) : LOW h (b9 (hR0 h)) := by
  have h0 : LOW h (hR0 h) := ⟨fun _ _ => rfl, fun _ _ => rfl, fun _ _ => rfl, fun _ _ => rfl, fun _ _ => rfl, fun x hx => va_up_ne _ _ (by omega)⟩
  unfold b9 FL9 z3
  exact low_st (low_st (low_st (low_st (low_st (low_st (low_st (low_st (low_st h0 (by omega)) (by omega)) (by omega)) (by omega)) (by omega)) (by omega)) (by omega)) (by omega)) (by omega)
theorem low_rBL {f : Nat → Int32} {k : Nat} (h : RG) : LOW h (rBL f k h).1 := by
  unfold rBL
  exact low_tr (low_b9 h) (low_rdB _ _ _ _)
theorem rdA_ne {f : Nat → Int32} {k : Nat} : ∀ (j : Nat) (g : RG) (s : TS) (c : Nat), TAL g → s.1 ≤ k → ∀ x, (x < 10 ∨ 22 < x) → (rdA f k j g s c).1 x = g x
  | 0, _, _, _, _, _, _, _ => rfl
  | j + 1, g, s, c, hT, hs, x, hx => by
    rw [rdA]
    split
    · rfl
    · have h1 := it5_ok (f := f) hT hs
      rw [rdA_ne j _ _ _ h1.1 (en5_le h1.2.1) x hx, h1.2.2 x hx]
theorem rAL_ne {f : Nat → Int32} {k : Nat} (g : RG) {x : Nat} (hx : x < 10 ∨ 22 < x) : (rAL f k g).1 x = g x := by
  unfold rAL
  rw [rdA_ne 200 _ _ _ (bas_tal g) ((tkF_le f (Nat.zero_le k) _).2) x hx]
  exact bas_ne g (by omega) (by omega) (by omega)
