/-! the reference: the loop of house -/
theorem tk9_well {f : Nat → Int32} {k : Nat} {b : Bool} {s : TS} (h : ¬ 0 ≤ s.2.2.2.2) (hp : s.2.2.1 ≤ 200) (h2 : ¬ 0 ≤ (tk9 f k b s).2.2.2.2.2) : b = true ∧ (tk9 f k b s).1 = s.2.2.2.1 := by
  unfold tk9 at h2 ⊢
  rw [if_neg h] at h2 ⊢
  cases b
  · rw [if_pos rfl] at h2
    exact absurd (nI_pos' (by omega)) h2
  · exact ⟨rfl, rfl⟩
set_option maxRecDepth 20000 in
set_option maxHeartbeats 200000 in
theorem c_ri9 (d : Nat) (g : RG) (tr : Int64) (t0 : Nat → Int32) {f : Nat → Int32} (hf : g 1 = f) {k : Nat} (ht : t0 0 = nI k) (hk : k ≤ 200) (hl : ∀ i, i < k → ∃ m, m < 256 ∧ f i = nI m) {s : TS} (hs : s.1 ≤ k) (hT : TA9 g) (v : Int32) (hv : v = 107 ∨ v = 116 ∨ v = 112 ∨ v = 100) (hb : mbB v (g 2 3) (g 2 4) (g 2 5) = true) : Ev (d + 4) 130 0 [.ref 0, .int v, .null, .null, .null] [] (wT g tr t0 s) none (wT (ri9 f k v g s).1 tr t0 (ri9 f k v g s).2) := by
  obtain ⟨⟨a, ha, ea⟩, ⟨b, hb2, eb⟩, ⟨c, hc, ec⟩⟩ := hT
  unfold ri9
  rcases hv with rfl | rfl | rfl | rfl
  · rw [if_pos rfl]
    exact c_X9_readsItem_k _ _ _ _ hf ht hk hl hs
  · rw [if_neg (by decide), if_pos rfl, show (g 2 3).toNatClampNeg = a by rw [ea]; exact nI_clamp (by omega)]
    refine c_X9_readsItem_t _ _ _ _ hf ht hk hl hs ea (Nat.lt_of_not_le (fun h => ?_))
    have h6 : 6 ≤ g 2 3 := by rw [ea]; exact nI_le (a := 6) h (by omega)
    simp [mbB, h6] at hb
  · rw [if_neg (by decide), if_neg (by decide), if_pos rfl, show (g 2 4).toNatClampNeg = b by rw [eb]; exact nI_clamp (by omega)]
    refine c_X9_readsItem_p _ _ _ _ hf ht hk hl hs eb (Nat.lt_of_not_le (fun h => ?_))
    have h6 : 5 ≤ g 2 4 := by rw [eb]; exact nI_le (a := 5) h (by omega)
    simp [mbB, h6] at hb
  · rw [if_neg (by decide), if_neg (by decide), if_neg (by decide), show (g 2 5).toNatClampNeg = c by rw [ec]; exact nI_clamp (by omega)]
    refine c_X9_readsItem_d _ _ _ _ hf ht hk hl hs ec (Nat.lt_of_not_le (fun h => ?_))
    have h6 : 3 ≤ g 2 5 := by rw [ec]; exact nI_le (a := 3) h (by omega)
    simp [mbB, h6] at hb
theorem k_X9_takes (d : Nat) (g : RG) (tr : Int64) (t0 : Nat → Int32) {f : Nat → Int32} (hf : g 1 = f) {k : Nat} (ht : t0 0 = nI k) (hk : k ≤ 200) (hl : ∀ i, i < k → ∃ m, m < 256 ∧ f i = nI m) {s : TS} (hs : s.1 ≤ k) (b : Bool) {x : Int32 × TS} (hx : tk9 f k b s = x) : Ev (d + 2) 127 0 [.ref 0, .int (bI b), .null] [] (wT g tr t0 s) (some (.int x.1)) (wT g tr t0 x.2) := by
  subst hx
  exact c_X9_takes _ _ _ _ hf ht hk hl hs b
set_option maxRecDepth 20000 in
set_option maxHeartbeats 200000 in
theorem ls_X9_house (d : Nat) (g : RG) (tr : Int64) (t0 : Nat → Int32) {f : Nat → Int32} (hf : g 1 = f) {k : Nat} (ht : t0 0 = nI k) (hk : k ≤ 200) (hl : ∀ i, i < k → ∃ m, m < 256 ∧ f i = nI m) {s : TS} (hs : s.1 ≤ k) (c : Nat) (r : Option Value) (w2 : AW) (K : Ev (d + 5) 131 31 [.ref 0, .int (nI (c + 1)), .null] [] (wT g tr t0 (e9 f k s)) r w2) : Ev (d + 5) 131 56 [.ref 0, .int (nI c), .null] [] (wT g tr t0 s) r w2 := by
  unfold e9 at K
  refine Ev.sn e_X9_house 4 (i' := 60) (ls' := [_, _, _]) (st' := [_, _, _]) rfl ?_
  refine Ev.br (i1 := 61) (i2 := 63) e_X9_house rfl rfl (fun h3 => ?_) (fun h3 => ?_)
  · have h3 : s.2.1 = 3 := h3
    rw [decide_eq_true h3] at K
    obtain ⟨x, hx⟩ : ∃ x, tk9 f k true s = x := ⟨_, rfl⟩
    rw [hx] at K
    refine Ev.sn e_X9_house 2 (i' := 64) (ls' := [_, _, _]) (st' := [_, _]) rfl ?_
    refine Ev.clV e_X9_house rfl rfl (as := [_]) rfl rfl rfl kl_X9_takes rfl rfl rfl (k_X9_takes _ _ _ _ hf ht hk hl hs true hx) rfl ?_
    refine Ev.sn e_X9_house 3 (i' := 31) (ls' := [_, _, _]) (st' := []) rfl ?_
    rw [nI_1]
    exact Ev.weak (lle_c (lle_c (lle_n lle_0))) K
  · have h3 : ¬ s.2.1 = 3 := h3
    rw [decide_eq_false h3] at K
    obtain ⟨x, hx⟩ : ∃ x, tk9 f k false s = x := ⟨_, rfl⟩
    rw [hx] at K
    refine Ev.sn e_X9_house 1 (i' := 64) (ls' := [_, _, _]) (st' := [_, _]) rfl ?_
    refine Ev.clV e_X9_house rfl rfl (as := [_]) rfl rfl rfl kl_X9_takes rfl rfl rfl (k_X9_takes _ _ _ _ hf ht hk hl hs false hx) rfl ?_
    refine Ev.sn e_X9_house 3 (i' := 31) (ls' := [_, _, _]) (st' := []) rfl ?_
    rw [nI_1]
    exact Ev.weak (lle_c (lle_c (lle_n lle_0))) K
theorem tk9_INV {f : Nat → Int32} {k : Nat} {b : Bool} {s : TS} (h : INV k s) : INV k (tk9 f k b s).2 := by
  obtain ⟨h1, h2, h3⟩ := id h
  unfold tk9
  split
  · exact h
  · split
    · exact ⟨h1, h2, h3⟩
    · have t1 := tkG_le f h1 s.2.2.2.1
      obtain ⟨t2, t3, t4⟩ := tkG_ok f h1 s.2.2.2.1
      exact ⟨t1.2, t2, t3⟩
theorem ri9_g {f : Nat → Int32} {k : Nat} {g : RG} {s : TS} (hT : TA9 g) {v : Int32} (hv : v = 107 ∨ v = 116 ∨ v = 112 ∨ v = 100) (hb : mbB v (g 2 3) (g 2 4) (g 2 5) = true) : TA9 (ri9 f k v g s).1 ∧ ∀ r, (r < 2 ∨ 6 < r) → (ri9 f k v g s).1 r = g r := by
  obtain ⟨⟨a, ha, ea⟩, ⟨b, hb2, eb⟩, ⟨c, hc, ec⟩⟩ := id hT
  unfold ri9
  rcases hv with rfl | rfl | rfl | rfl
  · rw [if_pos rfl]
    refine ⟨?_, fun r hr => rL9_ne (by omega)⟩
    unfold TA9
    rw [rL9_ne (by decide)]
    exact hT
  · rw [if_neg (by decide), if_pos rfl, show (g 2 3).toNatClampNeg = a by rw [ea]; exact nI_clamp (by omega)]
    have : a < 6 := Nat.lt_of_not_le (fun h => by
      have h6 : 6 ≤ g 2 3 := by rw [ea]; exact nI_le (a := 6) h (by omega)
      simp [mbB, h6] at hb)
    exact ⟨ta9_up hT rT9_2 (Or.inl ⟨rfl, by omega⟩), fun r hr => rT9_ne (by omega) (by omega)⟩
  · rw [if_neg (by decide), if_neg (by decide), if_pos rfl, show (g 2 4).toNatClampNeg = b by rw [eb]; exact nI_clamp (by omega)]
    have : b < 5 := Nat.lt_of_not_le (fun h => by
      have h6 : 5 ≤ g 2 4 := by rw [eb]; exact nI_le (a := 5) h (by omega)
      simp [mbB, h6] at hb)
    exact ⟨ta9_up hT rP9_2 (Or.inr (Or.inl ⟨rfl, by omega⟩)), fun r hr => rP9_ne (by omega) (by omega)⟩
  · rw [if_neg (by decide), if_neg (by decide), if_neg (by decide), show (g 2 5).toNatClampNeg = c by rw [ec]; exact nI_clamp (by omega)]
    have : c < 3 := Nat.lt_of_not_le (fun h => by
      have h6 : 3 ≤ g 2 5 := by rw [ec]; exact nI_le (a := 3) h (by omega)
      simp [mbB, h6] at hb)
    exact ⟨ta9_up hT rD9_2 (Or.inr (Or.inr ⟨rfl, by omega⟩)), fun r hr => rD9_ne (by omega) (by omega)⟩
theorem z9_ok {f : Nat → Int32} {k : Nat} (hk : k ≤ 200) {g : RG} {s : TS} (hi : INV k s) (hT : TA9 g) (hfl : ¬ 0 ≤ s.2.2.2.2) : INV k (z9 f k g s).2 ∧ PRG s.1 (z9 f k g s).2 ∧ TA9 (z9 f k g s).1 ∧ ∀ r, (r < 2 ∨ 6 < r) → (z9 f k g s).1 r = g r := by
  have h1 := tk9_first (f := f) hk (b := b1F g s) hi
  have h2 := tk9_INV (f := f) (b := b1F g s) hi
  unfold z9
  split
  · exact ⟨h2, h1, hT, fun r _ => rfl⟩
  · rename_i h3
    obtain ⟨e1, e2⟩ := tk9_well (f := f) (k := k) (b := b1F g s) hfl (by have := hi.2.1; omega) h3
    have e3 := e1
    simp only [b1F, Bool.and_eq_true, decide_eq_true_eq] at e3
    have h4 := ri9_inv (f := f) (k := k) (i := s.1) hk (v := (tk9 f k (b1F g s) s).1) (g := g) ⟨h2, h1⟩
    rw [e2] at h4 ⊢
    have h5 := ri9_g (f := f) (k := k) (g := g) (s := (tk9 f k (b1F g s) s).2) hT (hi.2.2 e3.1) e3.2
    exact ⟨h4.1, h4.2, h5.1, h5.2⟩
set_option maxRecDepth 20000 in
set_option maxHeartbeats 200000 in
theorem lr_X9_house (d : Nat) (g : RG) (tr : Int64) (t0 : Nat → Int32) {f : Nat → Int32} (hf : g 1 = f) {k : Nat} (ht : t0 0 = nI k) (hk : k ≤ 200) (hl : ∀ i, i < k → ∃ m, m < 256 ∧ f i = nI m) {s : TS} (hi : INV k s) (hT : TA9 g) (hfl : ¬ 0 ≤ s.2.2.2.2) (c : Nat) (r : Option Value) (w2 : AW) (K : Ev (d + 5) 131 31 [.ref 0, .int (nI (c + 1)), .null] [] (wT (z9 f k g s).1 tr t0 (e9 f k (z9 f k g s).2)) r w2) (b : Bool) (hb : b1F g s = b) : Ev (d + 5) 131 48 [.ref 0, .int (nI c), .null] [.int (bI b), .ref 0] (wT g tr t0 s) r w2 := by
  have hzo := z9_ok (f := f) hk hi hT hfl
  have hz1 : (z9 f k g s).2.1 ≤ k ∧ ∀ r, (r < 2 ∨ 6 < r) → (z9 f k g s).1 r = g r := ⟨hzo.1.1, hzo.2.2.2⟩
  clear hzo
  have hys := (tk9_INV (f := f) (b := b) hi).1
  unfold z9 at K hz1
  rw [hb] at K hz1
  obtain ⟨y, hy⟩ : ∃ x, tk9 f k b s = x := ⟨_, rfl⟩
  rw [hy] at K hys hz1
  refine Ev.clV e_X9_house rfl rfl (as := [_]) rfl rfl rfl kl_X9_takes rfl rfl rfl (k_X9_takes _ _ _ _ hf ht hk hl hi.1 b hy) rfl ?_
  refine Ev.sn e_X9_house 2 (i' := 51) (ls' := [_, _, _]) (st' := [_]) rfl ?_
  refine Ev.clV e_X9_house rfl rfl (as := []) rfl rfl rfl kl_X9_isWell rfl rfl rfl (c_X9_isWell _ _ _ _ _) rfl ?_
  refine Ev.brB (i1 := 56) (i2 := 53) e_X9_house rfl rfl (fun hw => ?_) (fun hw => ?_)
  · have hw2 : 0 ≤ y.2.2.2.2.2 := by simpa using hw
    rw [if_pos hw2] at K
    exact Ev.weak (lle_c (lle_c (lle_n lle_0))) (ls_X9_house _ _ _ _ hf ht hk hl hys c _ _ K)
  · have hw2 : ¬ 0 ≤ y.2.2.2.2.2 := by simpa using hw
    rw [if_neg hw2] at K hz1
    obtain ⟨e1, e2⟩ := tk9_well (f := f) (k := k) (b := b) hfl (by have := hi.2.1; omega) (by rw [hy]; exact hw2)
    rw [hy] at e2
    rw [e1] at hb
    simp only [b1F, Bool.and_eq_true, decide_eq_true_eq] at hb
    rw [e2] at K hz1 ⊢
    have hri := fun d => c_ri9 d g tr t0 hf ht hk hl hys hT _ (hi.2.2 hb.1) hb.2
    obtain ⟨z, hz⟩ : ∃ x, ri9 f k s.2.2.2.1 g y.2 = x := ⟨_, rfl⟩
    rw [hz] at K hri hz1
    refine Ev.sn e_X9_house 2 (i' := 55) (ls' := [_, _, _]) (st' := [_, _]) rfl ?_
    refine Ev.clV e_X9_house rfl rfl (as := [_]) rfl rfl rfl kl_X9_readsItem rfl rfl rfl (hri _) rfl ?_
    exact Ev.weak (lle_c (lle_c (lle_n lle_0))) (ls_X9_house _ _ _ _ ((hz1.2 1 (by omega)).trans hf) ht hk hl hz1.1 c _ _ K)
set_option maxRecDepth 20000 in
set_option maxHeartbeats 200000 in
theorem lp_X9_house (d : Nat) (tr : Int64) (t0 : Nat → Int32) {f : Nat → Int32} {k : Nat} (ht : t0 0 = nI k) (hk : k ≤ 200) (hl : ∀ i, i < k → ∃ m, m < 256 ∧ f i = nI m) (r : Option Value) (w2 : AW) : ∀ (j : Nat) (g : RG) (s : TS) (c : Nat), g 1 = f → INV k s → TA9 g → (0 ≤ s.2.2.2.2 ∨ s.2.1 = 0 ∨ k + 1 ≤ s.1 + j) → Ev (d + 5) 131 68 [.ref 0, .int (nI (rdB f k j g s c).2.2), .null] [] (wT (rdB f k j g s c).1 tr t0 (rdB f k j g s c).2.1) r w2 → Ev (d + 5) 131 31 [.ref 0, .int (nI c), .null] [] (wT g tr t0 s) r w2 := by
  intro j
  induction j with
  | zero =>
    intro g s c hf hi hT hq K
    have hq2 := hi.1
    refine Ev.sn e_X9_house 1 (i' := 32) (ls' := [_, _, _]) (st' := [_]) rfl ?_
    refine Ev.clV e_X9_house rfl rfl (as := []) rfl rfl rfl kl_X9_isWell rfl rfl rfl (c_X9_isWell _ _ _ _ _) rfl ?_
    refine Ev.brB (i1 := 68) (i2 := 34) e_X9_house rfl rfl (fun hw => ?_) (fun hw => ?_)
    · exact K
    · refine Ev.sn e_X9_house 2 (i' := 36) (ls' := [_, _, _]) (st' := [_]) rfl ?_
      refine Ev.brT (i1 := 68) (i2 := 37) e_X9_house rfl rfl ((by
          have hw2 : ¬ 0 ≤ s.2.2.2.2 := by simpa using hw
          rcases hq with h | h | h
          · exact absurd h hw2
          · exact h
          · omega)) ?_
      exact K
  | succ j ih =>
    intro g s c hf hi hT hq K
    unfold rdB at K
    refine Ev.sn e_X9_house 1 (i' := 32) (ls' := [_, _, _]) (st' := [_]) rfl ?_
    refine Ev.clV e_X9_house rfl rfl (as := []) rfl rfl rfl kl_X9_isWell rfl rfl rfl (c_X9_isWell _ _ _ _ _) rfl ?_
    refine Ev.brB (i1 := 68) (i2 := 34) e_X9_house rfl rfl (fun hw => ?_) (fun hw => ?_)
    · have hw2 : 0 ≤ s.2.2.2.2 := by simpa using hw
      rw [if_pos (Or.inl hw2)] at K
      exact K
    · refine Ev.sn e_X9_house 2 (i' := 36) (ls' := [_, _, _]) (st' := [_]) rfl ?_
      refine Ev.br (i1 := 68) (i2 := 37) e_X9_house rfl rfl (fun htk => ?_) (fun htk => ?_)
      · rw [if_pos (Or.inr (show s.2.1 = 0 from htk))] at K
        exact K
      · have hfl : ¬ 0 ≤ s.2.2.2.2 := by simpa using hw
        have htk : ¬ s.2.1 = 0 := htk
        rw [if_neg (fun h => h.elim (fun h => hfl h) (fun h => htk h))] at K
        obtain ⟨z1, z2, z3, z4⟩ := z9_ok (f := f) hk hi hT hfl
        have hE := tk9_inv (f := f) hk (b := decide ((z9 f k g s).2.2.1 = 3)) z1 z2
        have KK := ih (z9 f k g s).1 (e9 f k (z9 f k g s).2) (c + 1) ((z4 1 (by omega)).trans hf) hE.1 z3 (by
          rcases hE.2.2 with h | h | h
          · exact Or.inr (Or.inl h)
          · exact Or.inl h
          · refine Or.inr (Or.inr ?_)
            rcases hq with h' | h' | h'
            · exact absurd h' hfl
            · exact absurd h' htk
            · show k + 1 ≤ (tk9 f k (decide ((z9 f k g s).2.2.1 = 3)) (z9 f k g s).2).2.1 + j
              omega) K
        clear K ih hE z1 z2 z3 z4
        refine Ev.sn e_X9_house 4 (i' := 41) (ls' := [_, _, _]) (st' := [_, _, _]) rfl ?_
        refine Ev.br (i1 := 42) (i2 := 47) e_X9_house rfl rfl (fun h1 => ?_) (fun h1 => ?_)
        · refine Ev.sn e_X9_house 1 (i' := 43) (ls' := [_, _, _]) (st' := [_, _]) rfl ?_
          refine Ev.clV e_X9_house rfl rfl (as := []) rfl rfl rfl kl_X9_mayBegin rfl rfl rfl (c_X9_mayBegin _ _ _ _ _) rfl ?_
          refine Ev.brB (i1 := 47) (i2 := 45) e_X9_house rfl rfl (fun hm => ?_) (fun hm => ?_)
          · refine Ev.sn e_X9_house 1 (i' := 48) (ls' := [_, _, _]) (st' := [_, _]) rfl ?_
            exact lr_X9_house _ _ _ _ hf ht hk hl hi hT hfl c _ _ KK false (by have h1 : s.2.1 = 1 := h1; unfold b1F; rw [hm]; simp)
          · refine Ev.sn e_X9_house 2 (i' := 48) (ls' := [_, _, _]) (st' := [_, _]) rfl ?_
            exact lr_X9_house _ _ _ _ hf ht hk hl hi hT hfl c _ _ KK true (by have h1 : s.2.1 = 1 := h1; have hm : mbB s.2.2.2.1 (g 2 3) (g 2 4) (g 2 5) = true := hm; unfold b1F; rw [hm]; simp [h1])
        · refine Ev.sn e_X9_house 1 (i' := 48) (ls' := [_, _, _]) (st' := [_, _]) rfl ?_
          exact lr_X9_house _ _ _ _ hf ht hk hl hi hT hfl c _ _ KK false (by have h1 : ¬ s.2.1 = 1 := h1; unfold b1F; simp [h1])
