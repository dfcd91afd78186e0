/-! the reference: the loop of house -/
theorem tk9_well {f : Nat → Int32} {k : Nat} {b : Bool} {s : TS} (h : ¬ 0 ≤ s.2.2.2.2) (hp : s.2.2.1 ≤ 200) (h2 : ¬ 0 ≤ (tk9 f k b s).2.2.2.2.2) : b = true ∧ (tk9 f k b s).1 = s.2.2.2.1 := by
  unfold tk9 at h2 ⊢
  rw [if_neg h] at h2 ⊢
  cases b
  · rw [if_pos rfl] at h2
    exact absurd (nI_pos' (by omega)) h2
  · exact ⟨rfl, rfl⟩
set_option maxRecDepth 20000 in
set_option maxHeartbeats 200000 in
theorem c_ri9 (d : Nat) (g : RG) (tr : Int64) (t0 : Nat → Int32) {f : Nat → Int32} (hf : g 1 = f) {k : Nat} (ht : t0 0 = nI k) (hk : k ≤ 200) (hl : ∀ i, i < k → ∃ m, m < 256 ∧ f i = nI m) {s : TS} (hs : s.1 ≤ k) (hT : TA9 g) (v : Int32) (hv : v = 107 ∨ v = 116 ∨ v = 112 ∨ v = 100) (hb : mbB v (g 2 3) (g 2 4) (g 2 5) = true) : Ev (d + 4) 130 0 [.ref 0, .int v, .null, .null, .null] [] (wT g tr t0 s) none (wT (ri9 f k v g s).1 tr t0 (ri9 f k v g s).2) := by
  obtain ⟨⟨a, ha, ea⟩, ⟨b, hb2, eb⟩, ⟨c, hc, ec⟩⟩ := hT
  unfold ri9
  rcases hv with rfl | rfl | rfl | rfl
  · rw [if_pos rfl]
    exact c_X9_readsItem_k _ _ _ _ hf ht hk hl hs
  · rw [if_neg (by decide), if_pos rfl, show (g 2 3).toNatClampNeg = a by rw [ea]; exact nI_clamp (by omega)]
    refine c_X9_readsItem_t _ _ _ _ hf ht hk hl hs ea (Nat.lt_of_not_le (fun h => ?_))
    have h6 : 6 ≤ g 2 3 := by rw [ea]; exact nI_le (a := 6) h (by omega)
    simp [mbB, h6] at hb
  · rw [if_neg (by decide), if_neg (by decide), if_pos rfl, show (g 2 4).toNatClampNeg = b by rw [eb]; exact nI_clamp (by omega)]
    refine c_X9_readsItem_p _ _ _ _ hf ht hk hl hs eb (Nat.lt_of_not_le (fun h => ?_))
    have h6 : 5 ≤ g 2 4 := by rw [eb]; exact nI_le (a := 5) h (by omega)
    simp [mbB, h6] at hb
  · rw [if_neg (by decide), if_neg (by decide), if_neg (by decide), show (g 2 5).toNatClampNeg = c by rw [ec]; exact nI_clamp (by omega)]
    refine c_X9_readsItem_d _ _ _ _ hf ht hk hl hs ec (Nat.lt_of_not_le (fun h => ?_))
    have h6 : 3 ≤ g 2 5 := by rw [ec]; exact nI_le (a := 3) h (by omega)
    simp [mbB, h6] at hb
theorem k_X9_takes (d : Nat) (g : RG) (tr : Int64) (t0 : Nat → Int32) {f : Nat → Int32} (hf : g 1 = f) {k : Nat} (ht : t0 0 = nI k) (hk : k ≤ 200) (hl : ∀ i, i < k → ∃ m, m < 256 ∧ f i = nI m) {s : TS} (hs : s.1 ≤ k) (b : Bool) {x : Int32 × TS} (hx : tk9 f k b s = x) : Ev (d + 2) 127 0 [.ref 0, .int (bI b), .null] [] (wT g tr t0 s) (some (.int x.1)) (wT g tr t0 x.2) := by
  subst hx
  exact c_X9_takes _ _ _ _ hf ht hk hl hs b
set_option maxRecDepth 20000 in
set_option maxHeartbeats 200000 in
theorem ls_X9_house (d : Nat) (g : RG) (tr : Int64) (t0 : Nat → Int32) {f : Nat → Int32} (hf : g 1 = f) {k : Nat} (ht : t0 0 = nI k) (hk : k ≤ 200) (hl : ∀ i, i < k → ∃ m, m < 256 ∧ f i = nI m) {s : TS} (hs : s.1 ≤ k) (c : Nat) (r : Option Value) (w2 : AW) (K : Ev (d + 5) 131 31 [.ref 0, .int (nI (c + 1)), .null] [] (wT g tr t0 (e9 f k s)) r w2) : Ev (d + 5) 131 56 [.ref 0, .int (nI c), .null] [] (wT g tr t0 s) r w2 := by
  unfold e9 at K
  refine Ev.sn e_X9_house 4 (i' := 60) (ls' := [_, _, _]) (st' := [_, _, _]) rfl ?_
  refine Ev.br (i1 := 61) (i2 := 63) e_X9_house rfl rfl (fun h3 => ?_) (fun h3 => ?_)
  · have h3 : s.2.1 = 3 := h3
    rw [decide_eq_true h3] at K
    obtain ⟨x, hx⟩ : ∃ x, tk9 f k true s = x := ⟨_, rfl⟩
    rw [hx] at K
    refine Ev.sn e_X9_house 2 (i' := 64) (ls' := [_, _, _]) (st' := [_, _]) rfl ?_
    refine Ev.clV e_X9_house rfl rfl (as := [_]) rfl rfl rfl kl_X9_takes rfl rfl rfl (k_X9_takes _ _ _ _ hf ht hk hl hs true hx) rfl ?_
    refine Ev.sn e_X9_house 3 (i' := 31) (ls' := [_, _, _]) (st' := []) rfl ?_
    rw [nI_1]
    exact Ev.weak (lle_c (lle_c (lle_n lle_0))) K
  · have h3 : ¬ s.2.1 = 3 := h3
    rw [decide_eq_false h3] at K
    obtain ⟨x, hx⟩ : ∃ x, tk9 f k false s = x := ⟨_, rfl⟩
    rw [hx] at K
    refine Ev.sn e_X9_house 1 (i' := 64) (ls' := [_, _, _]) (st' := [_, _]) rfl ?_
    refine Ev.clV e_X9_house rfl rfl (as := [_]) rfl rfl rfl kl_X9_takes rfl rfl rfl (k_X9_takes _ _ _ _ hf ht hk hl hs false hx) rfl ?_
    refine Ev.sn e_X9_house 3 (i' := 31) (ls' := [_, _, _]) (st' := []) rfl ?_
    rw [nI_1]
    exact Ev.weak (lle_c (lle_c (lle_n lle_0))) K
