/-! the reference: house as a whole -/
def FL9 (g : RG) : RG := stA (stA (stA (stA (stA (stA g 6 6 4) 6 7 6) 6 8 20) 6 9 24) 6 10 21) 6 11 40
theorem wR_6a (g : RG) (tr : Int64) (F : Nat → Int32) : (wR g tr).set 6 (.inl (0, 12, .inl F)) = wR (va_up g 6 F) tr := rfl
theorem wR_2a (g : RG) (tr : Int64) (F : Nat → Int32) : (wR g tr).set 2 (.inl (0, 6, .inl F)) = wR (va_up g 2 F) tr := rfl
set_option maxRecDepth 20000 in
set_option maxHeartbeats 200000 in
theorem c_X9_firstLaws (d : Nat) (g : RG) (tr : Int64) : Ev d 119 0 [.ref 0, .int 6] [] (wR g tr) none (wR (FL9 g) tr) := by
  unfold FL9
  refine Ev.sn e_X9_firstLaws 4 (i' := 4) (ls' := [_, _]) (st' := [_, _, _]) rfl ?_
  refine Ev.iastE e_X9_firstLaws rfl rfl rfl (m := 6) rfl (by decide) (w1 := wR (stA g 6 6 4) tr) (wR_6a _ _ _) ?_
  obtain ⟨g1, eg1⟩ : ∃ x, x = stA g 6 6 4 := ⟨_, rfl⟩
  rw [← eg1]
  refine Ev.sn e_X9_firstLaws 6 (i' := 11) (ls' := [_, _]) (st' := [_, _, _]) rfl ?_
  refine Ev.iastE e_X9_firstLaws rfl rfl rfl (m := 7) rfl (by decide) (w1 := wR (stA g1 6 7 6) tr) (wR_6a _ _ _) ?_
  obtain ⟨g2, eg2⟩ : ∃ x, x = stA g1 6 7 6 := ⟨_, rfl⟩
  rw [← eg2]
  refine Ev.sn e_X9_firstLaws 6 (i' := 18) (ls' := [_, _]) (st' := [_, _, _]) rfl ?_
  refine Ev.iastE e_X9_firstLaws rfl rfl rfl (m := 8) rfl (by decide) (w1 := wR (stA g2 6 8 20) tr) (wR_6a _ _ _) ?_
  obtain ⟨g3, eg3⟩ : ∃ x, x = stA g2 6 8 20 := ⟨_, rfl⟩
  rw [← eg3]
  refine Ev.sn e_X9_firstLaws 6 (i' := 25) (ls' := [_, _]) (st' := [_, _, _]) rfl ?_
  refine Ev.iastE e_X9_firstLaws rfl rfl rfl (m := 9) rfl (by decide) (w1 := wR (stA g3 6 9 24) tr) (wR_6a _ _ _) ?_
  obtain ⟨g4, eg4⟩ : ∃ x, x = stA g3 6 9 24 := ⟨_, rfl⟩
  rw [← eg4]
  refine Ev.sn e_X9_firstLaws 6 (i' := 32) (ls' := [_, _]) (st' := [_, _, _]) rfl ?_
  refine Ev.iastE e_X9_firstLaws rfl rfl rfl (m := 10) rfl (by decide) (w1 := wR (stA g4 6 10 21) tr) (wR_6a _ _ _) ?_
  obtain ⟨g5, eg5⟩ : ∃ x, x = stA g4 6 10 21 := ⟨_, rfl⟩
  rw [← eg5]
  refine Ev.sn e_X9_firstLaws 6 (i' := 39) (ls' := [_, _]) (st' := [_, _, _]) rfl ?_
  refine Ev.iastE e_X9_firstLaws rfl rfl rfl (m := 11) rfl (by decide) (w1 := wR (stA g5 6 11 40) tr) (wR_6a _ _ _) ?_
  exact Ev.vret e_X9_firstLaws rfl rfl rfl
theorem FL9_ne {g : RG} {r : Nat} (h : r ≠ 6) : FL9 g r = g r := by
  unfold FL9
  rw [stA_ne h, stA_ne h, stA_ne h, stA_ne h, stA_ne h, stA_ne h]
def tRw (k : Nat) (a b : Int32) : Nat → Int32 := fun x => match x with | 0 => nI k | 6 => a | _ => b
theorem wR_row {g : RG} (tr : Int64) {F : Nat → Int32} (h0 : g 0 0 = F 0) (h1 : g 0 1 = F 1) (h2 : g 0 2 = F 2) (h3 : g 0 3 = F 3) (h4 : g 0 4 = F 4) (h5 : g 0 5 = F 5) (h6 : g 0 6 = F 6) (h7 : g 0 7 = F 7) : wR g tr = wR (va_up g 0 F) tr := by
  unfold wR
  rw [h0, h1, h2, h3, h4, h5, h6, h7]
  rfl
def z3 (g : RG) : RG := stA (stA (stA g 2 3 0) 2 4 0) 2 5 0
theorem z3_ne {g : RG} {r : Nat} (h : r ≠ 2) : z3 g r = g r := by
  unfold z3
  rw [stA_ne h, stA_ne h, stA_ne h]
theorem z3_2 (g : RG) : z3 g 2 = upd (upd (upd (g 2) 3 0) 4 0) 5 0 := by
  unfold z3
  rw [stA_up, stA_up, stA_up]
def b9 (g : RG) : RG := FL9 (z3 g)
theorem b9_ne {g : RG} {r : Nat} (h : r ≠ 2) (h2 : r ≠ 6) : b9 g r = g r := by
  unfold b9
  rw [FL9_ne h2, z3_ne h]
theorem b9_ta (g : RG) : TA9 (b9 g) := by
  unfold TA9 b9
  rw [FL9_ne (by decide), z3_2]
  exact ⟨⟨0, by omega, rfl⟩, ⟨0, by omega, rfl⟩, ⟨0, by omega, rfl⟩⟩
def hR0 (g : RG) : RG := va_up g 0 (upd (upd (g 0) 5 (-1)) 1 0)
def sAF (f : Nat → Int32) (k : Nat) (vl : Int32) : TS := ((tkG f k 0 vl).1, (tkG f k 0 vl).2.1, (tkG f k 0 vl).2.2.1, (tkG f k 0 vl).2.2.2, -1)
def rBL (f : Nat → Int32) (k : Nat) (g : RG) : RG × TS × Nat := rdB f k (k + 1) (b9 (hR0 g)) (sAF f k (g 0 4)) 0
set_option maxRecDepth 20000 in
set_option maxHeartbeats 200000 in
theorem c_X9_house_f (d : Nat) (g : RG) (tr : Int64) {k : Nat} (hk0 : g 0 0 = nI k) (hk : k ≤ 200) (hl : ∀ i, i < k → ∃ m, m < 256 ∧ g 1 i = nI m) (hf : 0 ≤ (rBL (g 1) k g).2.1.2.2.2.2) : Ev (d + 5) 131 0 [.ref 0, .null, .null] [] (wR g tr) (some (.int (-10 - (rBL (g 1) k g).2.1.2.2.2.2))) (wT (rBL (g 1) k g).1 tr (tRw k (g 0 6) (g 0 7)) (rBL (g 1) k g).2.1) := by
  refine Ev.sn e_X9_house 2 (i' := 2) (ls' := [_, _, _]) (st' := [_, _]) rfl ?_
  refine Ev.put e_X9_house rfl rfl rfl rfl rfl rfl (w1 := wR g tr) rfl ?_
  refine Ev.sn e_X9_house 2 (i' := 5) (ls' := [_, _, _]) (st' := [_, _]) rfl ?_
  refine Ev.put e_X9_house rfl rfl rfl rfl rfl rfl (w1 := wR (va_up g 0 (upd (g 0) 5 (-1))) tr) rfl ?_
  refine Ev.sn e_X9_house 2 (i' := 8) (ls' := [_, _, _]) (st' := [_, _]) rfl ?_
  refine Ev.put e_X9_house rfl rfl rfl rfl rfl rfl (w1 := wR (hR0 g) tr) rfl ?_
  have q0 : hR0 g 0 = upd (upd (g 0) 5 (-1)) 1 0 := rfl
  have q1 : hR0 g 1 = g 1 := rfl
  unfold rBL at hf ⊢
  obtain ⟨H, eH⟩ : ∃ x, x = hR0 g := ⟨_, rfl⟩
  rw [← eH] at q0 q1 hf ⊢
  refine Ev.sn e_X9_house 6 (i' := 15) (ls' := [_, _, _]) (st' := [_, _, _]) rfl ?_
  refine Ev.iastE e_X9_house rfl rfl rfl (m := 3) rfl (by decide) (w1 := wR (stA H 2 3 0) tr) (wR_2a _ _ _) ?_
  obtain ⟨H1, eH1⟩ : ∃ x, x = stA H 2 3 0 := ⟨_, rfl⟩
  rw [← eH1]
  refine Ev.sn e_X9_house 4 (i' := 20) (ls' := [_, _, _]) (st' := [_, _, _]) rfl ?_
  refine Ev.iastE e_X9_house rfl rfl rfl (m := 4) rfl (by decide) (w1 := wR (stA H1 2 4 0) tr) (wR_2a _ _ _) ?_
  obtain ⟨H2, eH2⟩ : ∃ x, x = stA H1 2 4 0 := ⟨_, rfl⟩
  rw [← eH2]
  refine Ev.sn e_X9_house 4 (i' := 25) (ls' := [_, _, _]) (st' := [_, _, _]) rfl ?_
  refine Ev.iastE e_X9_house rfl rfl rfl (m := 5) rfl (by decide) (w1 := wR (stA H2 2 5 0) tr) (wR_2a _ _ _) ?_
  rw [show stA H2 2 5 0 = z3 H by rw [eH2, eH1]; rfl]
  refine Ev.sn e_X9_house 2 (i' := 28) (ls' := [_, _, _]) (st' := [_, _]) rfl ?_
  refine Ev.clV e_X9_house rfl rfl (as := [_]) rfl rfl rfl kl_X9_firstLaws rfl rfl rfl (c_X9_firstLaws _ _ _) rfl ?_
  rw [show FL9 (z3 H) = b9 H from rfl]
  have hT := b9_ta H
  have p0 : b9 H 0 = upd (upd (g 0) 5 (-1)) 1 0 := (b9_ne (by decide) (by decide)).trans q0
  have p1 : b9 H 1 = g 1 := (b9_ne (by decide) (by decide)).trans q1
  obtain ⟨B, eB⟩ : ∃ x, x = b9 H := ⟨_, rfl⟩
  rw [← eB] at p0 p1 hT hf ⊢
  rw [wR_row (g := B) tr (F := tS (nI 0) (g 0 2) (g 0 3) (g 0 4) (-1) (tRw k (g 0 6) (g 0 7))) (by rw [p0]; exact hk0) (by rw [p0]; rfl) (by rw [p0]; rfl) (by rw [p0]; rfl) (by rw [p0]; rfl) (by rw [p0]; rfl) (by rw [p0]; rfl) (by rw [p0]; rfl)]
  rw [← p1] at hl
  have tg := tkG_ok (B 1) (Nat.zero_le k) (g 0 4)
  have tl := tkG_le (B 1) (Nat.zero_le k) (g 0 4)
  refine Ev.sn e_X9_house 1 (i' := 30) (ls' := [_, _, _]) (st' := [_]) rfl ?_
  refine Ev.clV e_X9_house rfl rfl (as := []) rfl rfl rfl kl_X9_advances rfl rfl rfl (c_X9_advances _ B _ (tRw k (g 0 6) (g 0 7)) rfl hk hl (Nat.zero_le k) _ _ _ _) rfl ?_
  refine lp_X9_house _ _ (tRw k (g 0 6) (g 0 7)) rfl hk hl _ _ (k + 1) B (sAF (B 1) k (g 0 4)) 0 rfl ⟨tl.2, tg.1, tg.2.1⟩ hT (Or.inr (Or.inr (Nat.le_add_left _ _))) ?_
  rw [p1]
  obtain ⟨R, eR⟩ : ∃ x, x = rdB (g 1) k (k + 1) B (sAF (g 1) k (g 0 4)) 0 := ⟨_, rfl⟩
  rw [← eR] at hf ⊢
  refine Ev.sn e_X9_house 1 (i' := 69) (ls' := [_, _, _]) (st' := [_]) rfl ?_
  refine Ev.clV e_X9_house rfl rfl (as := []) rfl rfl rfl kl_X9_isWell rfl rfl rfl (c_X9_isWell _ _ _ _ _) rfl ?_
  refine Ev.brT (i1 := 71) (i2 := 76) e_X9_house rfl rfl ((by simp [bI, hf])) ?_
  refine Ev.sn e_X9_house 4 (i' := 75) (ls' := [_, _, _]) (st' := [_]) rfl ?_
  refine Ev.iret e_X9_house rfl rfl rfl ?_ rfl
  rfl
set_option maxRecDepth 20000 in
set_option maxHeartbeats 200000 in
theorem c_X9_house_s (d : Nat) (g : RG) (tr : Int64) {k : Nat} (hk0 : g 0 0 = nI k) (hk : k ≤ 200) (hl : ∀ i, i < k → ∃ m, m < 256 ∧ g 1 i = nI m) (hf : ¬ 0 ≤ (rBL (g 1) k g).2.1.2.2.2.2) : Ev (d + 5) 131 0 [.ref 0, .null, .null] [] (wR g tr) (some (.int (nI (rBL (g 1) k g).2.2))) (wR (setT (va_up (rBL (g 1) k g).1 0 (tS (nI (rBL (g 1) k g).2.1.1) (rBL (g 1) k g).2.1.2.1 (nI (rBL (g 1) k g).2.1.2.2.1) (rBL (g 1) k g).2.1.2.2.2.1 (rBL (g 1) k g).2.1.2.2.2.2 (tRw k (g 0 6) (g 0 7))))) tr) := by
  refine Ev.sn e_X9_house 2 (i' := 2) (ls' := [_, _, _]) (st' := [_, _]) rfl ?_
  refine Ev.put e_X9_house rfl rfl rfl rfl rfl rfl (w1 := wR g tr) rfl ?_
  refine Ev.sn e_X9_house 2 (i' := 5) (ls' := [_, _, _]) (st' := [_, _]) rfl ?_
  refine Ev.put e_X9_house rfl rfl rfl rfl rfl rfl (w1 := wR (va_up g 0 (upd (g 0) 5 (-1))) tr) rfl ?_
  refine Ev.sn e_X9_house 2 (i' := 8) (ls' := [_, _, _]) (st' := [_, _]) rfl ?_
  refine Ev.put e_X9_house rfl rfl rfl rfl rfl rfl (w1 := wR (hR0 g) tr) rfl ?_
  have q0 : hR0 g 0 = upd (upd (g 0) 5 (-1)) 1 0 := rfl
  have q1 : hR0 g 1 = g 1 := rfl
  unfold rBL at hf ⊢
  obtain ⟨H, eH⟩ : ∃ x, x = hR0 g := ⟨_, rfl⟩
  rw [← eH] at q0 q1 hf ⊢
  refine Ev.sn e_X9_house 6 (i' := 15) (ls' := [_, _, _]) (st' := [_, _, _]) rfl ?_
  refine Ev.iastE e_X9_house rfl rfl rfl (m := 3) rfl (by decide) (w1 := wR (stA H 2 3 0) tr) (wR_2a _ _ _) ?_
  obtain ⟨H1, eH1⟩ : ∃ x, x = stA H 2 3 0 := ⟨_, rfl⟩
  rw [← eH1]
  refine Ev.sn e_X9_house 4 (i' := 20) (ls' := [_, _, _]) (st' := [_, _, _]) rfl ?_
  refine Ev.iastE e_X9_house rfl rfl rfl (m := 4) rfl (by decide) (w1 := wR (stA H1 2 4 0) tr) (wR_2a _ _ _) ?_
  obtain ⟨H2, eH2⟩ : ∃ x, x = stA H1 2 4 0 := ⟨_, rfl⟩
  rw [← eH2]
  refine Ev.sn e_X9_house 4 (i' := 25) (ls' := [_, _, _]) (st' := [_, _, _]) rfl ?_
  refine Ev.iastE e_X9_house rfl rfl rfl (m := 5) rfl (by decide) (w1 := wR (stA H2 2 5 0) tr) (wR_2a _ _ _) ?_
  rw [show stA H2 2 5 0 = z3 H by rw [eH2, eH1]; rfl]
  refine Ev.sn e_X9_house 2 (i' := 28) (ls' := [_, _, _]) (st' := [_, _]) rfl ?_
  refine Ev.clV e_X9_house rfl rfl (as := [_]) rfl rfl rfl kl_X9_firstLaws rfl rfl rfl (c_X9_firstLaws _ _ _) rfl ?_
  rw [show FL9 (z3 H) = b9 H from rfl]
  have hT := b9_ta H
  have p0 : b9 H 0 = upd (upd (g 0) 5 (-1)) 1 0 := (b9_ne (by decide) (by decide)).trans q0
  have p1 : b9 H 1 = g 1 := (b9_ne (by decide) (by decide)).trans q1
  obtain ⟨B, eB⟩ : ∃ x, x = b9 H := ⟨_, rfl⟩
  rw [← eB] at p0 p1 hT hf ⊢
  rw [wR_row (g := B) tr (F := tS (nI 0) (g 0 2) (g 0 3) (g 0 4) (-1) (tRw k (g 0 6) (g 0 7))) (by rw [p0]; exact hk0) (by rw [p0]; rfl) (by rw [p0]; rfl) (by rw [p0]; rfl) (by rw [p0]; rfl) (by rw [p0]; rfl) (by rw [p0]; rfl) (by rw [p0]; rfl)]
  rw [← p1] at hl
  have tg := tkG_ok (B 1) (Nat.zero_le k) (g 0 4)
  have tl := tkG_le (B 1) (Nat.zero_le k) (g 0 4)
  refine Ev.sn e_X9_house 1 (i' := 30) (ls' := [_, _, _]) (st' := [_]) rfl ?_
  refine Ev.clV e_X9_house rfl rfl (as := []) rfl rfl rfl kl_X9_advances rfl rfl rfl (c_X9_advances _ B _ (tRw k (g 0 6) (g 0 7)) rfl hk hl (Nat.zero_le k) _ _ _ _) rfl ?_
  refine lp_X9_house _ _ (tRw k (g 0 6) (g 0 7)) rfl hk hl _ _ (k + 1) B (sAF (B 1) k (g 0 4)) 0 rfl ⟨tl.2, tg.1, tg.2.1⟩ hT (Or.inr (Or.inr (Nat.le_add_left _ _))) ?_
  rw [p1]
  obtain ⟨R, eR⟩ : ∃ x, x = rdB (g 1) k (k + 1) B (sAF (g 1) k (g 0 4)) 0 := ⟨_, rfl⟩
  rw [← eR] at hf ⊢
  refine Ev.sn e_X9_house 1 (i' := 69) (ls' := [_, _, _]) (st' := [_]) rfl ?_
  refine Ev.clV e_X9_house rfl rfl (as := []) rfl rfl rfl kl_X9_isWell rfl rfl rfl (c_X9_isWell _ _ _ _ _) rfl ?_
  refine Ev.brF (i1 := 71) (i2 := 76) e_X9_house rfl rfl ((by simp [bI, hf])) ?_
  refine Ev.sn e_X9_house 1 (i' := 77) (ls' := [_, _, _]) (st' := [_]) rfl ?_
  refine Ev.clV e_X9_house rfl rfl (as := []) rfl rfl rfl kl_X9_settles rfl rfl rfl (c_X9_settles _ _ _) rfl ?_
  refine Ev.sn e_X9_house 1 (i' := 79) (ls' := [_, _, _]) (st' := [_]) rfl ?_
  refine Ev.iret e_X9_house rfl rfl rfl ?_ rfl
  rfl
