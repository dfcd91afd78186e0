/-! the class: house -/
theorem wX_t (a b c : Nat) (g : RG) (tr : Int64) : (wX a b g tr).set 1 (.inr (6, List.set [.ref 2, .int (g 0 0), .ref a, .int (g 0 1), .int (g 0 2), .int (g 0 3), .int (g 0 4), .int (g 0 5), .int (g 0 6)] 2 (.ref c))) = wX c b g tr := rfl
theorem wX_h (a b c : Nat) (g : RG) (tr : Int64) : (wX a b g tr).set 16 (.inr (2, List.set [.ref b, .ref 30] 0 (.ref c))) = wX a c g tr := rfl
set_option maxRecDepth 20000 in
set_option maxHeartbeats 200000 in
theorem c_X6_giveTaleFor (d : Nat) (g : RG) (tr : Int64) : Ev d 51 0 [.ref 1, .ref 17, .null] [] (wX 3 17 g tr) (some (.ref 3)) (wX 17 17 g tr) := by
  refine Ev.sn e_X6_giveTaleFor 5 (i' := 5) (ls' := [_, _, _]) (st' := [_, _]) rfl ?_
  refine Ev.put e_X6_giveTaleFor rfl rfl rfl rfl rfl rfl (w1 := wX 17 17 g tr) (wX_t _ _ _ _ _) ?_
  refine Ev.sn e_X6_giveTaleFor 1 (i' := 7) (ls' := [_, _, _]) (st' := [_]) rfl ?_
  exact Ev.aret e_X6_giveTaleFor rfl rfl rfl
set_option maxRecDepth 20000 in
set_option maxHeartbeats 200000 in
theorem x_X7_loseAll (d : Nat) (g : RG) (tr : Int64) : Ev d 66 0 [.ref 78] [] (wX 17 3 g tr) none (wX 17 3 (stA g 100 0 0) tr) := by
  refine Ev.sn e_X7_loseAll 2 (i' := 2) (ls' := [_]) (st' := [_, _]) rfl ?_
  refine Ev.put e_X7_loseAll rfl rfl rfl rfl rfl rfl (w1 := wX 17 3 (va_up g 100 (upd (g 100) 0 0)) tr) rfl ?_
  exact Ev.vret e_X7_loseAll rfl rfl rfl
def houT (H : RG) : RG := stA (stA (stA (stA (stA (bat H) 90 1 0) 100 0 0) 97 0 0) 97 1 0) 0 0 0
theorem wX_97 (g : RG) (tr : Int64) (F : Nat → Int32) : (wX 17 3 g tr).set 77 (.inl (1, 2, .inl F)) = wX 17 3 (va_up g 97 F) tr := rfl
set_option maxRecDepth 20000 in
set_option maxHeartbeats 200000 in
theorem c_X8_house_f (d : Nat) (g : RG) (tr : Int64) {k : Nat} (hk0 : g 0 0 = nI k) (hk : k ≤ 200) (hl : ∀ i, i < k → ∃ m, m < 256 ∧ g 1 i = nI m) (hf : ¬ (rAL (g 1) k g).2.1.2.2.2.2 = -1) : Ev (d + 6) 76 0 [.ref 0, .null, .null] [] (wC g tr) (some (.int (-10 - (rAL (g 1) k g).2.1.2.2.2.2))) (wS (rAL (g 1) k g).1 tr (tq k (rAL (g 1) k g).2.2) (rAL (g 1) k g).2.1) := by
  refine Ev.sn e_X8_house 2 (i' := 2) (ls' := [_, _, _]) (st' := [_]) rfl ?_
  refine Ev.clV e_X8_house rfl rfl (as := []) rfl rfl rfl kl_X6_readAll rfl rfl rfl (c_X6_readAll _ _ _ hk0 hk hl) rfl ?_
  refine Ev.sn e_X8_house 3 (i' := 6) (ls' := [_, _, _]) (st' := [_, _]) rfl ?_
  refine Ev.brF (i1 := 11) (i2 := 7) e_X8_house rfl rfl (hf) ?_
  refine Ev.sn e_X8_house 3 (i' := 10) (ls' := [_, _, _]) (st' := [_]) rfl ?_
  refine Ev.iret e_X8_house rfl rfl rfl ?_ rfl
  rfl
theorem bat_0 (g : RG) : bat g 0 = g 0 := rfl
set_option maxRecDepth 20000 in
set_option maxHeartbeats 200000 in
theorem c_X8_house_s (d : Nat) (g : RG) (tr : Int64) {k : Nat} (hk0 : g 0 0 = nI k) (hk : k ≤ 200) (hl : ∀ i, i < k → ∃ m, m < 256 ∧ g 1 i = nI m) (hf : (rAL (g 1) k g).2.1.2.2.2.2 = -1) : Ev (d + 6) 76 0 [.ref 0, .null, .null] [] (wC g tr) (some (.int (nI (rAL (g 1) k g).2.2))) (wX 17 3 (houT (va_up (rAL (g 1) k g).1 0 (tS (nI (rAL (g 1) k g).2.1.1) (rAL (g 1) k g).2.1.2.1 (nI (rAL (g 1) k g).2.1.2.2.1) (rAL (g 1) k g).2.1.2.2.2.1 (rAL (g 1) k g).2.1.2.2.2.2 (tq k (rAL (g 1) k g).2.2)))) tr) := by
  refine Ev.sn e_X8_house 2 (i' := 2) (ls' := [_, _, _]) (st' := [_]) rfl ?_
  refine Ev.clV e_X8_house rfl rfl (as := []) rfl rfl rfl kl_X6_readAll rfl rfl rfl (c_X6_readAll _ _ _ hk0 hk hl) rfl ?_
  refine Ev.sn e_X8_house 3 (i' := 6) (ls' := [_, _, _]) (st' := [_, _]) rfl ?_
  refine Ev.brT (i1 := 11) (i2 := 7) e_X8_house rfl rfl (hf) ?_
  obtain ⟨R, eR⟩ : ∃ x, x = (rAL (g 1) k g) := ⟨_, rfl⟩
  rw [← eR] at hf ⊢
  unfold wS
  have h6 : (va_up R.1 0 (tS (nI R.2.1.1) R.2.1.2.1 (nI R.2.1.2.2.1) R.2.1.2.2.2.1 R.2.1.2.2.2.2 (tq k R.2.2))) 0 6 = nI R.2.2 := rfl
  obtain ⟨H, eH⟩ : ∃ x, x = (va_up R.1 0 (tS (nI R.2.1.1) R.2.1.2.1 (nI R.2.1.2.2.1) R.2.1.2.2.2.1 R.2.1.2.2.2.2 (tq k R.2.2))) := ⟨_, rfl⟩
  rw [← eH] at h6 ⊢
  unfold houT
  refine Ev.sn e_X8_house 7 (i' := 18) (ls' := [_, _, _]) (st' := [_, _, _]) rfl ?_
  refine Ev.clV e_X8_house rfl rfl (as := [_]) rfl rfl rfl kl_X6_giveTaleFor rfl rfl rfl (c_X6_giveTaleFor _ _ _) rfl ?_
  refine Ev.put e_X8_house rfl rfl rfl rfl rfl rfl (w1 := wX 17 3 H tr) (wX_h _ _ _ _ _) ?_
  refine Ev.sn e_X8_house 6 (i' := 26) (ls' := [_, _, _]) (st' := [_, _]) rfl ?_
  refine Ev.clV e_X8_house rfl rfl (as := [_]) rfl rfl rfl kl_X4_beginAsTold rfl rfl rfl (c_X4_beginAsTold _ 17 3 _ _) rfl ?_
  have h6a := bat_0 H
  obtain ⟨G1, eG1⟩ : ∃ x, x = bat H := ⟨_, rfl⟩
  rw [← eG1] at h6a ⊢
  refine Ev.sn e_X8_house 2 (i' := 29) (ls' := [_, _, _]) (st' := [_]) rfl ?_
  refine Ev.clV e_X8_house rfl rfl (as := []) rfl rfl rfl kl_X1_loseAll rfl rfl rfl (c_X1_loseAll _ 17 3 _ _) rfl ?_
  rw [show va_up G1 90 (upd (G1 90) 1 0) = stA G1 90 1 0 from rfl]
  have h6b : stA G1 90 1 0 0 = H 0 := (stA_ne (by decide)).trans h6a
  obtain ⟨G2, eG2⟩ : ∃ x, x = stA G1 90 1 0 := ⟨_, rfl⟩
  rw [← eG2] at h6b ⊢
  refine Ev.sn e_X8_house 2 (i' := 32) (ls' := [_, _, _]) (st' := [_]) rfl ?_
  refine Ev.clV e_X8_house rfl rfl (as := []) rfl rfl rfl kl_X7_loseAll rfl rfl rfl (x_X7_loseAll _ _ _) rfl ?_
  have h6c : stA G2 100 0 0 0 = H 0 := (stA_ne (by decide)).trans h6b
  obtain ⟨G3, eG3⟩ : ∃ x, x = stA G2 100 0 0 := ⟨_, rfl⟩
  rw [← eG3] at h6c ⊢
  refine Ev.sn e_X8_house 4 (i' := 37) (ls' := [_, _, _]) (st' := [_, _]) rfl ?_
  refine Ev.brF (i1 := 45) (i2 := 38) e_X8_house rfl rfl ((by decide)) ?_
  refine Ev.sn e_X8_house 4 (i' := 42) (ls' := [_, _, _]) (st' := [_, _, _]) rfl ?_
  refine Ev.bastE e_X8_house rfl rfl rfl (m := 0) rfl (by decide) (Or.inl rfl) (w1 := wX 17 3 (stA G3 97 0 0) tr) (wX_97 _ _ _) ?_
  have h6d : stA G3 97 0 0 0 = H 0 := (stA_ne (by decide)).trans h6c
  obtain ⟨G4, eG4⟩ : ∃ x, x = stA G3 97 0 0 := ⟨_, rfl⟩
  rw [← eG4] at h6d ⊢
  refine Ev.sn e_X8_house 4 (i' := 37) (ls' := [_, _, _]) (st' := [_, _]) rfl ?_
  refine Ev.brF (i1 := 45) (i2 := 38) e_X8_house rfl rfl ((by decide)) ?_
  refine Ev.sn e_X8_house 4 (i' := 42) (ls' := [_, _, _]) (st' := [_, _, _]) rfl ?_
  refine Ev.bastE e_X8_house rfl rfl rfl (m := 1) rfl (by decide) (Or.inl rfl) (w1 := wX 17 3 (stA G4 97 1 0) tr) (wX_97 _ _ _) ?_
  have h6e : stA G4 97 1 0 0 = H 0 := (stA_ne (by decide)).trans h6d
  obtain ⟨G5, eG5⟩ : ∃ x, x = stA G4 97 1 0 := ⟨_, rfl⟩
  rw [← eG5] at h6e ⊢
  refine Ev.sn e_X8_house 4 (i' := 37) (ls' := [_, _, _]) (st' := [_, _]) rfl ?_
  refine Ev.brT (i1 := 45) (i2 := 38) e_X8_house rfl rfl ((by decide)) ?_
  refine Ev.sn e_X8_house 2 (i' := 47) (ls' := [_, _, _]) (st' := [_]) rfl ?_
  refine Ev.clV e_X8_house rfl rfl (as := []) rfl rfl rfl kl_X6_loseAll rfl rfl rfl (c_X6_loseAll _ 17 3 _ _) rfl ?_
  rw [show va_up G5 0 (upd (G5 0) 0 0) = stA G5 0 0 0 from rfl]
  refine Ev.sn e_X8_house 2 (i' := 50) (ls' := [_, _, _]) (st' := [_]) rfl ?_
  refine Ev.clV e_X8_house rfl rfl (as := []) rfl rfl rfl kl_X6_itemsRead rfl rfl rfl (c_X6_itemsRead _ 17 3 _ _) rfl ?_
  refine Ev.iret e_X8_house rfl rfl rfl ?_ rfl
  rw [stA_ne2 (by decide), h6e]
  exact h6
