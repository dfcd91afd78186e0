/-! the reference: settles -/
def mixc (p off : Nat) (F : Nat → Int32) : Nat → Int32 := fun x => if x < p then F (off + x) else F x
theorem mixc_0 (off : Nat) (F : Nat → Int32) : mixc 0 off F = F := by
  funext x
  unfold mixc
  rw [if_neg (by omega)]
theorem mixc_s (p off : Nat) (F : Nat → Int32) : upd (mixc p off F) p (mixc p off F (off + p)) = mixc (p + 1) off F := by
  funext x
  unfold mixc upd
  rw [if_neg (show ¬ off + p < p by omega)]
  by_cases h : x = p
  · subst h
    simp
  · simp only [h, if_false]
    by_cases h2 : x < p
    · rw [if_pos h2, if_pos (by omega)]
    · rw [if_neg h2, if_neg (by omega)]
theorem va_same (g : RG) (r : Nat) : va_up g r (g r) = g := by
  funext x
  unfold va_up
  by_cases h : x = r
  · subst h; simp
  · simp [h]
theorem va_two (g : RG) (r : Nat) (A B : Nat → Int32) : va_up (va_up g r A) r B = va_up g r B := by
  funext x
  unfold va_up
  by_cases h : x = r
  · subst h; simp
  · simp [h]
set_option maxRecDepth 20000 in
set_option maxHeartbeats 200000 in
theorem l0_X9_settles (d : Nat) (g : RG) (tr : Int64) (r : Option Value) (w2 : AW) : ∀ (j p : Nat), p + j = 3 → Ev d 132 17 [.ref 0, .null] [] (wR (va_up g 2 (mixc 3 3 (g 2))) tr) r w2 → Ev d 132 2 [.ref 0, .int (nI p)] [] (wR (va_up g 2 (mixc p 3 (g 2))) tr) r w2 := by
  intro j
  induction j with
  | zero =>
    intro p hp K
    refine Ev.sn e_X9_settles 2 (i' := 4) (ls' := [_, _]) (st' := [_, _]) rfl ?_
    refine Ev.brT (i1 := 17) (i2 := 5) e_X9_settles rfl rfl (ge_t (n := 3) rfl (by omega) (by omega)) ?_
    rw [show p = 3 by omega]
    exact Ev.weak (lle_c (lle_n lle_0)) K
  | succ j ih =>
    intro p hp K
    refine Ev.sn e_X9_settles 2 (i' := 4) (ls' := [_, _]) (st' := [_, _]) rfl ?_
    refine Ev.brF (i1 := 17) (i2 := 5) e_X9_settles rfl rfl (ge_f (n := 3) rfl (by omega) (by omega)) ?_
    refine Ev.sn e_X9_settles 8 (i' := 13) (ls' := [_, _]) (st' := [_, _, _, _]) rfl ?_
    refine Ev.ialdE e_X9_settles rfl rfl rfl rfl (m := 3 + p) (nI_add 3 p) (by omega) ?_
    refine Ev.iastE e_X9_settles rfl rfl rfl (m := p) rfl (by omega) (w1 := wR (va_up g 2 (upd (mixc p 3 (g 2)) p (mixc p 3 (g 2) (3 + p)))) tr) rfl ?_
    refine Ev.sn e_X9_settles 2 (i' := 2) (ls' := [_, _]) (st' := []) rfl ?_
    rw [mixc_s, nI_1]
    exact ih (p + 1) (by omega) K
set_option maxRecDepth 20000 in
set_option maxHeartbeats 200000 in
theorem l1_X9_settles (d : Nat) (g : RG) (tr : Int64) (r : Option Value) (w2 : AW) : ∀ (j p : Nat), p + j = 24 → Ev d 132 34 [.ref 0, .null] [] (wR (va_up g 3 (mixc 24 24 (g 3))) tr) r w2 → Ev d 132 19 [.ref 0, .int (nI p)] [] (wR (va_up g 3 (mixc p 24 (g 3))) tr) r w2 := by
  intro j
  induction j with
  | zero =>
    intro p hp K
    refine Ev.sn e_X9_settles 2 (i' := 21) (ls' := [_, _]) (st' := [_, _]) rfl ?_
    refine Ev.brT (i1 := 34) (i2 := 22) e_X9_settles rfl rfl (ge_t (n := 24) rfl (by omega) (by omega)) ?_
    rw [show p = 24 by omega]
    exact Ev.weak (lle_c (lle_n lle_0)) K
  | succ j ih =>
    intro p hp K
    refine Ev.sn e_X9_settles 2 (i' := 21) (ls' := [_, _]) (st' := [_, _]) rfl ?_
    refine Ev.brF (i1 := 34) (i2 := 22) e_X9_settles rfl rfl (ge_f (n := 24) rfl (by omega) (by omega)) ?_
    refine Ev.sn e_X9_settles 8 (i' := 30) (ls' := [_, _]) (st' := [_, _, _, _]) rfl ?_
    refine Ev.ialdE e_X9_settles rfl rfl rfl rfl (m := 24 + p) (nI_add 24 p) (by omega) ?_
    refine Ev.iastE e_X9_settles rfl rfl rfl (m := p) rfl (by omega) (w1 := wR (va_up g 3 (upd (mixc p 24 (g 3)) p (mixc p 24 (g 3) (24 + p)))) tr) rfl ?_
    refine Ev.sn e_X9_settles 2 (i' := 19) (ls' := [_, _]) (st' := []) rfl ?_
    rw [mixc_s, nI_1]
    exact ih (p + 1) (by omega) K
set_option maxRecDepth 20000 in
set_option maxHeartbeats 200000 in
theorem l2_X9_settles (d : Nat) (g : RG) (tr : Int64) (r : Option Value) (w2 : AW) : ∀ (j p : Nat), p + j = 10 → Ev d 132 51 [.ref 0, .null] [] (wR (va_up g 4 (mixc 10 10 (g 4))) tr) r w2 → Ev d 132 36 [.ref 0, .int (nI p)] [] (wR (va_up g 4 (mixc p 10 (g 4))) tr) r w2 := by
  intro j
  induction j with
  | zero =>
    intro p hp K
    refine Ev.sn e_X9_settles 2 (i' := 38) (ls' := [_, _]) (st' := [_, _]) rfl ?_
    refine Ev.brT (i1 := 51) (i2 := 39) e_X9_settles rfl rfl (ge_t (n := 10) rfl (by omega) (by omega)) ?_
    rw [show p = 10 by omega]
    exact Ev.weak (lle_c (lle_n lle_0)) K
  | succ j ih =>
    intro p hp K
    refine Ev.sn e_X9_settles 2 (i' := 38) (ls' := [_, _]) (st' := [_, _]) rfl ?_
    refine Ev.brF (i1 := 51) (i2 := 39) e_X9_settles rfl rfl (ge_f (n := 10) rfl (by omega) (by omega)) ?_
    refine Ev.sn e_X9_settles 8 (i' := 47) (ls' := [_, _]) (st' := [_, _, _, _]) rfl ?_
    refine Ev.ialdE e_X9_settles rfl rfl rfl rfl (m := 10 + p) (nI_add 10 p) (by omega) ?_
    refine Ev.iastE e_X9_settles rfl rfl rfl (m := p) rfl (by omega) (w1 := wR (va_up g 4 (upd (mixc p 10 (g 4)) p (mixc p 10 (g 4) (10 + p)))) tr) rfl ?_
    refine Ev.sn e_X9_settles 2 (i' := 36) (ls' := [_, _]) (st' := []) rfl ?_
    rw [mixc_s, nI_1]
    exact ih (p + 1) (by omega) K
set_option maxRecDepth 20000 in
set_option maxHeartbeats 200000 in
theorem l3_X9_settles (d : Nat) (g : RG) (tr : Int64) (r : Option Value) (w2 : AW) : ∀ (j p : Nat), p + j = 12 → Ev d 132 68 [.ref 0, .null] [] (wR (va_up g 5 (mixc 12 12 (g 5))) tr) r w2 → Ev d 132 53 [.ref 0, .int (nI p)] [] (wR (va_up g 5 (mixc p 12 (g 5))) tr) r w2 := by
  intro j
  induction j with
  | zero =>
    intro p hp K
    refine Ev.sn e_X9_settles 2 (i' := 55) (ls' := [_, _]) (st' := [_, _]) rfl ?_
    refine Ev.brT (i1 := 68) (i2 := 56) e_X9_settles rfl rfl (ge_t (n := 12) rfl (by omega) (by omega)) ?_
    rw [show p = 12 by omega]
    exact Ev.weak (lle_c (lle_n lle_0)) K
  | succ j ih =>
    intro p hp K
    refine Ev.sn e_X9_settles 2 (i' := 55) (ls' := [_, _]) (st' := [_, _]) rfl ?_
    refine Ev.brF (i1 := 68) (i2 := 56) e_X9_settles rfl rfl (ge_f (n := 12) rfl (by omega) (by omega)) ?_
    refine Ev.sn e_X9_settles 8 (i' := 64) (ls' := [_, _]) (st' := [_, _, _, _]) rfl ?_
    refine Ev.ialdE e_X9_settles rfl rfl rfl rfl (m := 12 + p) (nI_add 12 p) (by omega) ?_
    refine Ev.iastE e_X9_settles rfl rfl rfl (m := p) rfl (by omega) (w1 := wR (va_up g 5 (upd (mixc p 12 (g 5)) p (mixc p 12 (g 5) (12 + p)))) tr) rfl ?_
    refine Ev.sn e_X9_settles 2 (i' := 53) (ls' := [_, _]) (st' := []) rfl ?_
    rw [mixc_s, nI_1]
    exact ih (p + 1) (by omega) K
def sx5 (p : Nat) (A B : Nat → Int32) : Nat → Int32 := fun x => if x < p then 0 else if 6 ≤ x ∧ x < 6 + p then A (4 * (x - 6) + 1) else B x
def sx6 (p : Nat) (A B : Nat → Int32) : Nat → Int32 := fun x => if 12 ≤ x ∧ x < 12 + p then A (2 * (x - 12)) else B x
theorem sx5_s {p : Nat} (hp : p < 6) (A B : Nat → Int32) : upd (upd (sx5 p A B) p 0) (6 + p) (A (4 * p + 1)) = sx5 (p + 1) A B := by
  funext x
  unfold upd sx5
  by_cases h : x = 6 + p
  · subst h
    rw [if_pos rfl, if_neg (by omega), if_pos (by omega), show 6 + p - 6 = p by omega]
  · rw [if_neg h]
    by_cases h2 : x = p
    · subst h2
      rw [if_pos rfl, if_pos (by omega)]
    · rw [if_neg h2]
      by_cases h3 : x < p
      · rw [if_pos h3, if_pos (by omega)]
      · rw [if_neg h3, if_neg (show ¬ x < p + 1 by omega)]
        by_cases h4 : 6 ≤ x ∧ x < 6 + p
        · rw [if_pos h4, if_pos (by omega)]
        · rw [if_neg h4, if_neg (by omega)]
theorem sx5_0 (A B : Nat → Int32) : sx5 0 A B = B := by
  funext x
  unfold sx5
  rw [if_neg (by omega), if_neg (by omega)]
theorem sx6_0 (A B : Nat → Int32) : sx6 0 A B = B := by
  funext x
  unfold sx6
  rw [if_neg (by omega)]
theorem sx6_s (p : Nat) (A B : Nat → Int32) : upd (sx6 p A B) (12 + p) (A (2 * p)) = sx6 (p + 1) A B := by
  funext x
  unfold upd sx6
  by_cases h : x = 12 + p
  · subst h
    rw [if_pos rfl, if_pos (by omega), show 12 + p - 12 = p by omega]
  · rw [if_neg h]
    by_cases h4 : 12 ≤ x ∧ x < 12 + p
    · rw [if_pos h4, if_pos (by omega)]
    · rw [if_neg h4, if_neg (by omega)]
theorem wR_6 (g : RG) (tr : Int64) (A B F : Nat → Int32) : (wR (va_up (va_up g 6 A) 7 B) tr).set 6 (.inl (0, 12, .inl F)) = wR (va_up (va_up g 6 F) 7 B) tr := rfl
theorem wR_7 (g : RG) (tr : Int64) (B F : Nat → Int32) : (wR (va_up g 7 B) tr).set 7 (.inl (0, 17, .inl F)) = wR (va_up g 7 F) tr := rfl
set_option maxRecDepth 20000 in
set_option maxHeartbeats 200000 in
theorem l4_X9_settles (d : Nat) (g : RG) (tr : Int64) (r : Option Value) (w2 : AW) : ∀ (j p : Nat), p + j = 6 → Ev d 132 106 [.ref 0, .null] [] (wR (va_up (va_up g 6 (mixc 6 6 (g 6))) 7 (sx5 6 (g 3) (g 7))) tr) r w2 → Ev d 132 70 [.ref 0, .int (nI p)] [] (wR (va_up (va_up g 6 (mixc p 6 (g 6))) 7 (sx5 p (g 3) (g 7))) tr) r w2 := by
  intro j
  induction j with
  | zero =>
    intro p hp K
    refine Ev.sn e_X9_settles 2 (i' := 72) (ls' := [_, _]) (st' := [_, _]) rfl ?_
    refine Ev.brT (i1 := 106) (i2 := 73) e_X9_settles rfl rfl (ge_t (n := 6) rfl (by omega) (by omega)) ?_
    rw [show p = 6 by omega]
    exact Ev.weak (lle_c (lle_n lle_0)) K
  | succ j ih =>
    intro p hp K
    refine Ev.sn e_X9_settles 2 (i' := 72) (ls' := [_, _]) (st' := [_, _]) rfl ?_
    refine Ev.brF (i1 := 106) (i2 := 73) e_X9_settles rfl rfl (ge_f (n := 6) rfl (by omega) (by omega)) ?_
    refine Ev.sn e_X9_settles 8 (i' := 81) (ls' := [_, _]) (st' := [_, _, _, _]) rfl ?_
    refine Ev.ialdE e_X9_settles rfl rfl rfl rfl (m := 6 + p) (nI_add 6 p) (by omega) ?_
    refine Ev.iastE e_X9_settles rfl rfl rfl (m := p) rfl (by omega) (w1 := (wR (va_up (va_up g 6 (upd (mixc p 6 (g 6)) p (mixc p 6 (g 6) (6 + p)))) 7 (sx5 p (g 3) (g 7))) tr)) (wR_6 _ _ _ _ _) ?_
    rw [mixc_s]
    refine Ev.sn e_X9_settles 6 (i' := 89) (ls' := [_, _]) (st' := [_, _, _]) rfl ?_
    refine Ev.iastE e_X9_settles rfl rfl rfl (m := p) (z_add _) (by omega) (w1 := (wR (va_up (va_up g 6 (mixc (p + 1) 6 (g 6))) 7 (upd (sx5 p (g 3) (g 7)) p 0)) tr)) (wR_7 _ _ _ _) ?_
    refine Ev.sn e_X9_settles 12 (i' := 102) (ls' := [_, _]) (st' := [_, _, _, _]) rfl ?_
    refine Ev.ialdE e_X9_settles rfl rfl rfl rfl (m := 4 * p + 1) (ixm 4 1 p) (by omega) ?_
    refine Ev.iastE e_X9_settles rfl rfl rfl (m := 6 + p) (nI_add 6 p) (by omega) (w1 := (wR (va_up (va_up g 6 (mixc (p + 1) 6 (g 6))) 7 (upd (upd (sx5 p (g 3) (g 7)) p 0) (6 + p) (g 3 (4 * p + 1)))) tr)) (wR_7 _ _ _ _) ?_
    refine Ev.sn e_X9_settles 2 (i' := 70) (ls' := [_, _]) (st' := []) rfl ?_
    rw [sx5_s (by omega), nI_1]
    exact ih (p + 1) (by omega) K
set_option maxRecDepth 20000 in
set_option maxHeartbeats 200000 in
theorem l5_X9_settles (d : Nat) (g : RG) (tr : Int64) (r : Option Value) (w2 : AW) : ∀ (j p : Nat), p + j = 5 → Ev d 132 125 [.ref 0, .null] [] (wR (va_up g 7 (sx6 5 (g 4) (g 7))) tr) r w2 → Ev d 132 108 [.ref 0, .int (nI p)] [] (wR (va_up g 7 (sx6 p (g 4) (g 7))) tr) r w2 := by
  intro j
  induction j with
  | zero =>
    intro p hp K
    refine Ev.sn e_X9_settles 2 (i' := 110) (ls' := [_, _]) (st' := [_, _]) rfl ?_
    refine Ev.brT (i1 := 125) (i2 := 111) e_X9_settles rfl rfl (ge_t (n := 5) rfl (by omega) (by omega)) ?_
    rw [show p = 5 by omega]
    exact Ev.weak (lle_c (lle_n lle_0)) K
  | succ j ih =>
    intro p hp K
    refine Ev.sn e_X9_settles 2 (i' := 110) (ls' := [_, _]) (st' := [_, _]) rfl ?_
    refine Ev.brF (i1 := 125) (i2 := 111) e_X9_settles rfl rfl (ge_f (n := 5) rfl (by omega) (by omega)) ?_
    refine Ev.sn e_X9_settles 10 (i' := 121) (ls' := [_, _]) (st' := [_, _, _, _]) rfl ?_
    refine Ev.ialdE e_X9_settles rfl rfl rfl rfl (m := 2 * p) (pk_mul 2 p) (by omega) ?_
    refine Ev.iastE e_X9_settles rfl rfl rfl (m := 12 + p) (nI_add 12 p) (by omega) (w1 := wR (va_up g 7 (upd (sx6 p (g 4) (g 7)) (12 + p) (g 4 (2 * p)))) tr) (wR_7 _ _ _ _) ?_
    refine Ev.sn e_X9_settles 2 (i' := 108) (ls' := [_, _]) (st' := []) rfl ?_
    rw [sx6_s, nI_1]
    exact ih (p + 1) (by omega) K
def setT (g : RG) : RG :=
  let g1 := va_up g 2 (mixc 3 3 (g 2))
  let g2 := va_up g1 3 (mixc 24 24 (g1 3))
  let g3 := va_up g2 4 (mixc 10 10 (g2 4))
  let g4 := va_up g3 5 (mixc 12 12 (g3 5))
  let g5 := va_up (va_up g4 6 (mixc 6 6 (g4 6))) 7 (sx5 6 (g4 3) (g4 7))
  let g6 := va_up g5 7 (sx6 5 (g5 4) (g5 7))
  stA (stA (stA (stA (stA g6 0 0 0) 0 7 0) 0 6 0) 9 0 0) 9 1 0
theorem wR_s (g : RG) (tr : Int64) (v : Int32) : ((wR g tr).set 0 (.inr (9, List.set [.int 0, .long tr, .ref 1, .int (g 0 0), .int (g 0 1), .int (g 0 2), .int (g 0 3), .int (g 0 4), .int (g 0 5), .ref 2, .ref 3, .ref 4, .ref 5, .ref 6, .ref 7, .ref 8, .ref 9, .ref 10, .int (g 0 6), .ref 11, .ref 12, .int (g 0 7), .ref 13, .ref 14, .ref 15] 3 (.int v))) = wR (stA g 0 0 v) tr) ∧ ((wR g tr).set 0 (.inr (9, List.set [.int 0, .long tr, .ref 1, .int (g 0 0), .int (g 0 1), .int (g 0 2), .int (g 0 3), .int (g 0 4), .int (g 0 5), .ref 2, .ref 3, .ref 4, .ref 5, .ref 6, .ref 7, .ref 8, .ref 9, .ref 10, .int (g 0 6), .ref 11, .ref 12, .int (g 0 7), .ref 13, .ref 14, .ref 15] 21 (.int v))) = wR (stA g 0 7 v) tr) ∧ ((wR g tr).set 0 (.inr (9, List.set [.int 0, .long tr, .ref 1, .int (g 0 0), .int (g 0 1), .int (g 0 2), .int (g 0 3), .int (g 0 4), .int (g 0 5), .ref 2, .ref 3, .ref 4, .ref 5, .ref 6, .ref 7, .ref 8, .ref 9, .ref 10, .int (g 0 6), .ref 11, .ref 12, .int (g 0 7), .ref 13, .ref 14, .ref 15] 18 (.int v))) = wR (stA g 0 6 v) tr) := ⟨rfl, rfl, rfl⟩
theorem wR_9 (g : RG) (tr : Int64) (F : Nat → Int32) : (wR g tr).set 9 (.inl (1, 2, .inl F)) = wR (va_up g 9 F) tr := rfl
set_option maxRecDepth 20000 in
set_option maxHeartbeats 200000 in
theorem c_X9_settles (d : Nat) (g : RG) (tr : Int64) : Ev d 132 0 [.ref 0, .null] [] (wR g tr) none (wR (setT g) tr) := by
  unfold setT
  dsimp only
  refine Ev.sn e_X9_settles 2 (i' := 2) (ls' := [_, _]) (st' := []) rfl ?_
  skip
  rw [show wR g tr = wR (va_up g 2 (mixc 0 3 (g 2))) tr by rw [mixc_0, va_same]]
  refine l0_X9_settles _ _ _ _ _ 3 0 (by omega) ?_
  obtain ⟨g1, eg1⟩ : ∃ x, x = va_up g 2 (mixc 3 3 (g 2)) := ⟨_, rfl⟩
  rw [← eg1]
  refine Ev.sn e_X9_settles 2 (i' := 19) (ls' := [_, _]) (st' := []) rfl ?_
  skip
  rw [show wR g1 tr = wR (va_up g1 3 (mixc 0 24 (g1 3))) tr by rw [mixc_0, va_same]]
  refine l1_X9_settles _ _ _ _ _ 24 0 (by omega) ?_
  obtain ⟨g2, eg2⟩ : ∃ x, x = va_up g1 3 (mixc 24 24 (g1 3)) := ⟨_, rfl⟩
  rw [← eg2]
  refine Ev.sn e_X9_settles 2 (i' := 36) (ls' := [_, _]) (st' := []) rfl ?_
  skip
  rw [show wR g2 tr = wR (va_up g2 4 (mixc 0 10 (g2 4))) tr by rw [mixc_0, va_same]]
  refine l2_X9_settles _ _ _ _ _ 10 0 (by omega) ?_
  obtain ⟨g3, eg3⟩ : ∃ x, x = va_up g2 4 (mixc 10 10 (g2 4)) := ⟨_, rfl⟩
  rw [← eg3]
  refine Ev.sn e_X9_settles 2 (i' := 53) (ls' := [_, _]) (st' := []) rfl ?_
  skip
  rw [show wR g3 tr = wR (va_up g3 5 (mixc 0 12 (g3 5))) tr by rw [mixc_0, va_same]]
  refine l3_X9_settles _ _ _ _ _ 12 0 (by omega) ?_
  obtain ⟨g4, eg4⟩ : ∃ x, x = va_up g3 5 (mixc 12 12 (g3 5)) := ⟨_, rfl⟩
  rw [← eg4]
  refine Ev.sn e_X9_settles 2 (i' := 70) (ls' := [_, _]) (st' := []) rfl ?_
  skip
  rw [show wR g4 tr = wR (va_up (va_up g4 6 (mixc 0 6 (g4 6))) 7 (sx5 0 (g4 3) (g4 7))) tr by rw [mixc_0, sx5_0, va_same, va_same]]
  refine l4_X9_settles _ _ _ _ _ 6 0 (by omega) ?_
  obtain ⟨g5, eg5⟩ : ∃ x, x = va_up (va_up g4 6 (mixc 6 6 (g4 6))) 7 (sx5 6 (g4 3) (g4 7)) := ⟨_, rfl⟩
  rw [← eg5]
  refine Ev.sn e_X9_settles 2 (i' := 108) (ls' := [_, _]) (st' := []) rfl ?_
  skip
  rw [show wR g5 tr = wR (va_up g5 7 (sx6 0 (g5 4) (g5 7))) tr by rw [sx6_0, va_same]]
  refine l5_X9_settles _ _ _ _ _ 5 0 (by omega) ?_
  obtain ⟨g6, eg6⟩ : ∃ x, x = va_up g5 7 (sx6 5 (g5 4) (g5 7)) := ⟨_, rfl⟩
  rw [← eg6]
  refine Ev.sn e_X9_settles 2 (i' := 127) (ls' := [_, _]) (st' := [_, _]) rfl ?_
  refine Ev.put e_X9_settles rfl rfl rfl rfl rfl rfl (w1 := wR (stA g6 0 0 0) tr) (wR_s _ _ _).1 ?_
  obtain ⟨h1, eh1⟩ : ∃ x, x = stA g6 0 0 0 := ⟨_, rfl⟩
  rw [← eh1]
  refine Ev.sn e_X9_settles 2 (i' := 130) (ls' := [_, _]) (st' := [_, _]) rfl ?_
  refine Ev.put e_X9_settles rfl rfl rfl rfl rfl rfl (w1 := wR (stA h1 0 7 0) tr) (wR_s _ _ _).2.1 ?_
  obtain ⟨h2, eh2⟩ : ∃ x, x = stA h1 0 7 0 := ⟨_, rfl⟩
  rw [← eh2]
  refine Ev.sn e_X9_settles 2 (i' := 133) (ls' := [_, _]) (st' := [_, _]) rfl ?_
  refine Ev.put e_X9_settles rfl rfl rfl rfl rfl rfl (w1 := wR (stA h2 0 6 0) tr) (wR_s _ _ _).2.2 ?_
  obtain ⟨h3, eh3⟩ : ∃ x, x = stA h2 0 6 0 := ⟨_, rfl⟩
  rw [← eh3]
  refine Ev.sn e_X9_settles 4 (i' := 138) (ls' := [_, _]) (st' := [_, _, _]) rfl ?_
  refine Ev.bastE e_X9_settles rfl rfl rfl (m := 0) rfl (by decide) (Or.inl rfl) (w1 := wR (stA h3 9 0 0) tr) (wR_9 _ _ _) ?_
  obtain ⟨h4, eh4⟩ : ∃ x, x = stA h3 9 0 0 := ⟨_, rfl⟩
  rw [← eh4]
  refine Ev.sn e_X9_settles 4 (i' := 143) (ls' := [_, _]) (st' := [_, _, _]) rfl ?_
  refine Ev.bastE e_X9_settles rfl rfl rfl (m := 1) rfl (by decide) (Or.inl rfl) (w1 := wR (stA h4 9 1 0) tr) (wR_9 _ _ _) ?_
  exact Ev.vret e_X9_settles rfl rfl rfl
