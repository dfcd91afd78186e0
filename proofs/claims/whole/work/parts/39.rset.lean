/-! the reference: settles -/
def mixc (p off : Nat) (F : Nat → Int32) : Nat → Int32 := fun x => if x < p then F (off + x) else F x
theorem mixc_0 (off : Nat) (F : Nat → Int32) : mixc 0 off F = F := by
  funext x
  unfold mixc
  rw [if_neg (by omega)]
theorem mixc_s (p off : Nat) (F : Nat → Int32) : upd (mixc p off F) p (mixc p off F (off + p)) = mixc (p + 1) off F := by
  funext x
  unfold mixc upd
  rw [if_neg (show ¬ off + p < p by omega)]
  by_cases h : x = p
  · subst h
    simp
  · simp only [h, if_false]
    by_cases h2 : x < p
    · rw [if_pos h2, if_pos (by omega)]
    · rw [if_neg h2, if_neg (by omega)]
theorem va_same (g : RG) (r : Nat) : va_up g r (g r) = g := by
  funext x
  unfold va_up
  by_cases h : x = r
  · subst h; simp
  · simp [h]
theorem va_two (g : RG) (r : Nat) (A B : Nat → Int32) : va_up (va_up g r A) r B = va_up g r B := by
  funext x
  unfold va_up
  by_cases h : x = r
  · subst h; simp
  · simp [h]
set_option maxRecDepth 20000 in
set_option maxHeartbeats 200000 in
theorem l0_X9_settles (d : Nat) (g : RG) (tr : Int64) (r : Option Value) (w2 : AW) : ∀ (j p : Nat), p + j = 3 → Ev d 132 17 [.ref 0, .null] [] (wR (va_up g 2 (mixc 3 3 (g 2))) tr) r w2 → Ev d 132 2 [.ref 0, .int (nI p)] [] (wR (va_up g 2 (mixc p 3 (g 2))) tr) r w2 := by
  intro j
  induction j with
  | zero =>
    intro p hp K
    refine Ev.sn e_X9_settles 2 (i' := 4) (ls' := [_, _]) (st' := [_, _]) rfl ?_
    refine Ev.brT (i1 := 17) (i2 := 5) e_X9_settles rfl rfl (ge_t (n := 3) rfl (by omega) (by omega)) ?_
    rw [show p = 3 by omega]
    exact Ev.weak (lle_c (lle_n lle_0)) K
  | succ j ih =>
    intro p hp K
    refine Ev.sn e_X9_settles 2 (i' := 4) (ls' := [_, _]) (st' := [_, _]) rfl ?_
    refine Ev.brF (i1 := 17) (i2 := 5) e_X9_settles rfl rfl (ge_f (n := 3) rfl (by omega) (by omega)) ?_
    refine Ev.sn e_X9_settles 8 (i' := 13) (ls' := [_, _]) (st' := [_, _, _, _]) rfl ?_
    refine Ev.ialdE e_X9_settles rfl rfl rfl rfl (m := 3 + p) (nI_add 3 p) (by omega) ?_
    refine Ev.iastE e_X9_settles rfl rfl rfl (m := p) rfl (by omega) (w1 := wR (va_up g 2 (upd (mixc p 3 (g 2)) p (mixc p 3 (g 2) (3 + p)))) tr) rfl ?_
    refine Ev.sn e_X9_settles 2 (i' := 2) (ls' := [_, _]) (st' := []) rfl ?_
    rw [mixc_s, nI_1]
    exact ih (p + 1) (by omega) K
set_option maxRecDepth 20000 in
set_option maxHeartbeats 200000 in
theorem l1_X9_settles (d : Nat) (g : RG) (tr : Int64) (r : Option Value) (w2 : AW) : ∀ (j p : Nat), p + j = 24 → Ev d 132 34 [.ref 0, .null] [] (wR (va_up g 3 (mixc 24 24 (g 3))) tr) r w2 → Ev d 132 19 [.ref 0, .int (nI p)] [] (wR (va_up g 3 (mixc p 24 (g 3))) tr) r w2 := by
  intro j
  induction j with
  | zero =>
    intro p hp K
    refine Ev.sn e_X9_settles 2 (i' := 21) (ls' := [_, _]) (st' := [_, _]) rfl ?_
    refine Ev.brT (i1 := 34) (i2 := 22) e_X9_settles rfl rfl (ge_t (n := 24) rfl (by omega) (by omega)) ?_
    rw [show p = 24 by omega]
    exact Ev.weak (lle_c (lle_n lle_0)) K
  | succ j ih =>
    intro p hp K
    refine Ev.sn e_X9_settles 2 (i' := 21) (ls' := [_, _]) (st' := [_, _]) rfl ?_
    refine Ev.brF (i1 := 34) (i2 := 22) e_X9_settles rfl rfl (ge_f (n := 24) rfl (by omega) (by omega)) ?_
    refine Ev.sn e_X9_settles 8 (i' := 30) (ls' := [_, _]) (st' := [_, _, _, _]) rfl ?_
    refine Ev.ialdE e_X9_settles rfl rfl rfl rfl (m := 24 + p) (nI_add 24 p) (by omega) ?_
    refine Ev.iastE e_X9_settles rfl rfl rfl (m := p) rfl (by omega) (w1 := wR (va_up g 3 (upd (mixc p 24 (g 3)) p (mixc p 24 (g 3) (24 + p)))) tr) rfl ?_
    refine Ev.sn e_X9_settles 2 (i' := 19) (ls' := [_, _]) (st' := []) rfl ?_
    rw [mixc_s, nI_1]
    exact ih (p + 1) (by omega) K
set_option maxRecDepth 20000 in
set_option maxHeartbeats 200000 in
theorem l2_X9_settles (d : Nat) (g : RG) (tr : Int64) (r : Option Value) (w2 : AW) : ∀ (j p : Nat), p + j = 10 → Ev d 132 51 [.ref 0, .null] [] (wR (va_up g 4 (mixc 10 10 (g 4))) tr) r w2 → Ev d 132 36 [.ref 0, .int (nI p)] [] (wR (va_up g 4 (mixc p 10 (g 4))) tr) r w2 := by
  intro j
  induction j with
  | zero =>
    intro p hp K
    refine Ev.sn e_X9_settles 2 (i' := 38) (ls' := [_, _]) (st' := [_, _]) rfl ?_
    refine Ev.brT (i1 := 51) (i2 := 39) e_X9_settles rfl rfl (ge_t (n := 10) rfl (by omega) (by omega)) ?_
    rw [show p = 10 by omega]
    exact Ev.weak (lle_c (lle_n lle_0)) K
  | succ j ih =>
    intro p hp K
    refine Ev.sn e_X9_settles 2 (i' := 38) (ls' := [_, _]) (st' := [_, _]) rfl ?_
    refine Ev.brF (i1 := 51) (i2 := 39) e_X9_settles rfl rfl (ge_f (n := 10) rfl (by omega) (by omega)) ?_
    refine Ev.sn e_X9_settles 8 (i' := 47) (ls' := [_, _]) (st' := [_, _, _, _]) rfl ?_
    refine Ev.ialdE e_X9_settles rfl rfl rfl rfl (m := 10 + p) (nI_add 10 p) (by omega) ?_
    refine Ev.iastE e_X9_settles rfl rfl rfl (m := p) rfl (by omega) (w1 := wR (va_up g 4 (upd (mixc p 10 (g 4)) p (mixc p 10 (g 4) (10 + p)))) tr) rfl ?_
    refine Ev.sn e_X9_settles 2 (i' := 36) (ls' := [_, _]) (st' := []) rfl ?_
    rw [mixc_s, nI_1]
    exact ih (p + 1) (by omega) K
set_option maxRecDepth 20000 in
set_option maxHeartbeats 200000 in
theorem l3_X9_settles (d : Nat) (g : RG) (tr : Int64) (r : Option Value) (w2 : AW) : ∀ (j p : Nat), p + j = 12 → Ev d 132 68 [.ref 0, .null] [] (wR (va_up g 5 (mixc 12 12 (g 5))) tr) r w2 → Ev d 132 53 [.ref 0, .int (nI p)] [] (wR (va_up g 5 (mixc p 12 (g 5))) tr) r w2 := by
  intro j
  induction j with
  | zero =>
    intro p hp K
    refine Ev.sn e_X9_settles 2 (i' := 55) (ls' := [_, _]) (st' := [_, _]) rfl ?_
    refine Ev.brT (i1 := 68) (i2 := 56) e_X9_settles rfl rfl (ge_t (n := 12) rfl (by omega) (by omega)) ?_
    rw [show p = 12 by omega]
    exact Ev.weak (lle_c (lle_n lle_0)) K
  | succ j ih =>
    intro p hp K
    refine Ev.sn e_X9_settles 2 (i' := 55) (ls' := [_, _]) (st' := [_, _]) rfl ?_
    refine Ev.brF (i1 := 68) (i2 := 56) e_X9_settles rfl rfl (ge_f (n := 12) rfl (by omega) (by omega)) ?_
    refine Ev.sn e_X9_settles 8 (i' := 64) (ls' := [_, _]) (st' := [_, _, _, _]) rfl ?_
    refine Ev.ialdE e_X9_settles rfl rfl rfl rfl (m := 12 + p) (nI_add 12 p) (by omega) ?_
    refine Ev.iastE e_X9_settles rfl rfl rfl (m := p) rfl (by omega) (w1 := wR (va_up g 5 (upd (mixc p 12 (g 5)) p (mixc p 12 (g 5) (12 + p)))) tr) rfl ?_
    refine Ev.sn e_X9_settles 2 (i' := 53) (ls' := [_, _]) (st' := []) rfl ?_
    rw [mixc_s, nI_1]
    exact ih (p + 1) (by omega) K
