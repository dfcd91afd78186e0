/-! the text: the class takes its tokens -/
theorem Ev.gst {d M i : Nat} {ls : List Value} {w w' : AW} {r : Option Value} {c : List Row} {pc a b : Nat} {z : Int32} {zl : Int64} {sw : List (Int32 × Nat)} {ps : List Nat} {i' n : Nat} {s0 : List Value} (hc : mP M = c) (hr : c[i]? = some (pc, .getstatic n, a, b, z, zl, sw, ps)) (hi : i + 1 = i') (q : Ev d M i' ls (.ref (1000000 + a) :: s0) w r w') : Ev d M i ls s0 w r w' := by
  subst hi
  exact Ev.go hc hr rfl rfl q
def digB (x : Int32) : Bool := decide (48 ≤ x) && decide (x ≤ 57)
def ownB (x : Int32) : Bool := decide (x = 107) || (decide (x = 116) || (decide (x = 112) || (decide (x = 100) || decide (x = 59))))
def skp (f : Nat → Int32) : Nat → Nat → Nat
  | 0, i => i
  | j + 1, i => if f i = 32 then skp f j (i + 1) else i
theorem skp_le (f : Nat → Int32) : ∀ j i, i ≤ skp f j i ∧ skp f j i ≤ i + j
  | 0, i => by simp [skp]
  | j + 1, i => by
    have := skp_le f j (i + 1)
    unfold skp
    split <;> omega
def dgF (f : Nat → Int32) : Nat → Nat → Int32 → Nat × Int32
  | 0, i, v => (i, v)
  | j + 1, i, v => if digB (f i) = true then dgF f j (i + 1) (if 100 < 10 * v + f i - 48 then 100 else 10 * v + f i - 48) else (i, v)
theorem dgF_le (f : Nat → Int32) : ∀ j i v, i ≤ (dgF f j i v).1 ∧ (dgF f j i v).1 ≤ i + j
  | 0, i, v => by simp [dgF]
  | j + 1, i, v => by
    have := dgF_le f j (i + 1) (if 100 < 10 * v + f i - 48 then 100 else 10 * v + f i - 48)
    unfold dgF
    split
    · omega
    · simp
def tkD (c : Int32) (l : Nat) (v : Int32) : Int32 := if (c = 48 ∧ 1 < l) ∨ 99 < v then 63 else 48
def tS (pl tk tp tv fl : Int32) (t0 : Nat → Int32) : Nat → Int32 := fun x => match x with | 1 => pl | 2 => tk | 3 => tp | 4 => tv | 5 => fl | x => t0 x
set_option maxRecDepth 20000 in
set_option maxHeartbeats 200000 in
theorem c_X6_isDigit (d : Nat) (w : AW) (x : Int32) : Ev d 61 0 [.int x] [] w (some (.int (bI (digB x)))) w := by
  refine Ev.sn e_X6_isDigit 2 (i' := 2) (ls' := [_]) (st' := [_, _]) rfl ?_
  refine Ev.br (i1 := 8) (i2 := 3) e_X6_isDigit rfl rfl (fun h0 => ?_) (fun h0 => ?_)
  · refine Ev.sn e_X6_isDigit 1 (i' := 9) (ls' := [_]) (st' := [_]) rfl ?_
    refine Ev.iret e_X6_isDigit rfl rfl rfl ?_ rfl
    simp [bI, digB, Int32.not_le.mpr h0]
  · refine Ev.sn e_X6_isDigit 2 (i' := 5) (ls' := [_]) (st' := [_, _]) rfl ?_
    refine Ev.br (i1 := 8) (i2 := 6) e_X6_isDigit rfl rfl (fun h1 => ?_) (fun h1 => ?_)
    · refine Ev.sn e_X6_isDigit 1 (i' := 9) (ls' := [_]) (st' := [_]) rfl ?_
      refine Ev.iret e_X6_isDigit rfl rfl rfl ?_ rfl
      simp [bI, digB, Int32.not_le.mpr h1]
    · refine Ev.sn e_X6_isDigit 2 (i' := 9) (ls' := [_]) (st' := [_]) rfl ?_
      refine Ev.iret e_X6_isDigit rfl rfl rfl ?_ rfl
      simp [bI, digB, Int32.not_lt.mp h0, Int32.not_lt.mp h1]
set_option maxRecDepth 20000 in
set_option maxHeartbeats 200000 in
theorem c_X6_isOwnToken (d : Nat) (w : AW) (x : Int32) : Ev d 62 0 [.int x] [] w (some (.int (bI (ownB x)))) w := by
  refine Ev.sn e_X6_isOwnToken 2 (i' := 2) (ls' := [_]) (st' := [_, _]) rfl ?_
  refine Ev.br (i1 := 15) (i2 := 3) e_X6_isOwnToken rfl rfl (fun h0 => ?_) (fun h0 => ?_)
  · refine Ev.sn e_X6_isOwnToken 2 (i' := 18) (ls' := [_]) (st' := [_]) rfl ?_
    refine Ev.iret e_X6_isOwnToken rfl rfl rfl ?_ rfl
    simp [bI, ownB, h0]
  · refine Ev.sn e_X6_isOwnToken 2 (i' := 5) (ls' := [_]) (st' := [_, _]) rfl ?_
    refine Ev.br (i1 := 15) (i2 := 6) e_X6_isOwnToken rfl rfl (fun h1 => ?_) (fun h1 => ?_)
    · refine Ev.sn e_X6_isOwnToken 2 (i' := 18) (ls' := [_]) (st' := [_]) rfl ?_
      refine Ev.iret e_X6_isOwnToken rfl rfl rfl ?_ rfl
      simp [bI, ownB, h0, h1]
    · refine Ev.sn e_X6_isOwnToken 2 (i' := 8) (ls' := [_]) (st' := [_, _]) rfl ?_
      refine Ev.br (i1 := 15) (i2 := 9) e_X6_isOwnToken rfl rfl (fun h2 => ?_) (fun h2 => ?_)
      · refine Ev.sn e_X6_isOwnToken 2 (i' := 18) (ls' := [_]) (st' := [_]) rfl ?_
        refine Ev.iret e_X6_isOwnToken rfl rfl rfl ?_ rfl
        simp [bI, ownB, h0, h1, h2]
      · refine Ev.sn e_X6_isOwnToken 2 (i' := 11) (ls' := [_]) (st' := [_, _]) rfl ?_
        refine Ev.br (i1 := 15) (i2 := 12) e_X6_isOwnToken rfl rfl (fun h3 => ?_) (fun h3 => ?_)
        · refine Ev.sn e_X6_isOwnToken 2 (i' := 18) (ls' := [_]) (st' := [_]) rfl ?_
          refine Ev.iret e_X6_isOwnToken rfl rfl rfl ?_ rfl
          simp [bI, ownB, h0, h1, h2, h3]
        · refine Ev.sn e_X6_isOwnToken 2 (i' := 14) (ls' := [_]) (st' := [_, _]) rfl ?_
          refine Ev.br (i1 := 15) (i2 := 17) e_X6_isOwnToken rfl rfl (fun h4 => ?_) (fun h4 => ?_)
          · refine Ev.sn e_X6_isOwnToken 2 (i' := 18) (ls' := [_]) (st' := [_]) rfl ?_
            refine Ev.iret e_X6_isOwnToken rfl rfl rfl ?_ rfl
            simp [bI, ownB, h0, h1, h2, h3, h4]
          · refine Ev.sn e_X6_isOwnToken 1 (i' := 18) (ls' := [_]) (st' := [_]) rfl ?_
            refine Ev.iret e_X6_isOwnToken rfl rfl rfl ?_ rfl
            simp [bI, ownB, h0, h1, h2, h3, h4]
set_option maxRecDepth 20000 in
set_option maxHeartbeats 200000 in
theorem lp_X6_takeDigits (d : Nat) (g : Nat → Nat → Int32) (tr : Int64) (t0 : Nat → Int32) {k : Nat} (ht : t0 0 = nI k) (hk : k ≤ 200) (tk tp fl : Int32) (r : Option Value) (w2 : AW) : ∀ (j i : Nat) (v : Int32), i + j = k → Ev (d + 1) 60 38 [.ref 1, .null] [] (wC (va_up g 0 (tS (nI (dgF (g 1) j i v).1) (tk) (tp) ((dgF (g 1) j i v).2) (fl) t0)) tr) r w2 → Ev (d + 1) 60 3 [.ref 1, .null] [] (wC (va_up g 0 (tS (nI i) (tk) (tp) (v) (fl) t0)) tr) r w2 := by
  intro j
  induction j with
  | zero =>
    intro i v hi K
    refine Ev.sn e_X6_takeDigits 4 (i' := 7) (ls' := [_, _]) (st' := [_, _]) rfl ?_
    refine Ev.brT (i1 := 38) (i2 := 8) e_X6_takeDigits rfl rfl (ge_t ht (by omega) (by omega)) ?_
    exact K
  | succ j ih =>
    intro i v hi K
    unfold dgF at K
    refine Ev.sn e_X6_takeDigits 4 (i' := 7) (ls' := [_, _]) (st' := [_, _]) rfl ?_
    refine Ev.brF (i1 := 38) (i2 := 8) e_X6_takeDigits rfl rfl (ge_f ht (by omega) (by omega)) ?_
    refine Ev.sn e_X6_takeDigits 4 (i' := 12) (ls' := [_, _]) (st' := [_, _]) rfl ?_
    refine Ev.caldE e_X6_takeDigits rfl rfl rfl (m := i) rfl (by omega) ?_
    refine Ev.clS e_X6_takeDigits rfl rfl rfl (as := [_]) rfl rfl rfl rfl rfl (c_X6_isDigit _ _ _) rfl ?_
    refine Ev.brB (i1 := 38) (i2 := 15) e_X6_takeDigits rfl rfl (fun h0 => ?_) (fun h0 => ?_)
    · have h0 : digB (g 1 i) = false := h0
      rw [if_neg (fun h => by rw [h0] at h; exact absurd h (by decide))] at K
      exact K
    · refine Ev.sn e_X6_takeDigits 9 (i' := 24) (ls' := [_, _]) (st' := [_, _, _, _]) rfl ?_
      refine Ev.caldE e_X6_takeDigits rfl rfl rfl (m := i) rfl (by omega) ?_
      refine Ev.sn e_X6_takeDigits 4 (i' := 29) (ls' := [_, _]) (st' := [_, _, _]) rfl ?_
      refine Ev.clS e_X6_takeDigits rfl rfl rfl (as := [_, _]) rfl rfl rfl rfl rfl (c_J9_min_7cf53 _ _ _ _) rfl ?_
      refine Ev.put e_X6_takeDigits rfl rfl rfl rfl rfl rfl (w1 := (wC (va_up g 0 (tS (nI i) (tk) (tp) (if 100 < 10 * v + g 1 i - 48 then 100 else 10 * v + g 1 i - 48) (fl) t0)) tr)) rfl ?_
      refine Ev.sn e_X6_takeDigits 5 (i' := 36) (ls' := [_, _]) (st' := [_, _]) rfl ?_
      refine Ev.put e_X6_takeDigits rfl rfl rfl rfl rfl rfl (w1 := (wC (va_up g 0 (tS (nI i + 1) (tk) (tp) (if 100 < 10 * v + g 1 i - 48 then 100 else 10 * v + g 1 i - 48) (fl) t0)) tr)) rfl ?_
      refine Ev.sn e_X6_takeDigits 1 (i' := 3) (ls' := [_, _]) (st' := []) rfl ?_
      rw [if_pos (show digB (g 1 i) = true from h0)] at K
      rw [nI_1]
      exact ih (i + 1) _ (by omega) K
set_option maxRecDepth 20000 in
set_option maxHeartbeats 200000 in
theorem c_X6_takeDigits (d : Nat) (g : Nat → Nat → Int32) (tr : Int64) (t0 : Nat → Int32) {k : Nat} (ht : t0 0 = nI k) (hk : k ≤ 200) {i : Nat} (hi : i < k) (tk tv fl : Int32) : Ev (d + 1) 60 0 [.ref 1, .null] [] (wC (va_up g 0 (tS (nI i) (tk) (nI i) (tv) (fl) t0)) tr) none (wC (va_up g 0 (tS (nI (dgF (g 1) (k - i) i 0).1) (tkD (g 1 i) ((dgF (g 1) (k - i) i 0).1 - i) (dgF (g 1) (k - i) i 0).2) (nI i) ((dgF (g 1) (k - i) i 0).2) (fl) t0)) tr) := by
  have hd := dgF_le (g 1) (k - i) i 0
  refine Ev.sn e_X6_takeDigits 2 (i' := 2) (ls' := [_, _]) (st' := [_, _]) rfl ?_
  refine Ev.put e_X6_takeDigits rfl rfl rfl rfl rfl rfl (w1 := (wC (va_up g 0 (tS (nI i) (tk) (nI i) (0) (fl) t0)) tr)) rfl ?_
  refine lp_X6_takeDigits _ _ _ _ ht hk _ _ _ _ _ (k - i) i 0 (by omega) ?_
  refine Ev.sn e_X6_takeDigits 4 (i' := 42) (ls' := [_, _]) (st' := [_, _]) rfl ?_
  refine Ev.caldE e_X6_takeDigits rfl rfl rfl (m := i) rfl (by omega) ?_
  refine Ev.sn e_X6_takeDigits 1 (i' := 44) (ls' := [_, _]) (st' := [_, _]) rfl ?_
  refine Ev.br (i1 := 45) (i2 := 54) e_X6_takeDigits rfl rfl (fun hz => ?_) (fun hz => ?_)
  · refine Ev.sn e_X6_takeDigits 6 (i' := 51) (ls' := [_, _]) (st' := [_, _]) rfl ?_
    refine Ev.br (i1 := 54) (i2 := 52) e_X6_takeDigits rfl rfl (fun hl => ?_) (fun hl => ?_)
    · have nl : ¬ 1 < (dgF (g 1) (k - i) i 0).1 - i := fun h => absurd (show nI (dgF (g 1) (k - i) i 0).1 - nI i ≤ 1 from hl) (by rw [pk_sub hd.1]; exact nI_ge (a := 1) h (by omega))
      refine Ev.sn e_X6_takeDigits 4 (i' := 58) (ls' := [_, _]) (st' := [_, _]) rfl ?_
      refine Ev.brT (i1 := 59) (i2 := 63) e_X6_takeDigits rfl rfl ((by decide)) ?_
      refine Ev.sn e_X6_takeDigits 3 (i' := 62) (ls' := [_, _]) (st' := [_, _, _]) rfl ?_
      refine Ev.br (i1 := 65) (i2 := 63) e_X6_takeDigits rfl rfl (fun hv => ?_) (fun hv => ?_)
      · refine Ev.sn e_X6_takeDigits 1 (i' := 66) (ls' := [_, _]) (st' := [_, _]) rfl ?_
        refine Ev.put e_X6_takeDigits rfl rfl rfl rfl rfl rfl (w1 := (wC (va_up g 0 (tS (nI (dgF (g 1) (k - i) i 0).1) (48) (nI i) ((dgF (g 1) (k - i) i 0).2) (fl) t0)) tr)) rfl ?_
        exact Ev.vret e_X6_takeDigits rfl rfl (by rw [show tkD (g 1 i) ((dgF (g 1) (k - i) i 0).1 - i) (dgF (g 1) (k - i) i 0).2 = 48 from if_neg (fun h => h.elim (fun h => nl h.2) (fun h => Int32.not_lt.mpr hv h))])
      · refine Ev.sn e_X6_takeDigits 2 (i' := 66) (ls' := [_, _]) (st' := [_, _]) rfl ?_
        refine Ev.put e_X6_takeDigits rfl rfl rfl rfl rfl rfl (w1 := (wC (va_up g 0 (tS (nI (dgF (g 1) (k - i) i 0).1) (63) (nI i) ((dgF (g 1) (k - i) i 0).2) (fl) t0)) tr)) rfl ?_
        exact Ev.vret e_X6_takeDigits rfl rfl (by rw [show tkD (g 1 i) ((dgF (g 1) (k - i) i 0).1 - i) (dgF (g 1) (k - i) i 0).2 = 63 from if_pos (Or.inr (Int32.not_le.mp hv))])
    · have yl : 1 < (dgF (g 1) (k - i) i 0).1 - i := by
        by_cases h : 1 < (dgF (g 1) (k - i) i 0).1 - i
        · exact h
        · exact absurd (show nI (dgF (g 1) (k - i) i 0).1 - nI i ≤ 1 by rw [pk_sub hd.1]; exact nI_le (b := 1) (by omega) (by omega)) hl
      refine Ev.sn e_X6_takeDigits 5 (i' := 58) (ls' := [_, _]) (st' := [_, _]) rfl ?_
      refine Ev.brF (i1 := 59) (i2 := 63) e_X6_takeDigits rfl rfl ((by decide)) ?_
      refine Ev.sn e_X6_takeDigits 2 (i' := 66) (ls' := [_, _]) (st' := [_, _]) rfl ?_
      refine Ev.put e_X6_takeDigits rfl rfl rfl rfl rfl rfl (w1 := (wC (va_up g 0 (tS (nI (dgF (g 1) (k - i) i 0).1) (63) (nI i) ((dgF (g 1) (k - i) i 0).2) (fl) t0)) tr)) rfl ?_
      exact Ev.vret e_X6_takeDigits rfl rfl (by rw [show tkD (g 1 i) ((dgF (g 1) (k - i) i 0).1 - i) (dgF (g 1) (k - i) i 0).2 = 63 from if_pos (Or.inl ⟨hz, yl⟩)])
  · skip
    refine Ev.sn e_X6_takeDigits 4 (i' := 58) (ls' := [_, _]) (st' := [_, _]) rfl ?_
    refine Ev.brT (i1 := 59) (i2 := 63) e_X6_takeDigits rfl rfl ((by decide)) ?_
    refine Ev.sn e_X6_takeDigits 3 (i' := 62) (ls' := [_, _]) (st' := [_, _, _]) rfl ?_
    refine Ev.br (i1 := 65) (i2 := 63) e_X6_takeDigits rfl rfl (fun hv => ?_) (fun hv => ?_)
    · refine Ev.sn e_X6_takeDigits 1 (i' := 66) (ls' := [_, _]) (st' := [_, _]) rfl ?_
      refine Ev.put e_X6_takeDigits rfl rfl rfl rfl rfl rfl (w1 := (wC (va_up g 0 (tS (nI (dgF (g 1) (k - i) i 0).1) (48) (nI i) ((dgF (g 1) (k - i) i 0).2) (fl) t0)) tr)) rfl ?_
      exact Ev.vret e_X6_takeDigits rfl rfl (by rw [show tkD (g 1 i) ((dgF (g 1) (k - i) i 0).1 - i) (dgF (g 1) (k - i) i 0).2 = 48 from if_neg (fun h => h.elim (fun h => hz h.1) (fun h => Int32.not_lt.mpr hv h))])
    · refine Ev.sn e_X6_takeDigits 2 (i' := 66) (ls' := [_, _]) (st' := [_, _]) rfl ?_
      refine Ev.put e_X6_takeDigits rfl rfl rfl rfl rfl rfl (w1 := (wC (va_up g 0 (tS (nI (dgF (g 1) (k - i) i 0).1) (63) (nI i) ((dgF (g 1) (k - i) i 0).2) (fl) t0)) tr)) rfl ?_
      exact Ev.vret e_X6_takeDigits rfl rfl (by rw [show tkD (g 1 i) ((dgF (g 1) (k - i) i 0).1 - i) (dgF (g 1) (k - i) i 0).2 = 63 from if_pos (Or.inr (Int32.not_le.mp hv))])
def tkF (f : Nat → Int32) (k i : Nat) (tv : Int32) : Nat × Int32 × Nat × Int32 := if k ≤ skp f (k - i) i then (skp f (k - i) i, 46, skp f (k - i) i, tv) else if digB (f (skp f (k - i) i)) = true then ((dgF f (k - skp f (k - i) i) (skp f (k - i) i) 0).1, tkD (f (skp f (k - i) i)) ((dgF f (k - skp f (k - i) i) (skp f (k - i) i) 0).1 - skp f (k - i) i) (dgF f (k - skp f (k - i) i) (skp f (k - i) i) 0).2, skp f (k - i) i, (dgF f (k - skp f (k - i) i) (skp f (k - i) i) 0).2) else (skp f (k - i) i + 1, if ownB (f (skp f (k - i) i)) = true then f (skp f (k - i) i) else 63, skp f (k - i) i, tv)
set_option maxRecDepth 20000 in
set_option maxHeartbeats 200000 in
theorem lp_X6_takeToken (d : Nat) (g : Nat → Nat → Int32) (tr : Int64) (t0 : Nat → Int32) {k : Nat} (ht : t0 0 = nI k) (hk : k ≤ 200) (tk tp tv fl : Int32) (r : Option Value) (w2 : AW) : ∀ (j i : Nat), i + j = k → Ev (d + 2) 59 19 [.ref 1] [] (wC (va_up g 0 (tS (nI (skp (g 1) j i)) (tk) (tp) (tv) (fl) t0)) tr) r w2 → Ev (d + 2) 59 0 [.ref 1] [] (wC (va_up g 0 (tS (nI i) (tk) (tp) (tv) (fl) t0)) tr) r w2 := by
  intro j
  induction j with
  | zero =>
    intro i hi K
    refine Ev.sn e_X6_takeToken 4 (i' := 4) (ls' := [_]) (st' := [_, _]) rfl ?_
    refine Ev.brT (i1 := 19) (i2 := 5) e_X6_takeToken rfl rfl (ge_t ht (by omega) (by omega)) ?_
    exact K
  | succ j ih =>
    intro i hi K
    unfold skp at K
    refine Ev.sn e_X6_takeToken 4 (i' := 4) (ls' := [_]) (st' := [_, _]) rfl ?_
    refine Ev.brF (i1 := 19) (i2 := 5) e_X6_takeToken rfl rfl (ge_f ht (by omega) (by omega)) ?_
    refine Ev.sn e_X6_takeToken 4 (i' := 9) (ls' := [_]) (st' := [_, _]) rfl ?_
    refine Ev.caldE e_X6_takeToken rfl rfl rfl (m := i) rfl (by omega) ?_
    refine Ev.sn e_X6_takeToken 1 (i' := 11) (ls' := [_]) (st' := [_, _]) rfl ?_
    refine Ev.br (i1 := 12) (i2 := 19) e_X6_takeToken rfl rfl (fun hs => ?_) (fun hs => ?_)
    · refine Ev.sn e_X6_takeToken 5 (i' := 17) (ls' := [_]) (st' := [_, _]) rfl ?_
      refine Ev.put e_X6_takeToken rfl rfl rfl rfl rfl rfl (w1 := (wC (va_up g 0 (tS (nI i + 1) (tk) (tp) (tv) (fl) t0)) tr)) rfl ?_
      refine Ev.sn e_X6_takeToken 1 (i' := 0) (ls' := [_]) (st' := []) rfl ?_
      rw [if_pos (show g 1 i = 32 from hs)] at K
      rw [nI_1]
      exact ih (i + 1) (by omega) K
    · rw [if_neg (show ¬ g 1 i = 32 from hs)] at K
      exact K
set_option maxRecDepth 20000 in
set_option maxHeartbeats 200000 in
theorem c_X6_takeToken (d : Nat) (g : Nat → Nat → Int32) (tr : Int64) (t0 : Nat → Int32) {k : Nat} (ht : t0 0 = nI k) (hk : k ≤ 200) (hl : ∀ i, i < k → ∃ m, m < 256 ∧ g 1 i = nI m) {i : Nat} (hi : i ≤ k) (tk tp tv fl : Int32) : Ev (d + 2) 59 0 [.ref 1] [] (wC (va_up g 0 (tS (nI i) (tk) (tp) (tv) (fl) t0)) tr) none (wC (va_up g 0 (tS (nI (tkF (g 1) k i tv).1) ((tkF (g 1) k i tv).2.1) (nI (tkF (g 1) k i tv).2.2.1) ((tkF (g 1) k i tv).2.2.2) (fl) t0)) tr) := by
  have hs := skp_le (g 1) (k - i) i
  refine lp_X6_takeToken _ _ _ _ ht hk _ _ _ _ _ _ (k - i) i (by omega) ?_
  unfold tkF
  generalize skp (g 1) (k - i) i = n at hs ⊢
  refine Ev.sn e_X6_takeToken 3 (i' := 22) (ls' := [_]) (st' := [_, _]) rfl ?_
  refine Ev.put e_X6_takeToken rfl rfl rfl rfl rfl rfl (w1 := (wC (va_up g 0 (tS (nI n) (tk) (nI n) (tv) (fl) t0)) tr)) rfl ?_
  refine Ev.sn e_X6_takeToken 4 (i' := 27) (ls' := [_]) (st' := [_, _]) rfl ?_
  refine Ev.br (i1 := 32) (i2 := 28) e_X6_takeToken rfl rfl (fun hn => ?_) (fun hn => ?_)
  · have hn1 : n < k := by
      by_cases h : n < k
      · exact h
      · exact absurd (show nI n < t0 0 from hn) (by rw [ht]; exact nI_nlt (by omega) (by omega))
    rw [if_neg (show ¬ k ≤ n by omega)]
    obtain ⟨c, hc1, hc2⟩ := hl n hn1
    refine Ev.sn e_X6_takeToken 4 (i' := 36) (ls' := [_]) (st' := [_, _]) rfl ?_
    refine Ev.caldE e_X6_takeToken rfl rfl rfl (m := n) rfl (by omega) ?_
    refine Ev.clS e_X6_takeToken rfl rfl rfl (as := [_]) rfl rfl rfl rfl rfl (c_X6_isDigit _ _ _) rfl ?_
    refine Ev.brB (i1 := 42) (i2 := 39) e_X6_takeToken rfl rfl (fun h1 => ?_) (fun h1 => ?_)
    · have h1 : digB (g 1 n) = false := h1
      rw [if_neg (show ¬ digB (g 1 n) = true by rw [h1]; decide)]
      refine Ev.sn e_X6_takeToken 5 (i' := 47) (ls' := [_]) (st' := [_, _, _]) rfl ?_
      refine Ev.caldE e_X6_takeToken rfl rfl rfl (m := n) rfl (by omega) ?_
      refine Ev.clS e_X6_takeToken rfl rfl rfl (as := [_]) rfl rfl rfl rfl rfl (c_X6_isOwnToken _ _ _) rfl ?_
      refine Ev.brB (i1 := 56) (i2 := 50) e_X6_takeToken rfl rfl (fun ho => ?_) (fun ho => ?_)
      · refine Ev.sn e_X6_takeToken 1 (i' := 57) (ls' := [_]) (st' := [_, _]) rfl ?_
        refine Ev.put e_X6_takeToken rfl rfl rfl rfl rfl rfl (w1 := (wC (va_up g 0 (tS (nI n) (63) (nI n) (tv) (fl) t0)) tr)) rfl ?_
        refine Ev.sn e_X6_takeToken 5 (i' := 63) (ls' := [_]) (st' := [_, _]) rfl ?_
        refine Ev.put e_X6_takeToken rfl rfl rfl rfl rfl rfl (w1 := (wC (va_up g 0 (tS (nI n + 1) (63) (nI n) (tv) (fl) t0)) tr)) rfl ?_
        have ho : ownB (g 1 n) = false := ho
        exact Ev.vret e_X6_takeToken rfl rfl (by rw [nI_1, if_neg (show ¬ ownB (g 1 n) = true by rw [ho]; decide)])
      · refine Ev.sn e_X6_takeToken 4 (i' := 54) (ls' := [_]) (st' := [_, _, _]) rfl ?_
        refine Ev.caldE e_X6_takeToken rfl rfl rfl (m := n) rfl (by omega) ?_
        refine Ev.sn e_X6_takeToken 1 (i' := 57) (ls' := [_]) (st' := [_, _]) rfl ?_
        refine Ev.put e_X6_takeToken rfl rfl rfl rfl (by rw [show (va_up g 0 (tS (nI n) tk (nI n) tv fl t0)) 1 n = nI c from hc2]; exact (pk_charN (by omega)).1) (by rw [show (va_up g 0 (tS (nI n) tk (nI n) tv fl t0)) 1 n = nI c from hc2]; exact (pk_charN (by omega)).2) (w1 := (wC (va_up g 0 (tS (nI n) (g 1 n) (nI n) (tv) (fl) t0)) tr)) rfl ?_
        refine Ev.sn e_X6_takeToken 5 (i' := 63) (ls' := [_]) (st' := [_, _]) rfl ?_
        refine Ev.put e_X6_takeToken rfl rfl rfl rfl rfl rfl (w1 := (wC (va_up g 0 (tS (nI n + 1) (g 1 n) (nI n) (tv) (fl) t0)) tr)) rfl ?_
        have ho : ownB (g 1 n) = true := ho
        exact Ev.vret e_X6_takeToken rfl rfl (by rw [nI_1, if_pos ho])
    · rw [if_pos (show digB (g 1 n) = true from h1)]
      refine Ev.sn e_X6_takeToken 1 (i' := 40) (ls' := [_]) (st' := [_]) rfl ?_
      refine Ev.clV e_X6_takeToken rfl rfl (as := []) rfl rfl rfl kl_X6_takeDigits rfl rfl rfl (c_X6_takeDigits _ _ _ _ ht hk hn1 _ _ _) rfl ?_
      refine Ev.sn e_X6_takeToken 1 (i' := 64) (ls' := [_]) (st' := []) rfl ?_
      exact Ev.vret e_X6_takeToken rfl rfl rfl
  · have hn1 : k ≤ n := by
      by_cases h : k ≤ n
      · exact h
      · exact absurd (show nI n < t0 0 by rw [ht]; exact nI_lt (by omega) (by omega)) hn
    rw [if_pos hn1]
    refine Ev.sn e_X6_takeToken 2 (i' := 30) (ls' := [_]) (st' := [_, _]) rfl ?_
    refine Ev.put e_X6_takeToken rfl rfl rfl rfl rfl rfl (w1 := (wC (va_up g 0 (tS (nI n) (46) (nI n) (tv) (fl) t0)) tr)) rfl ?_
    refine Ev.sn e_X6_takeToken 1 (i' := 64) (ls' := [_]) (st' := []) rfl ?_
    exact Ev.vret e_X6_takeToken rfl rfl rfl
