/-! classes Now and History -/
theorem Ev.aaldE {d M i : Nat} {ls : List Value} {w w' : AW} {r : Option Value} {c : List Row} {pc a b : Nat} {z : Int32} {zl : Int64} {sw : List (Int32 × Nat)} {ps : List Nat} {i' : Nat} {j : Int32} {s0 : List Value} {k n m v : Nat} {fo : Nat → Option Nat} (hc : mP M = c) (hr : c[i]? = some (pc, .aaload, a, b, z, zl, sw, ps)) (hi : i + 1 = i') (hw : w[k]? = some (.inl (3, n, .inr (.inr (.inr (.inr fo)))))) (hj : j = nI m) (hm : m < n) (hv : fo m = some v) (q : Ev d M i' ls (.ref v :: s0) w r w') (hn : n < 2000 := by decide) : Ev d M i ls (.int j :: .ref k :: s0) w r w' := by
  subst hj
  exact Ev.aald hc hr hi hw (vin_nI hm hn) (by rw [nI_cl hm hn]; exact hv) q
def cp3 (g : Nat → Nat → Int32) (bd bs : Nat) : Nat → Nat → Int32 := va_up (va_up (va_up g bd (va_cpy (g bs) (g bd) 0 0 6)) (bd + 1) (va_cpy (g (bs + 1)) (g (bd + 1)) 0 0 6)) (bd + 2) (va_cpy (g (bs + 2)) (g (bd + 2)) 0 0 5)
set_option maxRecDepth 20000 in
set_option maxHeartbeats 200000 in
theorem c_cp_36_30 (d a b : Nat) (g : Nat → Nat → Int32) (tr : Int64) : Ev (d + 1) 41 0 [.ref 36, .ref 30] [] (wX a b g tr) none (wX a b (cp3 g 60 50) tr) := by
  refine Ev.sn e_X4_copyFrom 7 (i' := 7) (ls' := [_, _]) (st' := [_, _, _, _, _]) rfl ?_
  refine Ev.copy e_X4_copyFrom rfl rfl rfl rfl rfl (by decide) (by decide) (by decide) (by decide) (by decide) (w1 := (wX a b (va_up g 60 (va_cpy (g 50) (g 60) 0 0 6)) tr)) rfl ?_
  refine Ev.sn e_X4_copyFrom 7 (i' := 15) (ls' := [_, _]) (st' := [_, _, _, _, _]) rfl ?_
  refine Ev.copy e_X4_copyFrom rfl rfl rfl rfl rfl (by decide) (by decide) (by decide) (by decide) (by decide) (w1 := (wX a b (va_up (va_up g 60 (va_cpy (g 50) (g 60) 0 0 6)) 61 (va_cpy (g 51) (g 61) 0 0 6)) tr)) rfl ?_
  refine Ev.sn e_X4_copyFrom 7 (i' := 23) (ls' := [_, _]) (st' := [_, _, _, _, _]) rfl ?_
  refine Ev.copy e_X4_copyFrom rfl rfl rfl rfl rfl (by decide) (by decide) (by decide) (by decide) (by decide) (w1 := (wX a b (va_up (va_up (va_up g 60 (va_cpy (g 50) (g 60) 0 0 6)) 61 (va_cpy (g 51) (g 61) 0 0 6)) 62 (va_cpy (g 52) (g 62) 0 0 5)) tr)) rfl ?_
  exact Ev.vret e_X4_copyFrom rfl rfl rfl
set_option maxRecDepth 20000 in
set_option maxHeartbeats 200000 in
theorem c_cp_30_36 (d a b : Nat) (g : Nat → Nat → Int32) (tr : Int64) : Ev (d + 1) 41 0 [.ref 30, .ref 36] [] (wX a b g tr) none (wX a b (cp3 g 50 60) tr) := by
  refine Ev.sn e_X4_copyFrom 7 (i' := 7) (ls' := [_, _]) (st' := [_, _, _, _, _]) rfl ?_
  refine Ev.copy e_X4_copyFrom rfl rfl rfl rfl rfl (by decide) (by decide) (by decide) (by decide) (by decide) (w1 := (wX a b (va_up g 50 (va_cpy (g 60) (g 50) 0 0 6)) tr)) rfl ?_
  refine Ev.sn e_X4_copyFrom 7 (i' := 15) (ls' := [_, _]) (st' := [_, _, _, _, _]) rfl ?_
  refine Ev.copy e_X4_copyFrom rfl rfl rfl rfl rfl (by decide) (by decide) (by decide) (by decide) (by decide) (w1 := (wX a b (va_up (va_up g 50 (va_cpy (g 60) (g 50) 0 0 6)) 51 (va_cpy (g 61) (g 51) 0 0 6)) tr)) rfl ?_
  refine Ev.sn e_X4_copyFrom 7 (i' := 23) (ls' := [_, _]) (st' := [_, _, _, _, _]) rfl ?_
  refine Ev.copy e_X4_copyFrom rfl rfl rfl rfl rfl (by decide) (by decide) (by decide) (by decide) (by decide) (w1 := (wX a b (va_up (va_up (va_up g 50 (va_cpy (g 60) (g 50) 0 0 6)) 51 (va_cpy (g 61) (g 51) 0 0 6)) 52 (va_cpy (g 62) (g 52) 0 0 5)) tr)) rfl ?_
  exact Ev.vret e_X4_copyFrom rfl rfl rfl
set_option maxRecDepth 20000 in
set_option maxHeartbeats 200000 in
theorem c_cp_40_30 (d a b : Nat) (g : Nat → Nat → Int32) (tr : Int64) : Ev (d + 1) 41 0 [.ref 40, .ref 30] [] (wX a b g tr) none (wX a b (cp3 g 63 50) tr) := by
  refine Ev.sn e_X4_copyFrom 7 (i' := 7) (ls' := [_, _]) (st' := [_, _, _, _, _]) rfl ?_
  refine Ev.copy e_X4_copyFrom rfl rfl rfl rfl rfl (by decide) (by decide) (by decide) (by decide) (by decide) (w1 := (wX a b (va_up g 63 (va_cpy (g 50) (g 63) 0 0 6)) tr)) rfl ?_
  refine Ev.sn e_X4_copyFrom 7 (i' := 15) (ls' := [_, _]) (st' := [_, _, _, _, _]) rfl ?_
  refine Ev.copy e_X4_copyFrom rfl rfl rfl rfl rfl (by decide) (by decide) (by decide) (by decide) (by decide) (w1 := (wX a b (va_up (va_up g 63 (va_cpy (g 50) (g 63) 0 0 6)) 64 (va_cpy (g 51) (g 64) 0 0 6)) tr)) rfl ?_
  refine Ev.sn e_X4_copyFrom 7 (i' := 23) (ls' := [_, _]) (st' := [_, _, _, _, _]) rfl ?_
  refine Ev.copy e_X4_copyFrom rfl rfl rfl rfl rfl (by decide) (by decide) (by decide) (by decide) (by decide) (w1 := (wX a b (va_up (va_up (va_up g 63 (va_cpy (g 50) (g 63) 0 0 6)) 64 (va_cpy (g 51) (g 64) 0 0 6)) 65 (va_cpy (g 52) (g 65) 0 0 5)) tr)) rfl ?_
  exact Ev.vret e_X4_copyFrom rfl rfl rfl
set_option maxRecDepth 20000 in
set_option maxHeartbeats 200000 in
theorem c_cp_30_40 (d a b : Nat) (g : Nat → Nat → Int32) (tr : Int64) : Ev (d + 1) 41 0 [.ref 30, .ref 40] [] (wX a b g tr) none (wX a b (cp3 g 50 63) tr) := by
  refine Ev.sn e_X4_copyFrom 7 (i' := 7) (ls' := [_, _]) (st' := [_, _, _, _, _]) rfl ?_
  refine Ev.copy e_X4_copyFrom rfl rfl rfl rfl rfl (by decide) (by decide) (by decide) (by decide) (by decide) (w1 := (wX a b (va_up g 50 (va_cpy (g 63) (g 50) 0 0 6)) tr)) rfl ?_
  refine Ev.sn e_X4_copyFrom 7 (i' := 15) (ls' := [_, _]) (st' := [_, _, _, _, _]) rfl ?_
  refine Ev.copy e_X4_copyFrom rfl rfl rfl rfl rfl (by decide) (by decide) (by decide) (by decide) (by decide) (w1 := (wX a b (va_up (va_up g 50 (va_cpy (g 63) (g 50) 0 0 6)) 51 (va_cpy (g 64) (g 51) 0 0 6)) tr)) rfl ?_
  refine Ev.sn e_X4_copyFrom 7 (i' := 23) (ls' := [_, _]) (st' := [_, _, _, _, _]) rfl ?_
  refine Ev.copy e_X4_copyFrom rfl rfl rfl rfl rfl (by decide) (by decide) (by decide) (by decide) (by decide) (w1 := (wX a b (va_up (va_up (va_up g 50 (va_cpy (g 63) (g 50) 0 0 6)) 51 (va_cpy (g 64) (g 51) 0 0 6)) 52 (va_cpy (g 65) (g 52) 0 0 5)) tr)) rfl ?_
  exact Ev.vret e_X4_copyFrom rfl rfl rfl
set_option maxRecDepth 20000 in
set_option maxHeartbeats 200000 in
theorem c_cp_44_30 (d a b : Nat) (g : Nat → Nat → Int32) (tr : Int64) : Ev (d + 1) 41 0 [.ref 44, .ref 30] [] (wX a b g tr) none (wX a b (cp3 g 66 50) tr) := by
  refine Ev.sn e_X4_copyFrom 7 (i' := 7) (ls' := [_, _]) (st' := [_, _, _, _, _]) rfl ?_
  refine Ev.copy e_X4_copyFrom rfl rfl rfl rfl rfl (by decide) (by decide) (by decide) (by decide) (by decide) (w1 := (wX a b (va_up g 66 (va_cpy (g 50) (g 66) 0 0 6)) tr)) rfl ?_
  refine Ev.sn e_X4_copyFrom 7 (i' := 15) (ls' := [_, _]) (st' := [_, _, _, _, _]) rfl ?_
  refine Ev.copy e_X4_copyFrom rfl rfl rfl rfl rfl (by decide) (by decide) (by decide) (by decide) (by decide) (w1 := (wX a b (va_up (va_up g 66 (va_cpy (g 50) (g 66) 0 0 6)) 67 (va_cpy (g 51) (g 67) 0 0 6)) tr)) rfl ?_
  refine Ev.sn e_X4_copyFrom 7 (i' := 23) (ls' := [_, _]) (st' := [_, _, _, _, _]) rfl ?_
  refine Ev.copy e_X4_copyFrom rfl rfl rfl rfl rfl (by decide) (by decide) (by decide) (by decide) (by decide) (w1 := (wX a b (va_up (va_up (va_up g 66 (va_cpy (g 50) (g 66) 0 0 6)) 67 (va_cpy (g 51) (g 67) 0 0 6)) 68 (va_cpy (g 52) (g 68) 0 0 5)) tr)) rfl ?_
  exact Ev.vret e_X4_copyFrom rfl rfl rfl
set_option maxRecDepth 20000 in
set_option maxHeartbeats 200000 in
theorem c_cp_30_44 (d a b : Nat) (g : Nat → Nat → Int32) (tr : Int64) : Ev (d + 1) 41 0 [.ref 30, .ref 44] [] (wX a b g tr) none (wX a b (cp3 g 50 66) tr) := by
  refine Ev.sn e_X4_copyFrom 7 (i' := 7) (ls' := [_, _]) (st' := [_, _, _, _, _]) rfl ?_
  refine Ev.copy e_X4_copyFrom rfl rfl rfl rfl rfl (by decide) (by decide) (by decide) (by decide) (by decide) (w1 := (wX a b (va_up g 50 (va_cpy (g 66) (g 50) 0 0 6)) tr)) rfl ?_
  refine Ev.sn e_X4_copyFrom 7 (i' := 15) (ls' := [_, _]) (st' := [_, _, _, _, _]) rfl ?_
  refine Ev.copy e_X4_copyFrom rfl rfl rfl rfl rfl (by decide) (by decide) (by decide) (by decide) (by decide) (w1 := (wX a b (va_up (va_up g 50 (va_cpy (g 66) (g 50) 0 0 6)) 51 (va_cpy (g 67) (g 51) 0 0 6)) tr)) rfl ?_
  refine Ev.sn e_X4_copyFrom 7 (i' := 23) (ls' := [_, _]) (st' := [_, _, _, _, _]) rfl ?_
  refine Ev.copy e_X4_copyFrom rfl rfl rfl rfl rfl (by decide) (by decide) (by decide) (by decide) (by decide) (w1 := (wX a b (va_up (va_up (va_up g 50 (va_cpy (g 66) (g 50) 0 0 6)) 51 (va_cpy (g 67) (g 51) 0 0 6)) 52 (va_cpy (g 68) (g 52) 0 0 5)) tr)) rfl ?_
  exact Ev.vret e_X4_copyFrom rfl rfl rfl
set_option maxRecDepth 20000 in
set_option maxHeartbeats 200000 in
theorem c_cp_48_30 (d a b : Nat) (g : Nat → Nat → Int32) (tr : Int64) : Ev (d + 1) 41 0 [.ref 48, .ref 30] [] (wX a b g tr) none (wX a b (cp3 g 69 50) tr) := by
  refine Ev.sn e_X4_copyFrom 7 (i' := 7) (ls' := [_, _]) (st' := [_, _, _, _, _]) rfl ?_
  refine Ev.copy e_X4_copyFrom rfl rfl rfl rfl rfl (by decide) (by decide) (by decide) (by decide) (by decide) (w1 := (wX a b (va_up g 69 (va_cpy (g 50) (g 69) 0 0 6)) tr)) rfl ?_
  refine Ev.sn e_X4_copyFrom 7 (i' := 15) (ls' := [_, _]) (st' := [_, _, _, _, _]) rfl ?_
  refine Ev.copy e_X4_copyFrom rfl rfl rfl rfl rfl (by decide) (by decide) (by decide) (by decide) (by decide) (w1 := (wX a b (va_up (va_up g 69 (va_cpy (g 50) (g 69) 0 0 6)) 70 (va_cpy (g 51) (g 70) 0 0 6)) tr)) rfl ?_
  refine Ev.sn e_X4_copyFrom 7 (i' := 23) (ls' := [_, _]) (st' := [_, _, _, _, _]) rfl ?_
  refine Ev.copy e_X4_copyFrom rfl rfl rfl rfl rfl (by decide) (by decide) (by decide) (by decide) (by decide) (w1 := (wX a b (va_up (va_up (va_up g 69 (va_cpy (g 50) (g 69) 0 0 6)) 70 (va_cpy (g 51) (g 70) 0 0 6)) 71 (va_cpy (g 52) (g 71) 0 0 5)) tr)) rfl ?_
  exact Ev.vret e_X4_copyFrom rfl rfl rfl
set_option maxRecDepth 20000 in
set_option maxHeartbeats 200000 in
theorem c_cp_30_48 (d a b : Nat) (g : Nat → Nat → Int32) (tr : Int64) : Ev (d + 1) 41 0 [.ref 30, .ref 48] [] (wX a b g tr) none (wX a b (cp3 g 50 69) tr) := by
  refine Ev.sn e_X4_copyFrom 7 (i' := 7) (ls' := [_, _]) (st' := [_, _, _, _, _]) rfl ?_
  refine Ev.copy e_X4_copyFrom rfl rfl rfl rfl rfl (by decide) (by decide) (by decide) (by decide) (by decide) (w1 := (wX a b (va_up g 50 (va_cpy (g 69) (g 50) 0 0 6)) tr)) rfl ?_
  refine Ev.sn e_X4_copyFrom 7 (i' := 15) (ls' := [_, _]) (st' := [_, _, _, _, _]) rfl ?_
  refine Ev.copy e_X4_copyFrom rfl rfl rfl rfl rfl (by decide) (by decide) (by decide) (by decide) (by decide) (w1 := (wX a b (va_up (va_up g 50 (va_cpy (g 69) (g 50) 0 0 6)) 51 (va_cpy (g 70) (g 51) 0 0 6)) tr)) rfl ?_
  refine Ev.sn e_X4_copyFrom 7 (i' := 23) (ls' := [_, _]) (st' := [_, _, _, _, _]) rfl ?_
  refine Ev.copy e_X4_copyFrom rfl rfl rfl rfl rfl (by decide) (by decide) (by decide) (by decide) (by decide) (w1 := (wX a b (va_up (va_up (va_up g 50 (va_cpy (g 69) (g 50) 0 0 6)) 51 (va_cpy (g 70) (g 51) 0 0 6)) 52 (va_cpy (g 71) (g 52) 0 0 5)) tr)) rfl ?_
  exact Ev.vret e_X4_copyFrom rfl rfl rfl
set_option maxRecDepth 20000 in
set_option maxHeartbeats 200000 in
theorem c_cp_52_30 (d a b : Nat) (g : Nat → Nat → Int32) (tr : Int64) : Ev (d + 1) 41 0 [.ref 52, .ref 30] [] (wX a b g tr) none (wX a b (cp3 g 72 50) tr) := by
  refine Ev.sn e_X4_copyFrom 7 (i' := 7) (ls' := [_, _]) (st' := [_, _, _, _, _]) rfl ?_
  refine Ev.copy e_X4_copyFrom rfl rfl rfl rfl rfl (by decide) (by decide) (by decide) (by decide) (by decide) (w1 := (wX a b (va_up g 72 (va_cpy (g 50) (g 72) 0 0 6)) tr)) rfl ?_
  refine Ev.sn e_X4_copyFrom 7 (i' := 15) (ls' := [_, _]) (st' := [_, _, _, _, _]) rfl ?_
  refine Ev.copy e_X4_copyFrom rfl rfl rfl rfl rfl (by decide) (by decide) (by decide) (by decide) (by decide) (w1 := (wX a b (va_up (va_up g 72 (va_cpy (g 50) (g 72) 0 0 6)) 73 (va_cpy (g 51) (g 73) 0 0 6)) tr)) rfl ?_
  refine Ev.sn e_X4_copyFrom 7 (i' := 23) (ls' := [_, _]) (st' := [_, _, _, _, _]) rfl ?_
  refine Ev.copy e_X4_copyFrom rfl rfl rfl rfl rfl (by decide) (by decide) (by decide) (by decide) (by decide) (w1 := (wX a b (va_up (va_up (va_up g 72 (va_cpy (g 50) (g 72) 0 0 6)) 73 (va_cpy (g 51) (g 73) 0 0 6)) 74 (va_cpy (g 52) (g 74) 0 0 5)) tr)) rfl ?_
  exact Ev.vret e_X4_copyFrom rfl rfl rfl
set_option maxRecDepth 20000 in
set_option maxHeartbeats 200000 in
theorem c_cp_30_52 (d a b : Nat) (g : Nat → Nat → Int32) (tr : Int64) : Ev (d + 1) 41 0 [.ref 30, .ref 52] [] (wX a b g tr) none (wX a b (cp3 g 50 72) tr) := by
  refine Ev.sn e_X4_copyFrom 7 (i' := 7) (ls' := [_, _]) (st' := [_, _, _, _, _]) rfl ?_
  refine Ev.copy e_X4_copyFrom rfl rfl rfl rfl rfl (by decide) (by decide) (by decide) (by decide) (by decide) (w1 := (wX a b (va_up g 50 (va_cpy (g 72) (g 50) 0 0 6)) tr)) rfl ?_
  refine Ev.sn e_X4_copyFrom 7 (i' := 15) (ls' := [_, _]) (st' := [_, _, _, _, _]) rfl ?_
  refine Ev.copy e_X4_copyFrom rfl rfl rfl rfl rfl (by decide) (by decide) (by decide) (by decide) (by decide) (w1 := (wX a b (va_up (va_up g 50 (va_cpy (g 72) (g 50) 0 0 6)) 51 (va_cpy (g 73) (g 51) 0 0 6)) tr)) rfl ?_
  refine Ev.sn e_X4_copyFrom 7 (i' := 23) (ls' := [_, _]) (st' := [_, _, _, _, _]) rfl ?_
  refine Ev.copy e_X4_copyFrom rfl rfl rfl rfl rfl (by decide) (by decide) (by decide) (by decide) (by decide) (w1 := (wX a b (va_up (va_up (va_up g 50 (va_cpy (g 72) (g 50) 0 0 6)) 51 (va_cpy (g 73) (g 51) 0 0 6)) 52 (va_cpy (g 74) (g 52) 0 0 5)) tr)) rfl ?_
  exact Ev.vret e_X4_copyFrom rfl rfl rfl
set_option maxRecDepth 20000 in
set_option maxHeartbeats 200000 in
theorem c_cp_56_30 (d a b : Nat) (g : Nat → Nat → Int32) (tr : Int64) : Ev (d + 1) 41 0 [.ref 56, .ref 30] [] (wX a b g tr) none (wX a b (cp3 g 75 50) tr) := by
  refine Ev.sn e_X4_copyFrom 7 (i' := 7) (ls' := [_, _]) (st' := [_, _, _, _, _]) rfl ?_
  refine Ev.copy e_X4_copyFrom rfl rfl rfl rfl rfl (by decide) (by decide) (by decide) (by decide) (by decide) (w1 := (wX a b (va_up g 75 (va_cpy (g 50) (g 75) 0 0 6)) tr)) rfl ?_
  refine Ev.sn e_X4_copyFrom 7 (i' := 15) (ls' := [_, _]) (st' := [_, _, _, _, _]) rfl ?_
  refine Ev.copy e_X4_copyFrom rfl rfl rfl rfl rfl (by decide) (by decide) (by decide) (by decide) (by decide) (w1 := (wX a b (va_up (va_up g 75 (va_cpy (g 50) (g 75) 0 0 6)) 76 (va_cpy (g 51) (g 76) 0 0 6)) tr)) rfl ?_
  refine Ev.sn e_X4_copyFrom 7 (i' := 23) (ls' := [_, _]) (st' := [_, _, _, _, _]) rfl ?_
  refine Ev.copy e_X4_copyFrom rfl rfl rfl rfl rfl (by decide) (by decide) (by decide) (by decide) (by decide) (w1 := (wX a b (va_up (va_up (va_up g 75 (va_cpy (g 50) (g 75) 0 0 6)) 76 (va_cpy (g 51) (g 76) 0 0 6)) 77 (va_cpy (g 52) (g 77) 0 0 5)) tr)) rfl ?_
  exact Ev.vret e_X4_copyFrom rfl rfl rfl
set_option maxRecDepth 20000 in
set_option maxHeartbeats 200000 in
theorem c_cp_30_56 (d a b : Nat) (g : Nat → Nat → Int32) (tr : Int64) : Ev (d + 1) 41 0 [.ref 30, .ref 56] [] (wX a b g tr) none (wX a b (cp3 g 50 75) tr) := by
  refine Ev.sn e_X4_copyFrom 7 (i' := 7) (ls' := [_, _]) (st' := [_, _, _, _, _]) rfl ?_
  refine Ev.copy e_X4_copyFrom rfl rfl rfl rfl rfl (by decide) (by decide) (by decide) (by decide) (by decide) (w1 := (wX a b (va_up g 50 (va_cpy (g 75) (g 50) 0 0 6)) tr)) rfl ?_
  refine Ev.sn e_X4_copyFrom 7 (i' := 15) (ls' := [_, _]) (st' := [_, _, _, _, _]) rfl ?_
  refine Ev.copy e_X4_copyFrom rfl rfl rfl rfl rfl (by decide) (by decide) (by decide) (by decide) (by decide) (w1 := (wX a b (va_up (va_up g 50 (va_cpy (g 75) (g 50) 0 0 6)) 51 (va_cpy (g 76) (g 51) 0 0 6)) tr)) rfl ?_
  refine Ev.sn e_X4_copyFrom 7 (i' := 23) (ls' := [_, _]) (st' := [_, _, _, _, _]) rfl ?_
  refine Ev.copy e_X4_copyFrom rfl rfl rfl rfl rfl (by decide) (by decide) (by decide) (by decide) (by decide) (w1 := (wX a b (va_up (va_up (va_up g 50 (va_cpy (g 75) (g 50) 0 0 6)) 51 (va_cpy (g 76) (g 51) 0 0 6)) 52 (va_cpy (g 77) (g 52) 0 0 5)) tr)) rfl ?_
  exact Ev.vret e_X4_copyFrom rfl rfl rfl
set_option maxRecDepth 20000 in
set_option maxHeartbeats 200000 in
theorem c_cp_60_30 (d a b : Nat) (g : Nat → Nat → Int32) (tr : Int64) : Ev (d + 1) 41 0 [.ref 60, .ref 30] [] (wX a b g tr) none (wX a b (cp3 g 78 50) tr) := by
  refine Ev.sn e_X4_copyFrom 7 (i' := 7) (ls' := [_, _]) (st' := [_, _, _, _, _]) rfl ?_
  refine Ev.copy e_X4_copyFrom rfl rfl rfl rfl rfl (by decide) (by decide) (by decide) (by decide) (by decide) (w1 := (wX a b (va_up g 78 (va_cpy (g 50) (g 78) 0 0 6)) tr)) rfl ?_
  refine Ev.sn e_X4_copyFrom 7 (i' := 15) (ls' := [_, _]) (st' := [_, _, _, _, _]) rfl ?_
  refine Ev.copy e_X4_copyFrom rfl rfl rfl rfl rfl (by decide) (by decide) (by decide) (by decide) (by decide) (w1 := (wX a b (va_up (va_up g 78 (va_cpy (g 50) (g 78) 0 0 6)) 79 (va_cpy (g 51) (g 79) 0 0 6)) tr)) rfl ?_
  refine Ev.sn e_X4_copyFrom 7 (i' := 23) (ls' := [_, _]) (st' := [_, _, _, _, _]) rfl ?_
  refine Ev.copy e_X4_copyFrom rfl rfl rfl rfl rfl (by decide) (by decide) (by decide) (by decide) (by decide) (w1 := (wX a b (va_up (va_up (va_up g 78 (va_cpy (g 50) (g 78) 0 0 6)) 79 (va_cpy (g 51) (g 79) 0 0 6)) 80 (va_cpy (g 52) (g 80) 0 0 5)) tr)) rfl ?_
  exact Ev.vret e_X4_copyFrom rfl rfl rfl
set_option maxRecDepth 20000 in
set_option maxHeartbeats 200000 in
theorem c_cp_30_60 (d a b : Nat) (g : Nat → Nat → Int32) (tr : Int64) : Ev (d + 1) 41 0 [.ref 30, .ref 60] [] (wX a b g tr) none (wX a b (cp3 g 50 78) tr) := by
  refine Ev.sn e_X4_copyFrom 7 (i' := 7) (ls' := [_, _]) (st' := [_, _, _, _, _]) rfl ?_
  refine Ev.copy e_X4_copyFrom rfl rfl rfl rfl rfl (by decide) (by decide) (by decide) (by decide) (by decide) (w1 := (wX a b (va_up g 50 (va_cpy (g 78) (g 50) 0 0 6)) tr)) rfl ?_
  refine Ev.sn e_X4_copyFrom 7 (i' := 15) (ls' := [_, _]) (st' := [_, _, _, _, _]) rfl ?_
  refine Ev.copy e_X4_copyFrom rfl rfl rfl rfl rfl (by decide) (by decide) (by decide) (by decide) (by decide) (w1 := (wX a b (va_up (va_up g 50 (va_cpy (g 78) (g 50) 0 0 6)) 51 (va_cpy (g 79) (g 51) 0 0 6)) tr)) rfl ?_
  refine Ev.sn e_X4_copyFrom 7 (i' := 23) (ls' := [_, _]) (st' := [_, _, _, _, _]) rfl ?_
  refine Ev.copy e_X4_copyFrom rfl rfl rfl rfl rfl (by decide) (by decide) (by decide) (by decide) (by decide) (w1 := (wX a b (va_up (va_up (va_up g 50 (va_cpy (g 78) (g 50) 0 0 6)) 51 (va_cpy (g 79) (g 51) 0 0 6)) 52 (va_cpy (g 80) (g 52) 0 0 5)) tr)) rfl ?_
  exact Ev.vret e_X4_copyFrom rfl rfl rfl
set_option maxRecDepth 20000 in
set_option maxHeartbeats 200000 in
theorem c_cp_64_30 (d a b : Nat) (g : Nat → Nat → Int32) (tr : Int64) : Ev (d + 1) 41 0 [.ref 64, .ref 30] [] (wX a b g tr) none (wX a b (cp3 g 81 50) tr) := by
  refine Ev.sn e_X4_copyFrom 7 (i' := 7) (ls' := [_, _]) (st' := [_, _, _, _, _]) rfl ?_
  refine Ev.copy e_X4_copyFrom rfl rfl rfl rfl rfl (by decide) (by decide) (by decide) (by decide) (by decide) (w1 := (wX a b (va_up g 81 (va_cpy (g 50) (g 81) 0 0 6)) tr)) rfl ?_
  refine Ev.sn e_X4_copyFrom 7 (i' := 15) (ls' := [_, _]) (st' := [_, _, _, _, _]) rfl ?_
  refine Ev.copy e_X4_copyFrom rfl rfl rfl rfl rfl (by decide) (by decide) (by decide) (by decide) (by decide) (w1 := (wX a b (va_up (va_up g 81 (va_cpy (g 50) (g 81) 0 0 6)) 82 (va_cpy (g 51) (g 82) 0 0 6)) tr)) rfl ?_
  refine Ev.sn e_X4_copyFrom 7 (i' := 23) (ls' := [_, _]) (st' := [_, _, _, _, _]) rfl ?_
  refine Ev.copy e_X4_copyFrom rfl rfl rfl rfl rfl (by decide) (by decide) (by decide) (by decide) (by decide) (w1 := (wX a b (va_up (va_up (va_up g 81 (va_cpy (g 50) (g 81) 0 0 6)) 82 (va_cpy (g 51) (g 82) 0 0 6)) 83 (va_cpy (g 52) (g 83) 0 0 5)) tr)) rfl ?_
  exact Ev.vret e_X4_copyFrom rfl rfl rfl
set_option maxRecDepth 20000 in
set_option maxHeartbeats 200000 in
theorem c_cp_30_64 (d a b : Nat) (g : Nat → Nat → Int32) (tr : Int64) : Ev (d + 1) 41 0 [.ref 30, .ref 64] [] (wX a b g tr) none (wX a b (cp3 g 50 81) tr) := by
  refine Ev.sn e_X4_copyFrom 7 (i' := 7) (ls' := [_, _]) (st' := [_, _, _, _, _]) rfl ?_
  refine Ev.copy e_X4_copyFrom rfl rfl rfl rfl rfl (by decide) (by decide) (by decide) (by decide) (by decide) (w1 := (wX a b (va_up g 50 (va_cpy (g 81) (g 50) 0 0 6)) tr)) rfl ?_
  refine Ev.sn e_X4_copyFrom 7 (i' := 15) (ls' := [_, _]) (st' := [_, _, _, _, _]) rfl ?_
  refine Ev.copy e_X4_copyFrom rfl rfl rfl rfl rfl (by decide) (by decide) (by decide) (by decide) (by decide) (w1 := (wX a b (va_up (va_up g 50 (va_cpy (g 81) (g 50) 0 0 6)) 51 (va_cpy (g 82) (g 51) 0 0 6)) tr)) rfl ?_
  refine Ev.sn e_X4_copyFrom 7 (i' := 23) (ls' := [_, _]) (st' := [_, _, _, _, _]) rfl ?_
  refine Ev.copy e_X4_copyFrom rfl rfl rfl rfl rfl (by decide) (by decide) (by decide) (by decide) (by decide) (w1 := (wX a b (va_up (va_up (va_up g 50 (va_cpy (g 81) (g 50) 0 0 6)) 51 (va_cpy (g 82) (g 51) 0 0 6)) 52 (va_cpy (g 83) (g 52) 0 0 5)) tr)) rfl ?_
  exact Ev.vret e_X4_copyFrom rfl rfl rfl
set_option maxRecDepth 20000 in
set_option maxHeartbeats 200000 in
theorem c_cp_68_30 (d a b : Nat) (g : Nat → Nat → Int32) (tr : Int64) : Ev (d + 1) 41 0 [.ref 68, .ref 30] [] (wX a b g tr) none (wX a b (cp3 g 84 50) tr) := by
  refine Ev.sn e_X4_copyFrom 7 (i' := 7) (ls' := [_, _]) (st' := [_, _, _, _, _]) rfl ?_
  refine Ev.copy e_X4_copyFrom rfl rfl rfl rfl rfl (by decide) (by decide) (by decide) (by decide) (by decide) (w1 := (wX a b (va_up g 84 (va_cpy (g 50) (g 84) 0 0 6)) tr)) rfl ?_
  refine Ev.sn e_X4_copyFrom 7 (i' := 15) (ls' := [_, _]) (st' := [_, _, _, _, _]) rfl ?_
  refine Ev.copy e_X4_copyFrom rfl rfl rfl rfl rfl (by decide) (by decide) (by decide) (by decide) (by decide) (w1 := (wX a b (va_up (va_up g 84 (va_cpy (g 50) (g 84) 0 0 6)) 85 (va_cpy (g 51) (g 85) 0 0 6)) tr)) rfl ?_
  refine Ev.sn e_X4_copyFrom 7 (i' := 23) (ls' := [_, _]) (st' := [_, _, _, _, _]) rfl ?_
  refine Ev.copy e_X4_copyFrom rfl rfl rfl rfl rfl (by decide) (by decide) (by decide) (by decide) (by decide) (w1 := (wX a b (va_up (va_up (va_up g 84 (va_cpy (g 50) (g 84) 0 0 6)) 85 (va_cpy (g 51) (g 85) 0 0 6)) 86 (va_cpy (g 52) (g 86) 0 0 5)) tr)) rfl ?_
  exact Ev.vret e_X4_copyFrom rfl rfl rfl
set_option maxRecDepth 20000 in
set_option maxHeartbeats 200000 in
theorem c_cp_30_68 (d a b : Nat) (g : Nat → Nat → Int32) (tr : Int64) : Ev (d + 1) 41 0 [.ref 30, .ref 68] [] (wX a b g tr) none (wX a b (cp3 g 50 84) tr) := by
  refine Ev.sn e_X4_copyFrom 7 (i' := 7) (ls' := [_, _]) (st' := [_, _, _, _, _]) rfl ?_
  refine Ev.copy e_X4_copyFrom rfl rfl rfl rfl rfl (by decide) (by decide) (by decide) (by decide) (by decide) (w1 := (wX a b (va_up g 50 (va_cpy (g 84) (g 50) 0 0 6)) tr)) rfl ?_
  refine Ev.sn e_X4_copyFrom 7 (i' := 15) (ls' := [_, _]) (st' := [_, _, _, _, _]) rfl ?_
  refine Ev.copy e_X4_copyFrom rfl rfl rfl rfl rfl (by decide) (by decide) (by decide) (by decide) (by decide) (w1 := (wX a b (va_up (va_up g 50 (va_cpy (g 84) (g 50) 0 0 6)) 51 (va_cpy (g 85) (g 51) 0 0 6)) tr)) rfl ?_
  refine Ev.sn e_X4_copyFrom 7 (i' := 23) (ls' := [_, _]) (st' := [_, _, _, _, _]) rfl ?_
  refine Ev.copy e_X4_copyFrom rfl rfl rfl rfl rfl (by decide) (by decide) (by decide) (by decide) (by decide) (w1 := (wX a b (va_up (va_up (va_up g 50 (va_cpy (g 84) (g 50) 0 0 6)) 51 (va_cpy (g 85) (g 51) 0 0 6)) 52 (va_cpy (g 86) (g 52) 0 0 5)) tr)) rfl ?_
  exact Ev.vret e_X4_copyFrom rfl rfl rfl
set_option maxRecDepth 20000 in
set_option maxHeartbeats 200000 in
theorem c_cp_72_30 (d a b : Nat) (g : Nat → Nat → Int32) (tr : Int64) : Ev (d + 1) 41 0 [.ref 72, .ref 30] [] (wX a b g tr) none (wX a b (cp3 g 87 50) tr) := by
  refine Ev.sn e_X4_copyFrom 7 (i' := 7) (ls' := [_, _]) (st' := [_, _, _, _, _]) rfl ?_
  refine Ev.copy e_X4_copyFrom rfl rfl rfl rfl rfl (by decide) (by decide) (by decide) (by decide) (by decide) (w1 := (wX a b (va_up g 87 (va_cpy (g 50) (g 87) 0 0 6)) tr)) rfl ?_
  refine Ev.sn e_X4_copyFrom 7 (i' := 15) (ls' := [_, _]) (st' := [_, _, _, _, _]) rfl ?_
  refine Ev.copy e_X4_copyFrom rfl rfl rfl rfl rfl (by decide) (by decide) (by decide) (by decide) (by decide) (w1 := (wX a b (va_up (va_up g 87 (va_cpy (g 50) (g 87) 0 0 6)) 88 (va_cpy (g 51) (g 88) 0 0 6)) tr)) rfl ?_
  refine Ev.sn e_X4_copyFrom 7 (i' := 23) (ls' := [_, _]) (st' := [_, _, _, _, _]) rfl ?_
  refine Ev.copy e_X4_copyFrom rfl rfl rfl rfl rfl (by decide) (by decide) (by decide) (by decide) (by decide) (w1 := (wX a b (va_up (va_up (va_up g 87 (va_cpy (g 50) (g 87) 0 0 6)) 88 (va_cpy (g 51) (g 88) 0 0 6)) 89 (va_cpy (g 52) (g 89) 0 0 5)) tr)) rfl ?_
  exact Ev.vret e_X4_copyFrom rfl rfl rfl
set_option maxRecDepth 20000 in
set_option maxHeartbeats 200000 in
theorem c_cp_30_72 (d a b : Nat) (g : Nat → Nat → Int32) (tr : Int64) : Ev (d + 1) 41 0 [.ref 30, .ref 72] [] (wX a b g tr) none (wX a b (cp3 g 50 87) tr) := by
  refine Ev.sn e_X4_copyFrom 7 (i' := 7) (ls' := [_, _]) (st' := [_, _, _, _, _]) rfl ?_
  refine Ev.copy e_X4_copyFrom rfl rfl rfl rfl rfl (by decide) (by decide) (by decide) (by decide) (by decide) (w1 := (wX a b (va_up g 50 (va_cpy (g 87) (g 50) 0 0 6)) tr)) rfl ?_
  refine Ev.sn e_X4_copyFrom 7 (i' := 15) (ls' := [_, _]) (st' := [_, _, _, _, _]) rfl ?_
  refine Ev.copy e_X4_copyFrom rfl rfl rfl rfl rfl (by decide) (by decide) (by decide) (by decide) (by decide) (w1 := (wX a b (va_up (va_up g 50 (va_cpy (g 87) (g 50) 0 0 6)) 51 (va_cpy (g 88) (g 51) 0 0 6)) tr)) rfl ?_
  refine Ev.sn e_X4_copyFrom 7 (i' := 23) (ls' := [_, _]) (st' := [_, _, _, _, _]) rfl ?_
  refine Ev.copy e_X4_copyFrom rfl rfl rfl rfl rfl (by decide) (by decide) (by decide) (by decide) (by decide) (w1 := (wX a b (va_up (va_up (va_up g 50 (va_cpy (g 87) (g 50) 0 0 6)) 51 (va_cpy (g 88) (g 51) 0 0 6)) 52 (va_cpy (g 89) (g 52) 0 0 5)) tr)) rfl ?_
  exact Ev.vret e_X4_copyFrom rfl rfl rfl
set_option maxRecDepth 20000 in
set_option maxHeartbeats 200000 in
theorem c_cp_87_30 (d a b : Nat) (g : Nat → Nat → Int32) (tr : Int64) : Ev (d + 1) 41 0 [.ref 87, .ref 30] [] (wX a b g tr) none (wX a b (cp3 g 91 50) tr) := by
  refine Ev.sn e_X4_copyFrom 7 (i' := 7) (ls' := [_, _]) (st' := [_, _, _, _, _]) rfl ?_
  refine Ev.copy e_X4_copyFrom rfl rfl rfl rfl rfl (by decide) (by decide) (by decide) (by decide) (by decide) (w1 := (wX a b (va_up g 91 (va_cpy (g 50) (g 91) 0 0 6)) tr)) rfl ?_
  refine Ev.sn e_X4_copyFrom 7 (i' := 15) (ls' := [_, _]) (st' := [_, _, _, _, _]) rfl ?_
  refine Ev.copy e_X4_copyFrom rfl rfl rfl rfl rfl (by decide) (by decide) (by decide) (by decide) (by decide) (w1 := (wX a b (va_up (va_up g 91 (va_cpy (g 50) (g 91) 0 0 6)) 92 (va_cpy (g 51) (g 92) 0 0 6)) tr)) rfl ?_
  refine Ev.sn e_X4_copyFrom 7 (i' := 23) (ls' := [_, _]) (st' := [_, _, _, _, _]) rfl ?_
  refine Ev.copy e_X4_copyFrom rfl rfl rfl rfl rfl (by decide) (by decide) (by decide) (by decide) (by decide) (w1 := (wX a b (va_up (va_up (va_up g 91 (va_cpy (g 50) (g 91) 0 0 6)) 92 (va_cpy (g 51) (g 92) 0 0 6)) 93 (va_cpy (g 52) (g 93) 0 0 5)) tr)) rfl ?_
  exact Ev.vret e_X4_copyFrom rfl rfl rfl
set_option maxRecDepth 20000 in
set_option maxHeartbeats 200000 in
theorem c_cp_30_87 (d a b : Nat) (g : Nat → Nat → Int32) (tr : Int64) : Ev (d + 1) 41 0 [.ref 30, .ref 87] [] (wX a b g tr) none (wX a b (cp3 g 50 91) tr) := by
  refine Ev.sn e_X4_copyFrom 7 (i' := 7) (ls' := [_, _]) (st' := [_, _, _, _, _]) rfl ?_
  refine Ev.copy e_X4_copyFrom rfl rfl rfl rfl rfl (by decide) (by decide) (by decide) (by decide) (by decide) (w1 := (wX a b (va_up g 50 (va_cpy (g 91) (g 50) 0 0 6)) tr)) rfl ?_
  refine Ev.sn e_X4_copyFrom 7 (i' := 15) (ls' := [_, _]) (st' := [_, _, _, _, _]) rfl ?_
  refine Ev.copy e_X4_copyFrom rfl rfl rfl rfl rfl (by decide) (by decide) (by decide) (by decide) (by decide) (w1 := (wX a b (va_up (va_up g 50 (va_cpy (g 91) (g 50) 0 0 6)) 51 (va_cpy (g 92) (g 51) 0 0 6)) tr)) rfl ?_
  refine Ev.sn e_X4_copyFrom 7 (i' := 23) (ls' := [_, _]) (st' := [_, _, _, _, _]) rfl ?_
  refine Ev.copy e_X4_copyFrom rfl rfl rfl rfl rfl (by decide) (by decide) (by decide) (by decide) (by decide) (w1 := (wX a b (va_up (va_up (va_up g 50 (va_cpy (g 91) (g 50) 0 0 6)) 51 (va_cpy (g 92) (g 51) 0 0 6)) 52 (va_cpy (g 93) (g 52) 0 0 5)) tr)) rfl ?_
  exact Ev.vret e_X4_copyFrom rfl rfl rfl
set_option maxRecDepth 20000 in
set_option maxHeartbeats 200000 in
theorem c_cp_91_30 (d a b : Nat) (g : Nat → Nat → Int32) (tr : Int64) : Ev (d + 1) 41 0 [.ref 91, .ref 30] [] (wX a b g tr) none (wX a b (cp3 g 94 50) tr) := by
  refine Ev.sn e_X4_copyFrom 7 (i' := 7) (ls' := [_, _]) (st' := [_, _, _, _, _]) rfl ?_
  refine Ev.copy e_X4_copyFrom rfl rfl rfl rfl rfl (by decide) (by decide) (by decide) (by decide) (by decide) (w1 := (wX a b (va_up g 94 (va_cpy (g 50) (g 94) 0 0 6)) tr)) rfl ?_
  refine Ev.sn e_X4_copyFrom 7 (i' := 15) (ls' := [_, _]) (st' := [_, _, _, _, _]) rfl ?_
  refine Ev.copy e_X4_copyFrom rfl rfl rfl rfl rfl (by decide) (by decide) (by decide) (by decide) (by decide) (w1 := (wX a b (va_up (va_up g 94 (va_cpy (g 50) (g 94) 0 0 6)) 95 (va_cpy (g 51) (g 95) 0 0 6)) tr)) rfl ?_
  refine Ev.sn e_X4_copyFrom 7 (i' := 23) (ls' := [_, _]) (st' := [_, _, _, _, _]) rfl ?_
  refine Ev.copy e_X4_copyFrom rfl rfl rfl rfl rfl (by decide) (by decide) (by decide) (by decide) (by decide) (w1 := (wX a b (va_up (va_up (va_up g 94 (va_cpy (g 50) (g 94) 0 0 6)) 95 (va_cpy (g 51) (g 95) 0 0 6)) 96 (va_cpy (g 52) (g 96) 0 0 5)) tr)) rfl ?_
  exact Ev.vret e_X4_copyFrom rfl rfl rfl
set_option maxRecDepth 20000 in
set_option maxHeartbeats 200000 in
theorem c_cp_30_91 (d a b : Nat) (g : Nat → Nat → Int32) (tr : Int64) : Ev (d + 1) 41 0 [.ref 30, .ref 91] [] (wX a b g tr) none (wX a b (cp3 g 50 94) tr) := by
  refine Ev.sn e_X4_copyFrom 7 (i' := 7) (ls' := [_, _]) (st' := [_, _, _, _, _]) rfl ?_
  refine Ev.copy e_X4_copyFrom rfl rfl rfl rfl rfl (by decide) (by decide) (by decide) (by decide) (by decide) (w1 := (wX a b (va_up g 50 (va_cpy (g 94) (g 50) 0 0 6)) tr)) rfl ?_
  refine Ev.sn e_X4_copyFrom 7 (i' := 15) (ls' := [_, _]) (st' := [_, _, _, _, _]) rfl ?_
  refine Ev.copy e_X4_copyFrom rfl rfl rfl rfl rfl (by decide) (by decide) (by decide) (by decide) (by decide) (w1 := (wX a b (va_up (va_up g 50 (va_cpy (g 94) (g 50) 0 0 6)) 51 (va_cpy (g 95) (g 51) 0 0 6)) tr)) rfl ?_
  refine Ev.sn e_X4_copyFrom 7 (i' := 23) (ls' := [_, _]) (st' := [_, _, _, _, _]) rfl ?_
  refine Ev.copy e_X4_copyFrom rfl rfl rfl rfl rfl (by decide) (by decide) (by decide) (by decide) (by decide) (w1 := (wX a b (va_up (va_up (va_up g 50 (va_cpy (g 94) (g 50) 0 0 6)) 51 (va_cpy (g 95) (g 51) 0 0 6)) 52 (va_cpy (g 96) (g 52) 0 0 5)) tr)) rfl ?_
  exact Ev.vret e_X4_copyFrom rfl rfl rfl
set_option maxRecDepth 20000 in
set_option maxHeartbeats 200000 in
theorem c_X1_size (d : Nat) (g : Nat → Nat → Int32) (tr : Int64) : Ev d 9 0 [.ref 34] [] (wC g tr) (some (.int (g 90 1))) (wC g tr) := by
  refine Ev.sn e_X1_size 2 (i' := 2) (ls' := [_]) (st' := [_]) rfl ?_
  refine Ev.iret e_X1_size rfl rfl rfl ?_ rfl
  rfl
set_option maxRecDepth 20000 in
set_option maxHeartbeats 200000 in
theorem c_X1_loseAll (d a b : Nat) (g : Nat → Nat → Int32) (tr : Int64) : Ev d 10 0 [.ref 34] [] (wX a b g tr) none (wX a b (va_up g 90 (upd (g 90) 1 0)) tr) := by
  refine Ev.sn e_X1_loseAll 2 (i' := 2) (ls' := [_]) (st' := [_, _]) rfl ?_
  refine Ev.put e_X1_loseAll rfl rfl rfl rfl rfl rfl (w1 := (wX a b (va_up g 90 (upd (g 90) 1 0)) tr)) rfl ?_
  exact Ev.vret e_X1_loseAll rfl rfl rfl
def remT (g : Nat → Nat → Int32) (r k : Nat) : Nat → Nat → Int32 := va_up (cp3 g (60 + 3 * r) 50) 90 (upd (g 90) 1 (nI (k + 1)))
set_option maxRecDepth 20000 in
set_option maxHeartbeats 200000 in
theorem lt_X1_remember (d : Nat) (g : Nat → Nat → Int32) (tr : Int64) {o k r : Nat} (ho : g 90 0 = nI o) (hk : g 90 1 = nI k) (ho10 : o < 10) (hk10 : k < 10) (hr : r = (o + k) % 10) : Ev (d + 2) 11 18 [.ref 34, .ref 30] [] (wC g tr) none (wC (remT g r k) tr) := by
  have hrr : (nI o + nI k) - (nI o + nI k) / 10 * 10 = nI r := by
    rw [nI_add, hr]
    exact pk_rem (d := 10) (by omega) (by omega) (by omega)
  have hr10 : r < 10 := by omega
  clear hr
  refine Ev.sn e_X1_remember 8 (i' := 26) (ls' := [_, _]) (st' := [_, _, _]) rfl ?_
  refine Ev.irem e_X1_remember rfl rfl (by decide) ?_
  rw [ho, hk]
  match r, hr10, hrr with
  | 0, _, hrr =>
    refine Ev.aaldE e_X1_remember rfl rfl rfl hrr (by decide) rfl ?_
    refine Ev.sn e_X1_remember 1 (i' := 29) (ls' := [_, _]) (st' := [_, _]) rfl ?_
    refine Ev.clV e_X1_remember rfl rfl (as := [_]) rfl rfl rfl kl_X4_copyFrom rfl rfl rfl (c_cp_36_30 _ _ _ _ _) rfl ?_
    refine Ev.sn e_X1_remember 5 (i' := 35) (ls' := [_, _]) (st' := [_, _]) rfl ?_
    refine Ev.put e_X1_remember rfl rfl rfl rfl rfl rfl (w1 := wC (va_up (cp3 g 60 50) 90 (upd (g 90) 1 (g 90 1 + 1))) tr) rfl ?_
    exact Ev.vret e_X1_remember rfl rfl (by rw [hk, nI_1]; rfl)
  
  | 1, _, hrr =>
    refine Ev.aaldE e_X1_remember rfl rfl rfl hrr (by decide) rfl ?_
    refine Ev.sn e_X1_remember 1 (i' := 29) (ls' := [_, _]) (st' := [_, _]) rfl ?_
    refine Ev.clV e_X1_remember rfl rfl (as := [_]) rfl rfl rfl kl_X4_copyFrom rfl rfl rfl (c_cp_40_30 _ _ _ _ _) rfl ?_
    refine Ev.sn e_X1_remember 5 (i' := 35) (ls' := [_, _]) (st' := [_, _]) rfl ?_
    refine Ev.put e_X1_remember rfl rfl rfl rfl rfl rfl (w1 := wC (va_up (cp3 g 63 50) 90 (upd (g 90) 1 (g 90 1 + 1))) tr) rfl ?_
    exact Ev.vret e_X1_remember rfl rfl (by rw [hk, nI_1]; rfl)
  
  | 2, _, hrr =>
    refine Ev.aaldE e_X1_remember rfl rfl rfl hrr (by decide) rfl ?_
    refine Ev.sn e_X1_remember 1 (i' := 29) (ls' := [_, _]) (st' := [_, _]) rfl ?_
    refine Ev.clV e_X1_remember rfl rfl (as := [_]) rfl rfl rfl kl_X4_copyFrom rfl rfl rfl (c_cp_44_30 _ _ _ _ _) rfl ?_
    refine Ev.sn e_X1_remember 5 (i' := 35) (ls' := [_, _]) (st' := [_, _]) rfl ?_
    refine Ev.put e_X1_remember rfl rfl rfl rfl rfl rfl (w1 := wC (va_up (cp3 g 66 50) 90 (upd (g 90) 1 (g 90 1 + 1))) tr) rfl ?_
    exact Ev.vret e_X1_remember rfl rfl (by rw [hk, nI_1]; rfl)
  
  | 3, _, hrr =>
    refine Ev.aaldE e_X1_remember rfl rfl rfl hrr (by decide) rfl ?_
    refine Ev.sn e_X1_remember 1 (i' := 29) (ls' := [_, _]) (st' := [_, _]) rfl ?_
    refine Ev.clV e_X1_remember rfl rfl (as := [_]) rfl rfl rfl kl_X4_copyFrom rfl rfl rfl (c_cp_48_30 _ _ _ _ _) rfl ?_
    refine Ev.sn e_X1_remember 5 (i' := 35) (ls' := [_, _]) (st' := [_, _]) rfl ?_
    refine Ev.put e_X1_remember rfl rfl rfl rfl rfl rfl (w1 := wC (va_up (cp3 g 69 50) 90 (upd (g 90) 1 (g 90 1 + 1))) tr) rfl ?_
    exact Ev.vret e_X1_remember rfl rfl (by rw [hk, nI_1]; rfl)
  
  | 4, _, hrr =>
    refine Ev.aaldE e_X1_remember rfl rfl rfl hrr (by decide) rfl ?_
    refine Ev.sn e_X1_remember 1 (i' := 29) (ls' := [_, _]) (st' := [_, _]) rfl ?_
    refine Ev.clV e_X1_remember rfl rfl (as := [_]) rfl rfl rfl kl_X4_copyFrom rfl rfl rfl (c_cp_52_30 _ _ _ _ _) rfl ?_
    refine Ev.sn e_X1_remember 5 (i' := 35) (ls' := [_, _]) (st' := [_, _]) rfl ?_
    refine Ev.put e_X1_remember rfl rfl rfl rfl rfl rfl (w1 := wC (va_up (cp3 g 72 50) 90 (upd (g 90) 1 (g 90 1 + 1))) tr) rfl ?_
    exact Ev.vret e_X1_remember rfl rfl (by rw [hk, nI_1]; rfl)
  
  | 5, _, hrr =>
    refine Ev.aaldE e_X1_remember rfl rfl rfl hrr (by decide) rfl ?_
    refine Ev.sn e_X1_remember 1 (i' := 29) (ls' := [_, _]) (st' := [_, _]) rfl ?_
    refine Ev.clV e_X1_remember rfl rfl (as := [_]) rfl rfl rfl kl_X4_copyFrom rfl rfl rfl (c_cp_56_30 _ _ _ _ _) rfl ?_
    refine Ev.sn e_X1_remember 5 (i' := 35) (ls' := [_, _]) (st' := [_, _]) rfl ?_
    refine Ev.put e_X1_remember rfl rfl rfl rfl rfl rfl (w1 := wC (va_up (cp3 g 75 50) 90 (upd (g 90) 1 (g 90 1 + 1))) tr) rfl ?_
    exact Ev.vret e_X1_remember rfl rfl (by rw [hk, nI_1]; rfl)
  
  | 6, _, hrr =>
    refine Ev.aaldE e_X1_remember rfl rfl rfl hrr (by decide) rfl ?_
    refine Ev.sn e_X1_remember 1 (i' := 29) (ls' := [_, _]) (st' := [_, _]) rfl ?_
    refine Ev.clV e_X1_remember rfl rfl (as := [_]) rfl rfl rfl kl_X4_copyFrom rfl rfl rfl (c_cp_60_30 _ _ _ _ _) rfl ?_
    refine Ev.sn e_X1_remember 5 (i' := 35) (ls' := [_, _]) (st' := [_, _]) rfl ?_
    refine Ev.put e_X1_remember rfl rfl rfl rfl rfl rfl (w1 := wC (va_up (cp3 g 78 50) 90 (upd (g 90) 1 (g 90 1 + 1))) tr) rfl ?_
    exact Ev.vret e_X1_remember rfl rfl (by rw [hk, nI_1]; rfl)
  
  | 7, _, hrr =>
    refine Ev.aaldE e_X1_remember rfl rfl rfl hrr (by decide) rfl ?_
    refine Ev.sn e_X1_remember 1 (i' := 29) (ls' := [_, _]) (st' := [_, _]) rfl ?_
    refine Ev.clV e_X1_remember rfl rfl (as := [_]) rfl rfl rfl kl_X4_copyFrom rfl rfl rfl (c_cp_64_30 _ _ _ _ _) rfl ?_
    refine Ev.sn e_X1_remember 5 (i' := 35) (ls' := [_, _]) (st' := [_, _]) rfl ?_
    refine Ev.put e_X1_remember rfl rfl rfl rfl rfl rfl (w1 := wC (va_up (cp3 g 81 50) 90 (upd (g 90) 1 (g 90 1 + 1))) tr) rfl ?_
    exact Ev.vret e_X1_remember rfl rfl (by rw [hk, nI_1]; rfl)
  
  | 8, _, hrr =>
    refine Ev.aaldE e_X1_remember rfl rfl rfl hrr (by decide) rfl ?_
    refine Ev.sn e_X1_remember 1 (i' := 29) (ls' := [_, _]) (st' := [_, _]) rfl ?_
    refine Ev.clV e_X1_remember rfl rfl (as := [_]) rfl rfl rfl kl_X4_copyFrom rfl rfl rfl (c_cp_68_30 _ _ _ _ _) rfl ?_
    refine Ev.sn e_X1_remember 5 (i' := 35) (ls' := [_, _]) (st' := [_, _]) rfl ?_
    refine Ev.put e_X1_remember rfl rfl rfl rfl rfl rfl (w1 := wC (va_up (cp3 g 84 50) 90 (upd (g 90) 1 (g 90 1 + 1))) tr) rfl ?_
    exact Ev.vret e_X1_remember rfl rfl (by rw [hk, nI_1]; rfl)
  
  | 9, _, hrr =>
    refine Ev.aaldE e_X1_remember rfl rfl rfl hrr (by decide) rfl ?_
    refine Ev.sn e_X1_remember 1 (i' := 29) (ls' := [_, _]) (st' := [_, _]) rfl ?_
    refine Ev.clV e_X1_remember rfl rfl (as := [_]) rfl rfl rfl kl_X4_copyFrom rfl rfl rfl (c_cp_72_30 _ _ _ _ _) rfl ?_
    refine Ev.sn e_X1_remember 5 (i' := 35) (ls' := [_, _]) (st' := [_, _]) rfl ?_
    refine Ev.put e_X1_remember rfl rfl rfl rfl rfl rfl (w1 := wC (va_up (cp3 g 87 50) 90 (upd (g 90) 1 (g 90 1 + 1))) tr) rfl ?_
    exact Ev.vret e_X1_remember rfl rfl (by rw [hk, nI_1]; rfl)
/-- what remember does: of o, k (the oldest, how many are held) before it; r the row that is written -/
def RMB (g g' : Nat → Nat → Int32) (o k : Nat) : Prop := ∃ o' k' r, o' < 10 ∧ k' < 10 ∧ r = (o' + k') % 10 ∧ ((k < 10 ∧ o' = o ∧ k' = k) ∨ (k = 10 ∧ o' = (o + 1) % 10 ∧ k' = 9)) ∧ g' 90 0 = nI o' ∧ g' 90 1 = nI (k' + 1) ∧ (∀ x, x ≠ 90 → (x < 60 + 3 * r ∨ 62 + 3 * r < x) → g' x = g x) ∧ (∀ t, t < 6 → g' (60 + 3 * r) t = g 50 t ∧ g' (61 + 3 * r) t = g 51 t) ∧ (∀ p, p < 5 → g' (62 + 3 * r) p = g 52 p)
theorem remT_ok {g : Nat → Nat → Int32} {r k : Nat} (hr : r < 10) : (∀ x, x ≠ 90 → (x < 60 + 3 * r ∨ 62 + 3 * r < x) → remT g r k x = g x) ∧ (∀ t, t < 6 → remT g r k (60 + 3 * r) t = g 50 t ∧ remT g r k (61 + 3 * r) t = g 51 t) ∧ (∀ p, p < 5 → remT g r k (62 + 3 * r) p = g 52 p) ∧ remT g r k 90 0 = g 90 0 ∧ remT g r k 90 1 = nI (k + 1) := by
  unfold remT cp3
  refine ⟨fun x h1 h2 => ?_, fun t ht => ⟨?_, ?_⟩, fun p hp => ?_, ?_, ?_⟩
  · rw [va_up_ne _ _ h1, va_up_ne _ _ (by omega), va_up_ne _ _ (by omega), va_up_ne _ _ (by omega)]
  · rw [va_up_ne _ _ (by omega), va_up_ne _ _ (by omega), va_up_ne _ _ (by omega), va_up_self, pk_cpy_in (by omega) (by omega)]
    simp
  · rw [va_up_ne _ _ (by omega), va_up_ne _ _ (by omega), show 61 + 3 * r = 60 + 3 * r + 1 by omega, va_up_self, pk_cpy_in (by omega) (by omega)]
    simp
  · rw [va_up_ne _ _ (by omega), show 62 + 3 * r = 60 + 3 * r + 2 by omega, va_up_self, pk_cpy_in (by omega) (by omega)]
    simp
  · rw [va_up_self, pk_un (by omega)]
  · rw [va_up_self, pk_us]
set_option maxRecDepth 20000 in
set_option maxHeartbeats 200000 in
theorem c_X1_remember (d : Nat) (g : Nat → Nat → Int32) (tr : Int64) {o k : Nat} (ho : g 90 0 = nI o) (hk : g 90 1 = nI k) (ho10 : o < 10) (hk10 : k ≤ 10) : ∃ g', Ev (d + 2) 11 0 [.ref 34, .ref 30] [] (wC g tr) none (wC g' tr) ∧ RMB g g' o k := by
  by_cases hx : k = 10
  · subst hx
    have e1 : nI o + 1 - (nI o + 1) / 10 * 10 = nI ((o + 1) % 10) := by
      rw [nI_1]
      exact pk_rem (d := 10) (by omega) (by omega) (by omega)
    obtain ⟨g2, hg2⟩ : ∃ g2, g2 = va_up g 90 (upd (upd (g 90) 0 (nI ((o + 1) % 10))) 1 (nI 9)) := ⟨_, rfl⟩
    have a0 : g2 90 0 = nI ((o + 1) % 10) := by rw [hg2]; rfl
    have a1 : g2 90 1 = nI 9 := by rw [hg2]; rfl
    refine ⟨remT g2 (((o + 1) % 10 + 9) % 10) 9, ?_, ?_⟩
    · have tl := lt_X1_remember d g2 tr a0 a1 (by omega) (by omega) rfl
      refine Ev.sn e_X1_remember 3 (i' := 3) (ls' := [_, _]) (st' := [_, _]) rfl ?_
      refine Ev.brT (i1 := 4) (i2 := 18) e_X1_remember rfl rfl (hk) ?_
      refine Ev.sn e_X1_remember 6 (i' := 10) (ls' := [_, _]) (st' := [_, _, _]) rfl ?_
      refine Ev.irem e_X1_remember rfl rfl (by decide) ?_
      refine Ev.put e_X1_remember rfl rfl rfl rfl rfl rfl (w1 := wC (va_up g 90 (upd (g 90) 0 (g 90 0 + 1 - (g 90 0 + 1) / 10 * 10))) tr) rfl ?_
      refine Ev.sn e_X1_remember 5 (i' := 17) (ls' := [_, _]) (st' := [_, _]) rfl ?_
      refine Ev.put e_X1_remember rfl rfl rfl rfl rfl rfl (w1 := wC (va_up g 90 (upd (upd (g 90) 0 (g 90 0 + 1 - (g 90 0 + 1) / 10 * 10)) 1 (g 90 1 - 1))) tr) rfl ?_
      rw [ho, hk, e1, show nI 10 - 1 = nI 9 from nI_pred 9]
      rw [hg2] at tl ⊢
      exact tl
    · obtain ⟨b1, b2, b3, b4, b5⟩ := remT_ok (g := g2) (r := ((o + 1) % 10 + 9) % 10) (k := 9) (by omega)
      have ne : ∀ x, x ≠ 90 → g2 x = g x := fun x h => by rw [hg2]; exact va_up_ne _ _ h
      refine ⟨(o + 1) % 10, 9, _, by omega, by omega, rfl, Or.inr ⟨rfl, rfl, rfl⟩, by rw [b4, a0], b5, fun x h1 h2 => by rw [b1 x h1 h2, ne x h1], fun t ht => ?_, fun p hp => ?_⟩
      · rw [(b2 t ht).1, (b2 t ht).2, ne 50 (by omega), ne 51 (by omega)]
        exact ⟨rfl, rfl⟩
      · rw [b3 p hp, ne 52 (by omega)]
  · refine ⟨remT g ((o + k) % 10) k, ?_, ?_⟩
    · have tl := lt_X1_remember d g tr ho hk ho10 (by omega) rfl
      refine Ev.sn e_X1_remember 3 (i' := 3) (ls' := [_, _]) (st' := [_, _]) rfl ?_
      refine Ev.brF (i1 := 4) (i2 := 18) e_X1_remember rfl rfl ((fun e => hx (by rw [hk] at e; exact (nI_eq (by omega) (by omega)).mp e))) ?_
      exact tl
    · obtain ⟨b1, b2, b3, b4, b5⟩ := remT_ok (g := g) (r := (o + k) % 10) (k := k) (by omega)
      exact ⟨o, k, _, ho10, by omega, rfl, Or.inl ⟨by omega, rfl, rfl⟩, by rw [b4, ho], b5, b1, b2, b3⟩
def resT (g : Nat → Nat → Int32) (r k : Nat) : Nat → Nat → Int32 := cp3 (va_up g 90 (upd (g 90) 1 (nI k))) 50 (60 + 3 * r)
set_option maxRecDepth 20000 in
set_option maxHeartbeats 200000 in
theorem c_X1_restoreLatest (d : Nat) (g : Nat → Nat → Int32) (tr : Int64) {o k r : Nat} (ho : g 90 0 = nI o) (hk : g 90 1 = nI (k + 1)) (ho10 : o < 10) (hk10 : k < 10) (hr : r = (o + k) % 10) : Ev (d + 2) 12 0 [.ref 34, .ref 30] [] (wC g tr) none (wC (resT g r k) tr) := by
  have hrr : (nI o + nI k) - (nI o + nI k) / 10 * 10 = nI r := by
    rw [nI_add, hr]
    exact pk_rem (d := 10) (by omega) (by omega) (by omega)
  have hr10 : r < 10 := by omega
  clear hr
  refine Ev.sn e_X1_restoreLatest 2 (i' := 2) (ls' := [_, _]) (st' := [_]) rfl ?_
  refine Ev.brF (i1 := 21) (i2 := 3) e_X1_restoreLatest rfl rfl ((by rw [hk]; exact nI_nle (by omega) (by omega))) ?_
  refine Ev.sn e_X1_restoreLatest 5 (i' := 8) (ls' := [_, _]) (st' := [_, _]) rfl ?_
  refine Ev.put e_X1_restoreLatest rfl rfl rfl rfl rfl rfl (w1 := wC (va_up g 90 (upd (g 90) 1 (g 90 1 - 1))) tr) rfl ?_
  refine Ev.sn e_X1_restoreLatest 9 (i' := 18) (ls' := [_, _]) (st' := [_, _, _, _]) rfl ?_
  refine Ev.irem e_X1_restoreLatest rfl rfl (by decide) ?_
  rw [show (va_up g 90 (upd (g 90) 1 (g 90 1 - 1))) 90 0 = g 90 0 from rfl, show (va_up g 90 (upd (g 90) 1 (g 90 1 - 1))) 90 1 = g 90 1 - 1 from rfl, hk, ho, nI_pred]
  match r, hr10, hrr with
  | 0, _, hrr =>
    refine Ev.aaldE e_X1_restoreLatest rfl rfl rfl hrr (by decide) rfl ?_
    refine Ev.clV e_X1_restoreLatest rfl rfl (as := [_]) rfl rfl rfl kl_X4_copyFrom rfl rfl rfl (c_cp_30_36 _ _ _ _ _) rfl ?_
    exact Ev.vret e_X1_restoreLatest rfl rfl rfl
  
  | 1, _, hrr =>
    refine Ev.aaldE e_X1_restoreLatest rfl rfl rfl hrr (by decide) rfl ?_
    refine Ev.clV e_X1_restoreLatest rfl rfl (as := [_]) rfl rfl rfl kl_X4_copyFrom rfl rfl rfl (c_cp_30_40 _ _ _ _ _) rfl ?_
    exact Ev.vret e_X1_restoreLatest rfl rfl rfl
  
  | 2, _, hrr =>
    refine Ev.aaldE e_X1_restoreLatest rfl rfl rfl hrr (by decide) rfl ?_
    refine Ev.clV e_X1_restoreLatest rfl rfl (as := [_]) rfl rfl rfl kl_X4_copyFrom rfl rfl rfl (c_cp_30_44 _ _ _ _ _) rfl ?_
    exact Ev.vret e_X1_restoreLatest rfl rfl rfl
  
  | 3, _, hrr =>
    refine Ev.aaldE e_X1_restoreLatest rfl rfl rfl hrr (by decide) rfl ?_
    refine Ev.clV e_X1_restoreLatest rfl rfl (as := [_]) rfl rfl rfl kl_X4_copyFrom rfl rfl rfl (c_cp_30_48 _ _ _ _ _) rfl ?_
    exact Ev.vret e_X1_restoreLatest rfl rfl rfl
  
  | 4, _, hrr =>
    refine Ev.aaldE e_X1_restoreLatest rfl rfl rfl hrr (by decide) rfl ?_
    refine Ev.clV e_X1_restoreLatest rfl rfl (as := [_]) rfl rfl rfl kl_X4_copyFrom rfl rfl rfl (c_cp_30_52 _ _ _ _ _) rfl ?_
    exact Ev.vret e_X1_restoreLatest rfl rfl rfl
  
  | 5, _, hrr =>
    refine Ev.aaldE e_X1_restoreLatest rfl rfl rfl hrr (by decide) rfl ?_
    refine Ev.clV e_X1_restoreLatest rfl rfl (as := [_]) rfl rfl rfl kl_X4_copyFrom rfl rfl rfl (c_cp_30_56 _ _ _ _ _) rfl ?_
    exact Ev.vret e_X1_restoreLatest rfl rfl rfl
  
  | 6, _, hrr =>
    refine Ev.aaldE e_X1_restoreLatest rfl rfl rfl hrr (by decide) rfl ?_
    refine Ev.clV e_X1_restoreLatest rfl rfl (as := [_]) rfl rfl rfl kl_X4_copyFrom rfl rfl rfl (c_cp_30_60 _ _ _ _ _) rfl ?_
    exact Ev.vret e_X1_restoreLatest rfl rfl rfl
  
  | 7, _, hrr =>
    refine Ev.aaldE e_X1_restoreLatest rfl rfl rfl hrr (by decide) rfl ?_
    refine Ev.clV e_X1_restoreLatest rfl rfl (as := [_]) rfl rfl rfl kl_X4_copyFrom rfl rfl rfl (c_cp_30_64 _ _ _ _ _) rfl ?_
    exact Ev.vret e_X1_restoreLatest rfl rfl rfl
  
  | 8, _, hrr =>
    refine Ev.aaldE e_X1_restoreLatest rfl rfl rfl hrr (by decide) rfl ?_
    refine Ev.clV e_X1_restoreLatest rfl rfl (as := [_]) rfl rfl rfl kl_X4_copyFrom rfl rfl rfl (c_cp_30_68 _ _ _ _ _) rfl ?_
    exact Ev.vret e_X1_restoreLatest rfl rfl rfl
  
  | 9, _, hrr =>
    refine Ev.aaldE e_X1_restoreLatest rfl rfl rfl hrr (by decide) rfl ?_
    refine Ev.clV e_X1_restoreLatest rfl rfl (as := [_]) rfl rfl rfl kl_X4_copyFrom rfl rfl rfl (c_cp_30_72 _ _ _ _ _) rfl ?_
    exact Ev.vret e_X1_restoreLatest rfl rfl rfl
def flI (x : Int32) (k p : Nat) (f : Nat → Int32) : Nat → Int32 := fo (fun t f => upd f t x) k p f
set_option maxRecDepth 20000 in
set_option maxHeartbeats 200000 in
theorem lp_J7_fill_53178 (d a b : Nat) (g : Nat → Nat → Int32) (tr : Int64) (x : Int32) : ∀ (kk p : Nat) (f : Nat → Int32), p + kk = 6 → Ev d 187 5 [.ref 31, .int x, .int (nI p), .int (nI 6)] [] (wX a b (va_up g 50 f) tr) none (wX a b (va_up g 50 (flI x kk p f)) tr) := by
  intro kk
  induction kk with
  | zero =>
    intro p f hp
    refine Ev.sn e_J7_fill_53178 2 (i' := 7) (ls' := [_, _, _, _]) (st' := [_, _]) rfl ?_
    refine Ev.brT (i1 := 14) (i2 := 8) e_J7_fill_53178 rfl rfl (ge_t (n := 6) rfl (by omega) (by omega)) ?_
    exact Ev.vret e_J7_fill_53178 rfl rfl rfl
  | succ kk ih =>
    intro p f hp
    refine Ev.sn e_J7_fill_53178 2 (i' := 7) (ls' := [_, _, _, _]) (st' := [_, _]) rfl ?_
    refine Ev.brF (i1 := 14) (i2 := 8) e_J7_fill_53178 rfl rfl (ge_f (n := 6) rfl (by omega) (by omega)) ?_
    refine Ev.sn e_J7_fill_53178 3 (i' := 11) (ls' := [_, _, _, _]) (st' := [_, _, _]) rfl ?_
    refine Ev.iastE e_J7_fill_53178 rfl rfl rfl rfl (by omega) (w1 := (wX a b (va_up g 50 (upd f p x)) tr)) rfl ?_
    refine Ev.sn e_J7_fill_53178 2 (i' := 5) (ls' := [_, _, _, _]) (st' := []) rfl ?_
    rw [nI_1]
    exact ih (p + 1) (upd f p x) (by omega)
set_option maxRecDepth 20000 in
set_option maxHeartbeats 200000 in
theorem c_J7_fill_53178 (d a b : Nat) (g : Nat → Nat → Int32) (tr : Int64) (x : Int32) : Ev d 187 0 [.ref 31, .int x, .null, .null] [] (wX a b g tr) none (wX a b (va_up g 50 (flI x 6 0 (g 50))) tr) := by
  refine Ev.sn e_J7_fill_53178 3 (i' := 3) (ls' := [_, _, _, _]) (st' := [_]) rfl ?_
  refine Ev.alen e_J7_fill_53178 rfl rfl rfl rfl ?_
  refine Ev.sn e_J7_fill_53178 1 (i' := 5) (ls' := [_, _, _, _]) (st' := []) rfl ?_
  refine Ev.wd (w2 := (wX a b (va_up g 50 (g 50)) tr)) rfl ?_
  exact lp_J7_fill_53178 _ _ _ _ _ _ 6 0 (g 50) rfl
def bat (g : Nat → Nat → Int32) : Nat → Nat → Int32 := va_up (va_up (va_up g 50 (flI (-9) 6 0 (g 50))) 51 (va_cpy (g 13) (g 51) 0 0 6)) 52 (va_cpy (g 16) (g 52) 0 0 5)
set_option maxRecDepth 20000 in
set_option maxHeartbeats 200000 in
theorem c_X4_beginAsTold (d a b : Nat) (g : Nat → Nat → Int32) (tr : Int64) : Ev (d + 1) 40 0 [.ref 30, .ref 3] [] (wX a b g tr) none (wX a b (bat g) tr) := by
  refine Ev.sn e_X4_beginAsTold 3 (i' := 3) (ls' := [_, _]) (st' := [_, _]) rfl ?_
  refine Ev.clS e_X4_beginAsTold rfl rfl rfl (as := [_, _]) rfl rfl rfl rfl rfl (c_J7_fill_53178 _ _ _ _ _ _) rfl ?_
  refine Ev.sn e_X4_beginAsTold 7 (i' := 11) (ls' := [_, _]) (st' := [_, _, _, _, _]) rfl ?_
  refine Ev.copy e_X4_beginAsTold rfl rfl rfl rfl rfl (by decide) (by decide) (by decide) (by decide) (by decide) (w1 := (wX a b (va_up (va_up g 50 (flI (-9) 6 0 (g 50))) 51 (va_cpy (g 13) (g 51) 0 0 6)) tr)) rfl ?_
  refine Ev.sn e_X4_beginAsTold 7 (i' := 19) (ls' := [_, _]) (st' := [_, _, _, _, _]) rfl ?_
  refine Ev.copy e_X4_beginAsTold rfl rfl rfl rfl rfl (by decide) (by decide) (by decide) (by decide) (by decide) (w1 := (wX a b (va_up (va_up (va_up g 50 (flI (-9) 6 0 (g 50))) 51 (va_cpy (g 13) (g 51) 0 0 6)) 52 (va_cpy (g 16) (g 52) 0 0 5)) tr)) rfl ?_
  exact Ev.vret e_X4_beginAsTold rfl rfl rfl
