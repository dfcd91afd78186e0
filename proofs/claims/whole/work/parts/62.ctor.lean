/-! THE CONSTRUCTORS: a new object is the last cell, what it makes comes behind it -/
section EVR
variable {d M i : Nat} {ls st : List Value} {w w' : AW} {r : Option Value} {c : List Row}
variable {pc a b : Nat} {z : Int32} {zl : Int64} {sw : List (Int32 × Nat)} {ps : List Nat} {i' n : Nat} {x y : Int32} {s0 : List Value} {k j m L kk : Nat} {f : Nat → Int32} {pre blk blk' bp B B' : AW} {fs : List Value} {v : Value}
theorem rg {e : AE} (hL : pre.length = L) (h : blk[j]? = some e) : (pre ++ blk)[L + j]? = some e := by
  rw [List.getElem?_append_right (by omega), hL, Nat.add_sub_cancel_left]
  exact h
theorem rs {e : AE} (hL : pre.length = L) : (pre ++ blk).set (L + j) e = pre ++ blk.set j e := by
  subst hL
  rw [show (pre ++ blk).set (pre.length + j) e = if pre.length + j < pre.length then pre.set (pre.length + j) e ++ blk else pre ++ blk.set (pre.length + j - pre.length) e from List.set_append, if_neg (by omega), Nat.add_sub_cancel_left]
theorem Ev.oini (hc : mP M = c) (hr : c[i]? = some (pc, .invokespecial n, 901, b, z, zl, sw, ps)) (hi : i + 1 = i') (hcat : Nat.ble (s0.map Value.category).sum 8 = true) (q : Ev (d + 1) M i' ls s0 w r w') : Ev (d + 1) M i ls (.ref k :: s0) w r w' := by
  subst hi
  refine Ev.go hc hr rfl ?_ q
  simp only [nx2]
  rw [if_pos trivial, if_pos (Nat.ble_eq.mp hcat)]
theorem Ev.newaR (hc : mP M = c) {t : ArrayType} (hr : c[i]? = some (pc, .newarray t, a, b, z, zl, sw, ps)) (hi : i + 1 = i') (hx : x = nI m) (hL : pre.length = L) (hk : blk.length = kk) (hlt : L + kk < 1000) (hm : m ≤ 1000) (hb : blk ++ [.inl (a, m, .inl (fun _ => 0))] = blk') (q : Ev d M i' ls (.ref (L + kk) :: s0) (pre ++ blk') r w') : Ev d M i ls (.int x :: s0) (pre ++ blk) r w' := by
  subst hi
  subst hx
  subst hb
  subst hk
  subst hL
  rw [← List.append_assoc, ← List.length_append] at q
  refine Ev.go hc hr rfl ?_ q
  simp only [nx2]
  rw [nI_clamp (by omega), if_pos ⟨nI_pos (by omega), hm, by rw [List.length_append]; exact hlt⟩]
theorem Ev.anewR (hc : mP M = c) (hr : c[i]? = some (pc, .anewarray n, a, b, z, zl, sw, ps)) (hi : i + 1 = i') (hx : x = nI m) (hL : pre.length = L) (hk : blk.length = kk) (hlt : L + kk < 1000) (hm : m ≤ 1000) (hb : blk ++ [.inl (3, m, .inr (.inr (.inr (.inr (fun _ => none)))))] = blk') (q : Ev d M i' ls (.ref (L + kk) :: s0) (pre ++ blk') r w') : Ev d M i ls (.int x :: s0) (pre ++ blk) r w' := by
  subst hi
  subst hx
  subst hb
  subst hk
  subst hL
  rw [← List.append_assoc, ← List.length_append] at q
  refine Ev.go hc hr rfl ?_ q
  simp only [nx2]
  rw [nI_clamp (by omega), if_pos ⟨nI_pos (by omega), hm, by rw [List.length_append]; exact hlt⟩]
theorem Ev.newoR (hc : mP M = c) (hr : c[i]? = some (pc, .new n, a, b, z, zl, sw, ps)) (hi : i + 1 = i') (hL : pre.length = L) (hk : blk.length = kk) (hlt : L + kk < 1000) (hb : blk ++ [.inr (a, fds a b)] = blk') (q : Ev d M i' ls (.ref (L + kk) :: s0) (pre ++ blk') r w') : Ev d M i ls s0 (pre ++ blk) r w' := by
  subst hi
  subst hb
  subst hk
  subst hL
  rw [← List.append_assoc, ← List.length_append] at q
  refine Ev.go hc hr rfl ?_ q
  simp only [nx2]
  rw [if_pos (by rw [List.length_append]; exact hlt)]
theorem Ev.putR (hc : mP M = c) (hr : c[i]? = some (pc, .putfield n, a, b, z, zl, sw, ps)) (hi : i + 1 = i') (hL : pre.length = L) (hj : blk[j]? = some (.inr (a, fs))) (hb : Nat.blt b fs.length = true) (hn : narrow (fty a b) v = v) (hf : Jvm.fits (fty a b) v = true) (h1 : blk.set j (.inr (a, fs.set b v)) = blk') (q : Ev d M i' ls s0 (pre ++ blk') r w') : Ev d M i ls (v :: .ref (L + j) :: s0) (pre ++ blk) r w' :=
  Ev.put hc hr hi (rg hL hj) hb hn hf ((rs hL).trans (by rw [h1])) q
theorem Ev.getR (hc : mP M = c) (hr : c[i]? = some (pc, .getfield n, a, b, z, zl, sw, ps)) (hi : i + 1 = i') (hL : pre.length = L) (hj : blk[j]? = some (.inr (a, fs))) (hv : fs[b]? = some v) (q : Ev d M i' ls (v :: s0) (pre ++ blk) r w') : Ev d M i ls (.ref (L + j) :: s0) (pre ++ blk) r w' := by
  subst hi
  refine Ev.s1 hc hr ?_ q
  have h := rg hL hj
  simp only [nx1]
  rw [h]
  simp only
  rw [show Nat.beq a a = true from Nat.beq_refl a]
  simp only [hv]
theorem Ev.iastR (hc : mP M = c) (hr : c[i]? = some (pc, .iastore, a, b, z, zl, sw, ps)) (hi : i + 1 = i') (hL : pre.length = L) (hj : blk[j]? = some (.inl (0, n, .inl f))) (hy : y = nI m) (hm : m < n) (hn : n < 2000) (h1 : blk.set j (.inl (0, n, .inl (upd f m x))) = blk') (q : Ev d M i' ls s0 (pre ++ blk') r w') : Ev d M i ls (.int x :: .int y :: .ref (L + j) :: s0) (pre ++ blk) r w' :=
  Ev.iastE hc hr hi (rg hL hj) hy hm ((rs hL).trans (by rw [h1])) q hn
theorem Ev.aastR {k2 : Nat} {fo : Nat → Option Nat} (hc : mP M = c) (hr : c[i]? = some (pc, .aastore, a, b, z, zl, sw, ps)) (hi : i + 1 = i') (hL : pre.length = L) (hv : (pre ++ blk)[k2]? = some (.inr (4, fs))) (hj : blk[j]? = some (.inl (3, n, .inr (.inr (.inr (.inr fo)))))) (hy : y = nI m) (hm : m < n) (hn : n < 2000) (h1 : blk.set j (.inl (3, n, .inr (.inr (.inr (.inr (va_up fo m (some k2))))))) = blk') (q : Ev d M i' ls s0 (pre ++ blk') r w') : Ev d M i ls (.ref k2 :: .int y :: .ref (L + j) :: s0) (pre ++ blk) r w' := by
  subst hi
  subst hy
  have h := rg hL hj
  rw [← h1, ← rs hL] at q
  refine Ev.go hc hr rfl ?_ q
  simp only [nx2, hv, h, vin_nI hm hn, nI_cl hm hn]
  rw [if_pos ⟨trivial, trivial, trivial⟩]
theorem Ev.clR {ls0 : List Value} {K : Nat} (hc : mP M = c) (hr : c[i]? = some (pc, .invokespecial n, a, 0, z, zl, sw, ps)) (ha : Nat.blt a 900 = true) (hi : i + 1 = i') (hcat : Nat.ble (s0.map Value.category).sum 8 = true) (hsp : Nat.ble (spr [.ref K]).length (mL a) = true) (he : ent (mL a) [.ref K] = ls0) (hk : Ev d a 0 ls0 [] ((pre ++ bp) ++ B) none ((pre ++ bp) ++ B')) (hb : bp ++ B = blk) (hb' : bp ++ B' = blk') (q : Ev (d + 1) M i' ls s0 (pre ++ blk') r w') : Ev (d + 1) M i ls (.ref K :: s0) (pre ++ blk) r w' := by
  subst hb
  subst hb'
  rw [List.append_assoc, List.append_assoc] at hk
  exact Ev.clI (as := []) hc hr ha hi rfl rfl hcat hsp he hk q
end EVR
theorem lenR {pre bp : AW} {L k m : Nat} (hL : pre.length = L) (hk : bp.length = k) (hm : L + k = m) : (pre ++ bp).length = m := by rw [List.length_append, hL, hk, hm]
def z0 : Nat → Int32 := fun _ => 0
def lowR : Nat → Int32 := upd (upd (upd z0 0 (low0 0)) 1 (low0 1)) 2 (low0 2)
def highR : Nat → Int32 := upd (upd (upd z0 0 (high0 0)) 1 (high0 1)) 2 (high0 2)
def nowB (L : Nat) : AW := [.inr (4, [.ref (L + 1), .ref (L + 2), .ref (L + 3)]), .inl (0, 6, .inl z0), .inl (0, 6, .inl z0), .inl (0, 5, .inl z0)]
def taleB (L : Nat) : AW := [.inr (5, [.ref (L + 1), .ref (L + 2), .int 0, .ref (L + 3), .ref (L + 4), .ref (L + 5), .ref (L + 6), .int 0, .ref (L + 7), .ref (L + 8), .int 0, .ref (L + 9), .ref (L + 10), .ref (L + 11), .ref (L + 12)]), .inl (0, 3, .inl lowR), .inl (0, 3, .inl highR), .inl (0, 6, .inl z0), .inl (0, 6, .inl z0), .inl (0, 6, .inl z0), .inl (0, 6, .inl z0), .inl (0, 5, .inl z0), .inl (0, 5, .inl z0), .inl (0, 3, .inl z0), .inl (0, 3, .inl z0), .inl (0, 3, .inl z0), .inl (0, 3, .inl z0)]
set_option maxRecDepth 20000 in
set_option maxHeartbeats 200000 in
theorem c_X4_init (d : Nat) (pre : AW) {L : Nat} (hL : pre.length = L) (hb : L < 990) : Ev (d + 1) 39 0 [.ref L] [] (pre ++ [.inr (4, [.null, .null, .null])]) none (pre ++ nowB L) := by
  refine Ev.sn e_X4_init 1 (i' := 1) (ls' := [_]) (st' := [_]) rfl ?_
  refine Ev.oini e_X4_init rfl rfl rfl ?_
  refine Ev.sn e_X4_init 2 (i' := 4) (ls' := [_]) (st' := [_, _]) rfl ?_
  refine Ev.newaR e_X4_init rfl rfl (m := 6) rfl hL (kk := 1) rfl (by omega) (by omega) (blk' := [.inr (4, [.null, .null, .null]), .inl (0, 6, .inl z0)]) rfl ?_
  refine Ev.putR (j := 0) e_X4_init rfl rfl hL rfl rfl rfl rfl (blk' := [.inr (4, [.ref (L + 1), .null, .null]), .inl (0, 6, .inl z0)]) rfl ?_
  refine Ev.sn e_X4_init 2 (i' := 8) (ls' := [_]) (st' := [_, _]) rfl ?_
  refine Ev.newaR e_X4_init rfl rfl (m := 6) rfl hL (kk := 2) rfl (by omega) (by omega) (blk' := [.inr (4, [.ref (L + 1), .null, .null]), .inl (0, 6, .inl z0), .inl (0, 6, .inl z0)]) rfl ?_
  refine Ev.putR (j := 0) e_X4_init rfl rfl hL rfl rfl rfl rfl (blk' := [.inr (4, [.ref (L + 1), .ref (L + 2), .null]), .inl (0, 6, .inl z0), .inl (0, 6, .inl z0)]) rfl ?_
  refine Ev.sn e_X4_init 2 (i' := 12) (ls' := [_]) (st' := [_, _]) rfl ?_
  refine Ev.newaR e_X4_init rfl rfl (m := 5) rfl hL (kk := 3) rfl (by omega) (by omega) (blk' := [.inr (4, [.ref (L + 1), .ref (L + 2), .null]), .inl (0, 6, .inl z0), .inl (0, 6, .inl z0), .inl (0, 5, .inl z0)]) rfl ?_
  refine Ev.putR (j := 0) e_X4_init rfl rfl hL rfl rfl rfl rfl (blk' := [.inr (4, [.ref (L + 1), .ref (L + 2), .ref (L + 3)]), .inl (0, 6, .inl z0), .inl (0, 6, .inl z0), .inl (0, 5, .inl z0)]) rfl ?_
  exact Ev.vret e_X4_init rfl rfl rfl
def triB (L : Nat) : AW := [.inr (7, [.ref (L + 1), .ref (L + 2), .int 0]), .inl (0, 6, .inl z0), .inl (1, 6, .inl z0)]
set_option maxRecDepth 20000 in
set_option maxHeartbeats 200000 in
theorem c_X7_init (d : Nat) (pre : AW) {L : Nat} (hL : pre.length = L) (hb : L < 990) : Ev (d + 1) 63 0 [.ref L] [] (pre ++ [.inr (7, [.null, .null, .int 0])]) none (pre ++ triB L) := by
  refine Ev.sn e_X7_init 1 (i' := 1) (ls' := [_]) (st' := [_]) rfl ?_
  refine Ev.oini e_X7_init rfl rfl rfl ?_
  refine Ev.sn e_X7_init 2 (i' := 4) (ls' := [_]) (st' := [_, _]) rfl ?_
  refine Ev.newaR e_X7_init rfl rfl (m := 6) rfl hL (kk := 1) rfl (by omega) (by omega) (blk' := [.inr (7, [.null, .null, .int 0]), .inl (0, 6, .inl z0)]) rfl ?_
  refine Ev.putR (j := 0) e_X7_init rfl rfl hL rfl rfl rfl rfl (blk' := [.inr (7, [.ref (L + 1), .null, .int 0]), .inl (0, 6, .inl z0)]) rfl ?_
  refine Ev.sn e_X7_init 2 (i' := 8) (ls' := [_]) (st' := [_, _]) rfl ?_
  refine Ev.newaR e_X7_init rfl rfl (m := 6) rfl hL (kk := 2) rfl (by omega) (by omega) (blk' := [.inr (7, [.ref (L + 1), .null, .int 0]), .inl (0, 6, .inl z0), .inl (1, 6, .inl z0)]) rfl ?_
  refine Ev.putR (j := 0) e_X7_init rfl rfl hL rfl rfl rfl rfl (blk' := [.inr (7, [.ref (L + 1), .ref (L + 2), .int 0]), .inl (0, 6, .inl z0), .inl (1, 6, .inl z0)]) rfl ?_
  exact Ev.vret e_X7_init rfl rfl rfl
def hsgB (L : Nat) : AW := [.inr (3, [.ref (L + 1)]), .inl (0, 5, .inl z0)]
set_option maxRecDepth 20000 in
set_option maxHeartbeats 200000 in
theorem c_X3_init (d : Nat) (pre : AW) {L : Nat} (hL : pre.length = L) (hb : L < 990) : Ev (d + 1) 34 0 [.ref L] [] (pre ++ [.inr (3, [.null])]) none (pre ++ hsgB L) := by
  refine Ev.sn e_X3_init 1 (i' := 1) (ls' := [_]) (st' := [_]) rfl ?_
  refine Ev.oini e_X3_init rfl rfl rfl ?_
  refine Ev.sn e_X3_init 2 (i' := 4) (ls' := [_]) (st' := [_, _]) rfl ?_
  refine Ev.newaR e_X3_init rfl rfl (m := 5) rfl hL (kk := 1) rfl (by omega) (by omega) (blk' := [.inr (3, [.null]), .inl (0, 5, .inl z0)]) rfl ?_
  refine Ev.putR (j := 0) e_X3_init rfl rfl hL rfl rfl rfl rfl (blk' := [.inr (3, [.ref (L + 1)]), .inl (0, 5, .inl z0)]) rfl ?_
  exact Ev.vret e_X3_init rfl rfl rfl
def carB (L : Nat) : AW := [.inr (0, [.ref (L + 1), .ref (L + 2)]), .inl (0, 64, .inl z0), .inl (0, 64, .inl z0)]
set_option maxRecDepth 20000 in
set_option maxHeartbeats 200000 in
theorem c_X0_init (d : Nat) (pre : AW) {L : Nat} (hL : pre.length = L) (hb : L < 990) : Ev (d + 1) 0 0 [.ref L] [] (pre ++ [.inr (0, [.null, .null])]) none (pre ++ carB L) := by
  refine Ev.sn e_X0_init 1 (i' := 1) (ls' := [_]) (st' := [_]) rfl ?_
  refine Ev.oini e_X0_init rfl rfl rfl ?_
  refine Ev.sn e_X0_init 2 (i' := 4) (ls' := [_]) (st' := [_, _]) rfl ?_
  refine Ev.newaR e_X0_init rfl rfl (m := 64) rfl hL (kk := 1) rfl (by omega) (by omega) (blk' := [.inr (0, [.null, .null]), .inl (0, 64, .inl z0)]) rfl ?_
  refine Ev.putR (j := 0) e_X0_init rfl rfl hL rfl rfl rfl rfl (blk' := [.inr (0, [.ref (L + 1), .null]), .inl (0, 64, .inl z0)]) rfl ?_
  refine Ev.sn e_X0_init 2 (i' := 8) (ls' := [_]) (st' := [_, _]) rfl ?_
  refine Ev.newaR e_X0_init rfl rfl (m := 64) rfl hL (kk := 2) rfl (by omega) (by omega) (blk' := [.inr (0, [.ref (L + 1), .null]), .inl (0, 64, .inl z0), .inl (0, 64, .inl z0)]) rfl ?_
  refine Ev.putR (j := 0) e_X0_init rfl rfl hL rfl rfl rfl rfl (blk' := [.inr (0, [.ref (L + 1), .ref (L + 2)]), .inl (0, 64, .inl z0), .inl (0, 64, .inl z0)]) rfl ?_
  exact Ev.vret e_X0_init rfl rfl rfl
set_option maxRecDepth 20000 in
set_option maxHeartbeats 200000 in
theorem c_X5_beg (d : Nat) (pre : AW) {L : Nat} (hL : pre.length = L) (hb : L < 980) : Ev d 43 0 [.ref L, .null] [] (pre ++ [.inr (5, [.ref (L + 1), .ref (L + 2), .int 0, .ref (L + 3), .ref (L + 4), .ref (L + 5), .ref (L + 6), .int 0, .ref (L + 7), .ref (L + 8), .int 0, .ref (L + 9), .ref (L + 10), .ref (L + 11), .ref (L + 12)]), .inl (0, 3, .inl z0), .inl (0, 3, .inl z0), .inl (0, 6, .inl z0), .inl (0, 6, .inl z0), .inl (0, 6, .inl z0), .inl (0, 6, .inl z0), .inl (0, 5, .inl z0), .inl (0, 5, .inl z0), .inl (0, 3, .inl z0), .inl (0, 3, .inl z0), .inl (0, 3, .inl z0), .inl (0, 3, .inl z0)]) none (pre ++ taleB L) := by
  refine Ev.sn e_X5_beginAsAtFirst 2 (i' := 2) (ls' := [_, _]) (st' := []) rfl ?_
  refine Ev.sn e_X5_beginAsAtFirst 2 (i' := 4) (ls' := [_, _]) (st' := [_, _]) rfl ?_
  refine Ev.brF (i1 := 21) (i2 := 5) e_X5_beginAsAtFirst rfl rfl (by decide) ?_
  refine Ev.sn e_X5_beginAsAtFirst 1 (i' := 6) (ls' := [_, _]) (st' := [_]) rfl ?_
  refine Ev.getR (j := 0) e_X5_beginAsAtFirst rfl rfl hL rfl rfl ?_
  refine Ev.sn e_X5_beginAsAtFirst 1 (i' := 8) (ls' := [_, _]) (st' := [_, _]) rfl ?_
  refine Ev.gst e_X5_beginAsAtFirst rfl rfl ?_
  refine Ev.sn e_X5_beginAsAtFirst 1 (i' := 10) (ls' := [_, _]) (st' := [_, _, _, _]) rfl ?_
  refine Ev.sald0 e_X5_beginAsAtFirst rfl rfl rfl ?_
  refine Ev.iastR (j := 1) e_X5_beginAsAtFirst rfl rfl hL rfl (m := 0) rfl (by decide) (by decide) (blk' := [.inr (5, [.ref (L + 1), .ref (L + 2), .int 0, .ref (L + 3), .ref (L + 4), .ref (L + 5), .ref (L + 6), .int 0, .ref (L + 7), .ref (L + 8), .int 0, .ref (L + 9), .ref (L + 10), .ref (L + 11), .ref (L + 12)]), .inl (0, 3, .inl (upd z0 0 (low0 0))), .inl (0, 3, .inl z0), .inl (0, 6, .inl z0), .inl (0, 6, .inl z0), .inl (0, 6, .inl z0), .inl (0, 6, .inl z0), .inl (0, 5, .inl z0), .inl (0, 5, .inl z0), .inl (0, 3, .inl z0), .inl (0, 3, .inl z0), .inl (0, 3, .inl z0), .inl (0, 3, .inl z0)]) rfl ?_
  refine Ev.sn e_X5_beginAsAtFirst 1 (i' := 13) (ls' := [_, _]) (st' := [_]) rfl ?_
  refine Ev.getR (j := 0) e_X5_beginAsAtFirst rfl rfl hL rfl rfl ?_
  refine Ev.sn e_X5_beginAsAtFirst 1 (i' := 15) (ls' := [_, _]) (st' := [_, _]) rfl ?_
  refine Ev.gst e_X5_beginAsAtFirst rfl rfl ?_
  refine Ev.sn e_X5_beginAsAtFirst 1 (i' := 17) (ls' := [_, _]) (st' := [_, _, _, _]) rfl ?_
  refine Ev.sald1 e_X5_beginAsAtFirst rfl rfl rfl ?_
  refine Ev.iastR (j := 2) e_X5_beginAsAtFirst rfl rfl hL rfl (m := 0) rfl (by decide) (by decide) (blk' := [.inr (5, [.ref (L + 1), .ref (L + 2), .int 0, .ref (L + 3), .ref (L + 4), .ref (L + 5), .ref (L + 6), .int 0, .ref (L + 7), .ref (L + 8), .int 0, .ref (L + 9), .ref (L + 10), .ref (L + 11), .ref (L + 12)]), .inl (0, 3, .inl (upd z0 0 (low0 0))), .inl (0, 3, .inl (upd z0 0 (high0 0))), .inl (0, 6, .inl z0), .inl (0, 6, .inl z0), .inl (0, 6, .inl z0), .inl (0, 6, .inl z0), .inl (0, 5, .inl z0), .inl (0, 5, .inl z0), .inl (0, 3, .inl z0), .inl (0, 3, .inl z0), .inl (0, 3, .inl z0), .inl (0, 3, .inl z0)]) rfl ?_
  refine Ev.sn e_X5_beginAsAtFirst 2 (i' := 2) (ls' := [_, _]) (st' := []) rfl ?_
  refine Ev.sn e_X5_beginAsAtFirst 2 (i' := 4) (ls' := [_, _]) (st' := [_, _]) rfl ?_
  refine Ev.brF (i1 := 21) (i2 := 5) e_X5_beginAsAtFirst rfl rfl (by decide) ?_
  refine Ev.sn e_X5_beginAsAtFirst 1 (i' := 6) (ls' := [_, _]) (st' := [_]) rfl ?_
  refine Ev.getR (j := 0) e_X5_beginAsAtFirst rfl rfl hL rfl rfl ?_
  refine Ev.sn e_X5_beginAsAtFirst 1 (i' := 8) (ls' := [_, _]) (st' := [_, _]) rfl ?_
  refine Ev.gst e_X5_beginAsAtFirst rfl rfl ?_
  refine Ev.sn e_X5_beginAsAtFirst 1 (i' := 10) (ls' := [_, _]) (st' := [_, _, _, _]) rfl ?_
  refine Ev.sald0 e_X5_beginAsAtFirst rfl rfl rfl ?_
  refine Ev.iastR (j := 1) e_X5_beginAsAtFirst rfl rfl hL rfl (m := 1) rfl (by decide) (by decide) (blk' := [.inr (5, [.ref (L + 1), .ref (L + 2), .int 0, .ref (L + 3), .ref (L + 4), .ref (L + 5), .ref (L + 6), .int 0, .ref (L + 7), .ref (L + 8), .int 0, .ref (L + 9), .ref (L + 10), .ref (L + 11), .ref (L + 12)]), .inl (0, 3, .inl (upd (upd z0 0 (low0 0)) 1 (low0 1))), .inl (0, 3, .inl (upd z0 0 (high0 0))), .inl (0, 6, .inl z0), .inl (0, 6, .inl z0), .inl (0, 6, .inl z0), .inl (0, 6, .inl z0), .inl (0, 5, .inl z0), .inl (0, 5, .inl z0), .inl (0, 3, .inl z0), .inl (0, 3, .inl z0), .inl (0, 3, .inl z0), .inl (0, 3, .inl z0)]) rfl ?_
  refine Ev.sn e_X5_beginAsAtFirst 1 (i' := 13) (ls' := [_, _]) (st' := [_]) rfl ?_
  refine Ev.getR (j := 0) e_X5_beginAsAtFirst rfl rfl hL rfl rfl ?_
  refine Ev.sn e_X5_beginAsAtFirst 1 (i' := 15) (ls' := [_, _]) (st' := [_, _]) rfl ?_
  refine Ev.gst e_X5_beginAsAtFirst rfl rfl ?_
  refine Ev.sn e_X5_beginAsAtFirst 1 (i' := 17) (ls' := [_, _]) (st' := [_, _, _, _]) rfl ?_
  refine Ev.sald1 e_X5_beginAsAtFirst rfl rfl rfl ?_
  refine Ev.iastR (j := 2) e_X5_beginAsAtFirst rfl rfl hL rfl (m := 1) rfl (by decide) (by decide) (blk' := [.inr (5, [.ref (L + 1), .ref (L + 2), .int 0, .ref (L + 3), .ref (L + 4), .ref (L + 5), .ref (L + 6), .int 0, .ref (L + 7), .ref (L + 8), .int 0, .ref (L + 9), .ref (L + 10), .ref (L + 11), .ref (L + 12)]), .inl (0, 3, .inl (upd (upd z0 0 (low0 0)) 1 (low0 1))), .inl (0, 3, .inl (upd (upd z0 0 (high0 0)) 1 (high0 1))), .inl (0, 6, .inl z0), .inl (0, 6, .inl z0), .inl (0, 6, .inl z0), .inl (0, 6, .inl z0), .inl (0, 5, .inl z0), .inl (0, 5, .inl z0), .inl (0, 3, .inl z0), .inl (0, 3, .inl z0), .inl (0, 3, .inl z0), .inl (0, 3, .inl z0)]) rfl ?_
  refine Ev.sn e_X5_beginAsAtFirst 2 (i' := 2) (ls' := [_, _]) (st' := []) rfl ?_
  refine Ev.sn e_X5_beginAsAtFirst 2 (i' := 4) (ls' := [_, _]) (st' := [_, _]) rfl ?_
  refine Ev.brF (i1 := 21) (i2 := 5) e_X5_beginAsAtFirst rfl rfl (by decide) ?_
  refine Ev.sn e_X5_beginAsAtFirst 1 (i' := 6) (ls' := [_, _]) (st' := [_]) rfl ?_
  refine Ev.getR (j := 0) e_X5_beginAsAtFirst rfl rfl hL rfl rfl ?_
  refine Ev.sn e_X5_beginAsAtFirst 1 (i' := 8) (ls' := [_, _]) (st' := [_, _]) rfl ?_
  refine Ev.gst e_X5_beginAsAtFirst rfl rfl ?_
  refine Ev.sn e_X5_beginAsAtFirst 1 (i' := 10) (ls' := [_, _]) (st' := [_, _, _, _]) rfl ?_
  refine Ev.sald0 e_X5_beginAsAtFirst rfl rfl rfl ?_
  refine Ev.iastR (j := 1) e_X5_beginAsAtFirst rfl rfl hL rfl (m := 2) rfl (by decide) (by decide) (blk' := [.inr (5, [.ref (L + 1), .ref (L + 2), .int 0, .ref (L + 3), .ref (L + 4), .ref (L + 5), .ref (L + 6), .int 0, .ref (L + 7), .ref (L + 8), .int 0, .ref (L + 9), .ref (L + 10), .ref (L + 11), .ref (L + 12)]), .inl (0, 3, .inl (upd (upd (upd z0 0 (low0 0)) 1 (low0 1)) 2 (low0 2))), .inl (0, 3, .inl (upd (upd z0 0 (high0 0)) 1 (high0 1))), .inl (0, 6, .inl z0), .inl (0, 6, .inl z0), .inl (0, 6, .inl z0), .inl (0, 6, .inl z0), .inl (0, 5, .inl z0), .inl (0, 5, .inl z0), .inl (0, 3, .inl z0), .inl (0, 3, .inl z0), .inl (0, 3, .inl z0), .inl (0, 3, .inl z0)]) rfl ?_
  refine Ev.sn e_X5_beginAsAtFirst 1 (i' := 13) (ls' := [_, _]) (st' := [_]) rfl ?_
  refine Ev.getR (j := 0) e_X5_beginAsAtFirst rfl rfl hL rfl rfl ?_
  refine Ev.sn e_X5_beginAsAtFirst 1 (i' := 15) (ls' := [_, _]) (st' := [_, _]) rfl ?_
  refine Ev.gst e_X5_beginAsAtFirst rfl rfl ?_
  refine Ev.sn e_X5_beginAsAtFirst 1 (i' := 17) (ls' := [_, _]) (st' := [_, _, _, _]) rfl ?_
  refine Ev.sald1 e_X5_beginAsAtFirst rfl rfl rfl ?_
  refine Ev.iastR (j := 2) e_X5_beginAsAtFirst rfl rfl hL rfl (m := 2) rfl (by decide) (by decide) (blk' := [.inr (5, [.ref (L + 1), .ref (L + 2), .int 0, .ref (L + 3), .ref (L + 4), .ref (L + 5), .ref (L + 6), .int 0, .ref (L + 7), .ref (L + 8), .int 0, .ref (L + 9), .ref (L + 10), .ref (L + 11), .ref (L + 12)]), .inl (0, 3, .inl (upd (upd (upd z0 0 (low0 0)) 1 (low0 1)) 2 (low0 2))), .inl (0, 3, .inl (upd (upd (upd z0 0 (high0 0)) 1 (high0 1)) 2 (high0 2))), .inl (0, 6, .inl z0), .inl (0, 6, .inl z0), .inl (0, 6, .inl z0), .inl (0, 6, .inl z0), .inl (0, 5, .inl z0), .inl (0, 5, .inl z0), .inl (0, 3, .inl z0), .inl (0, 3, .inl z0), .inl (0, 3, .inl z0), .inl (0, 3, .inl z0)]) rfl ?_
  refine Ev.sn e_X5_beginAsAtFirst 2 (i' := 2) (ls' := [_, _]) (st' := []) rfl ?_
  refine Ev.sn e_X5_beginAsAtFirst 2 (i' := 4) (ls' := [_, _]) (st' := [_, _]) rfl ?_
  refine Ev.brT (i1 := 21) (i2 := 5) e_X5_beginAsAtFirst rfl rfl (by decide) ?_
  refine Ev.sn e_X5_beginAsAtFirst 2 (i' := 23) (ls' := [_, _]) (st' := [_, _]) rfl ?_
  refine Ev.putR (j := 0) e_X5_beginAsAtFirst rfl rfl hL rfl rfl rfl rfl (blk' := [.inr (5, [.ref (L + 1), .ref (L + 2), .int 0, .ref (L + 3), .ref (L + 4), .ref (L + 5), .ref (L + 6), .int 0, .ref (L + 7), .ref (L + 8), .int 0, .ref (L + 9), .ref (L + 10), .ref (L + 11), .ref (L + 12)]), .inl (0, 3, .inl (upd (upd (upd z0 0 (low0 0)) 1 (low0 1)) 2 (low0 2))), .inl (0, 3, .inl (upd (upd (upd z0 0 (high0 0)) 1 (high0 1)) 2 (high0 2))), .inl (0, 6, .inl z0), .inl (0, 6, .inl z0), .inl (0, 6, .inl z0), .inl (0, 6, .inl z0), .inl (0, 5, .inl z0), .inl (0, 5, .inl z0), .inl (0, 3, .inl z0), .inl (0, 3, .inl z0), .inl (0, 3, .inl z0), .inl (0, 3, .inl z0)]) rfl ?_
  refine Ev.sn e_X5_beginAsAtFirst 2 (i' := 26) (ls' := [_, _]) (st' := [_, _]) rfl ?_
  refine Ev.putR (j := 0) e_X5_beginAsAtFirst rfl rfl hL rfl rfl rfl rfl (blk' := [.inr (5, [.ref (L + 1), .ref (L + 2), .int 0, .ref (L + 3), .ref (L + 4), .ref (L + 5), .ref (L + 6), .int 0, .ref (L + 7), .ref (L + 8), .int 0, .ref (L + 9), .ref (L + 10), .ref (L + 11), .ref (L + 12)]), .inl (0, 3, .inl (upd (upd (upd z0 0 (low0 0)) 1 (low0 1)) 2 (low0 2))), .inl (0, 3, .inl (upd (upd (upd z0 0 (high0 0)) 1 (high0 1)) 2 (high0 2))), .inl (0, 6, .inl z0), .inl (0, 6, .inl z0), .inl (0, 6, .inl z0), .inl (0, 6, .inl z0), .inl (0, 5, .inl z0), .inl (0, 5, .inl z0), .inl (0, 3, .inl z0), .inl (0, 3, .inl z0), .inl (0, 3, .inl z0), .inl (0, 3, .inl z0)]) rfl ?_
  refine Ev.sn e_X5_beginAsAtFirst 2 (i' := 29) (ls' := [_, _]) (st' := [_, _]) rfl ?_
  refine Ev.putR (j := 0) e_X5_beginAsAtFirst rfl rfl hL rfl rfl rfl rfl (blk' := [.inr (5, [.ref (L + 1), .ref (L + 2), .int 0, .ref (L + 3), .ref (L + 4), .ref (L + 5), .ref (L + 6), .int 0, .ref (L + 7), .ref (L + 8), .int 0, .ref (L + 9), .ref (L + 10), .ref (L + 11), .ref (L + 12)]), .inl (0, 3, .inl (upd (upd (upd z0 0 (low0 0)) 1 (low0 1)) 2 (low0 2))), .inl (0, 3, .inl (upd (upd (upd z0 0 (high0 0)) 1 (high0 1)) 2 (high0 2))), .inl (0, 6, .inl z0), .inl (0, 6, .inl z0), .inl (0, 6, .inl z0), .inl (0, 6, .inl z0), .inl (0, 5, .inl z0), .inl (0, 5, .inl z0), .inl (0, 3, .inl z0), .inl (0, 3, .inl z0), .inl (0, 3, .inl z0), .inl (0, 3, .inl z0)]) rfl ?_
  exact Ev.vret e_X5_beginAsAtFirst rfl rfl rfl
set_option maxRecDepth 20000 in
set_option maxHeartbeats 200000 in
theorem c_X5_init (d : Nat) (pre : AW) {L : Nat} (hL : pre.length = L) (hb : L < 980) : Ev (d + 1) 42 0 [.ref L] [] (pre ++ [.inr (5, [.null, .null, .int 0, .null, .null, .null, .null, .int 0, .null, .null, .int 0, .null, .null, .null, .null])]) none (pre ++ taleB L) := by
  refine Ev.sn e_X5_init 1 (i' := 1) (ls' := [_]) (st' := [_]) rfl ?_
  refine Ev.oini e_X5_init rfl rfl rfl ?_
  refine Ev.sn e_X5_init 2 (i' := 4) (ls' := [_]) (st' := [_, _]) rfl ?_
  refine Ev.newaR e_X5_init rfl rfl (m := 3) rfl hL (kk := 1) rfl (by omega) (by omega) (blk' := [.inr (5, [.null, .null, .int 0, .null, .null, .null, .null, .int 0, .null, .null, .int 0, .null, .null, .null, .null]), .inl (0, 3, .inl z0)]) rfl ?_
  refine Ev.putR (j := 0) e_X5_init rfl rfl hL rfl rfl rfl rfl (blk' := [.inr (5, [.ref (L + 1), .null, .int 0, .null, .null, .null, .null, .int 0, .null, .null, .int 0, .null, .null, .null, .null]), .inl (0, 3, .inl z0)]) rfl ?_
  refine Ev.sn e_X5_init 2 (i' := 8) (ls' := [_]) (st' := [_, _]) rfl ?_
  refine Ev.newaR e_X5_init rfl rfl (m := 3) rfl hL (kk := 2) rfl (by omega) (by omega) (blk' := [.inr (5, [.ref (L + 1), .null, .int 0, .null, .null, .null, .null, .int 0, .null, .null, .int 0, .null, .null, .null, .null]), .inl (0, 3, .inl z0), .inl (0, 3, .inl z0)]) rfl ?_
  refine Ev.putR (j := 0) e_X5_init rfl rfl hL rfl rfl rfl rfl (blk' := [.inr (5, [.ref (L + 1), .ref (L + 2), .int 0, .null, .null, .null, .null, .int 0, .null, .null, .int 0, .null, .null, .null, .null]), .inl (0, 3, .inl z0), .inl (0, 3, .inl z0)]) rfl ?_
  refine Ev.sn e_X5_init 2 (i' := 12) (ls' := [_]) (st' := [_, _]) rfl ?_
  refine Ev.newaR e_X5_init rfl rfl (m := 6) rfl hL (kk := 3) rfl (by omega) (by omega) (blk' := [.inr (5, [.ref (L + 1), .ref (L + 2), .int 0, .null, .null, .null, .null, .int 0, .null, .null, .int 0, .null, .null, .null, .null]), .inl (0, 3, .inl z0), .inl (0, 3, .inl z0), .inl (0, 6, .inl z0)]) rfl ?_
  refine Ev.putR (j := 0) e_X5_init rfl rfl hL rfl rfl rfl rfl (blk' := [.inr (5, [.ref (L + 1), .ref (L + 2), .int 0, .ref (L + 3), .null, .null, .null, .int 0, .null, .null, .int 0, .null, .null, .null, .null]), .inl (0, 3, .inl z0), .inl (0, 3, .inl z0), .inl (0, 6, .inl z0)]) rfl ?_
  refine Ev.sn e_X5_init 2 (i' := 16) (ls' := [_]) (st' := [_, _]) rfl ?_
  refine Ev.newaR e_X5_init rfl rfl (m := 6) rfl hL (kk := 4) rfl (by omega) (by omega) (blk' := [.inr (5, [.ref (L + 1), .ref (L + 2), .int 0, .ref (L + 3), .null, .null, .null, .int 0, .null, .null, .int 0, .null, .null, .null, .null]), .inl (0, 3, .inl z0), .inl (0, 3, .inl z0), .inl (0, 6, .inl z0), .inl (0, 6, .inl z0)]) rfl ?_
  refine Ev.putR (j := 0) e_X5_init rfl rfl hL rfl rfl rfl rfl (blk' := [.inr (5, [.ref (L + 1), .ref (L + 2), .int 0, .ref (L + 3), .ref (L + 4), .null, .null, .int 0, .null, .null, .int 0, .null, .null, .null, .null]), .inl (0, 3, .inl z0), .inl (0, 3, .inl z0), .inl (0, 6, .inl z0), .inl (0, 6, .inl z0)]) rfl ?_
  refine Ev.sn e_X5_init 2 (i' := 20) (ls' := [_]) (st' := [_, _]) rfl ?_
  refine Ev.newaR e_X5_init rfl rfl (m := 6) rfl hL (kk := 5) rfl (by omega) (by omega) (blk' := [.inr (5, [.ref (L + 1), .ref (L + 2), .int 0, .ref (L + 3), .ref (L + 4), .null, .null, .int 0, .null, .null, .int 0, .null, .null, .null, .null]), .inl (0, 3, .inl z0), .inl (0, 3, .inl z0), .inl (0, 6, .inl z0), .inl (0, 6, .inl z0), .inl (0, 6, .inl z0)]) rfl ?_
  refine Ev.putR (j := 0) e_X5_init rfl rfl hL rfl rfl rfl rfl (blk' := [.inr (5, [.ref (L + 1), .ref (L + 2), .int 0, .ref (L + 3), .ref (L + 4), .ref (L + 5), .null, .int 0, .null, .null, .int 0, .null, .null, .null, .null]), .inl (0, 3, .inl z0), .inl (0, 3, .inl z0), .inl (0, 6, .inl z0), .inl (0, 6, .inl z0), .inl (0, 6, .inl z0)]) rfl ?_
  refine Ev.sn e_X5_init 2 (i' := 24) (ls' := [_]) (st' := [_, _]) rfl ?_
  refine Ev.newaR e_X5_init rfl rfl (m := 6) rfl hL (kk := 6) rfl (by omega) (by omega) (blk' := [.inr (5, [.ref (L + 1), .ref (L + 2), .int 0, .ref (L + 3), .ref (L + 4), .ref (L + 5), .null, .int 0, .null, .null, .int 0, .null, .null, .null, .null]), .inl (0, 3, .inl z0), .inl (0, 3, .inl z0), .inl (0, 6, .inl z0), .inl (0, 6, .inl z0), .inl (0, 6, .inl z0), .inl (0, 6, .inl z0)]) rfl ?_
  refine Ev.putR (j := 0) e_X5_init rfl rfl hL rfl rfl rfl rfl (blk' := [.inr (5, [.ref (L + 1), .ref (L + 2), .int 0, .ref (L + 3), .ref (L + 4), .ref (L + 5), .ref (L + 6), .int 0, .null, .null, .int 0, .null, .null, .null, .null]), .inl (0, 3, .inl z0), .inl (0, 3, .inl z0), .inl (0, 6, .inl z0), .inl (0, 6, .inl z0), .inl (0, 6, .inl z0), .inl (0, 6, .inl z0)]) rfl ?_
  refine Ev.sn e_X5_init 2 (i' := 28) (ls' := [_]) (st' := [_, _]) rfl ?_
  refine Ev.newaR e_X5_init rfl rfl (m := 5) rfl hL (kk := 7) rfl (by omega) (by omega) (blk' := [.inr (5, [.ref (L + 1), .ref (L + 2), .int 0, .ref (L + 3), .ref (L + 4), .ref (L + 5), .ref (L + 6), .int 0, .null, .null, .int 0, .null, .null, .null, .null]), .inl (0, 3, .inl z0), .inl (0, 3, .inl z0), .inl (0, 6, .inl z0), .inl (0, 6, .inl z0), .inl (0, 6, .inl z0), .inl (0, 6, .inl z0), .inl (0, 5, .inl z0)]) rfl ?_
  refine Ev.putR (j := 0) e_X5_init rfl rfl hL rfl rfl rfl rfl (blk' := [.inr (5, [.ref (L + 1), .ref (L + 2), .int 0, .ref (L + 3), .ref (L + 4), .ref (L + 5), .ref (L + 6), .int 0, .ref (L + 7), .null, .int 0, .null, .null, .null, .null]), .inl (0, 3, .inl z0), .inl (0, 3, .inl z0), .inl (0, 6, .inl z0), .inl (0, 6, .inl z0), .inl (0, 6, .inl z0), .inl (0, 6, .inl z0), .inl (0, 5, .inl z0)]) rfl ?_
  refine Ev.sn e_X5_init 2 (i' := 32) (ls' := [_]) (st' := [_, _]) rfl ?_
  refine Ev.newaR e_X5_init rfl rfl (m := 5) rfl hL (kk := 8) rfl (by omega) (by omega) (blk' := [.inr (5, [.ref (L + 1), .ref (L + 2), .int 0, .ref (L + 3), .ref (L + 4), .ref (L + 5), .ref (L + 6), .int 0, .ref (L + 7), .null, .int 0, .null, .null, .null, .null]), .inl (0, 3, .inl z0), .inl (0, 3, .inl z0), .inl (0, 6, .inl z0), .inl (0, 6, .inl z0), .inl (0, 6, .inl z0), .inl (0, 6, .inl z0), .inl (0, 5, .inl z0), .inl (0, 5, .inl z0)]) rfl ?_
  refine Ev.putR (j := 0) e_X5_init rfl rfl hL rfl rfl rfl rfl (blk' := [.inr (5, [.ref (L + 1), .ref (L + 2), .int 0, .ref (L + 3), .ref (L + 4), .ref (L + 5), .ref (L + 6), .int 0, .ref (L + 7), .ref (L + 8), .int 0, .null, .null, .null, .null]), .inl (0, 3, .inl z0), .inl (0, 3, .inl z0), .inl (0, 6, .inl z0), .inl (0, 6, .inl z0), .inl (0, 6, .inl z0), .inl (0, 6, .inl z0), .inl (0, 5, .inl z0), .inl (0, 5, .inl z0)]) rfl ?_
  refine Ev.sn e_X5_init 2 (i' := 36) (ls' := [_]) (st' := [_, _]) rfl ?_
  refine Ev.newaR e_X5_init rfl rfl (m := 3) rfl hL (kk := 9) rfl (by omega) (by omega) (blk' := [.inr (5, [.ref (L + 1), .ref (L + 2), .int 0, .ref (L + 3), .ref (L + 4), .ref (L + 5), .ref (L + 6), .int 0, .ref (L + 7), .ref (L + 8), .int 0, .null, .null, .null, .null]), .inl (0, 3, .inl z0), .inl (0, 3, .inl z0), .inl (0, 6, .inl z0), .inl (0, 6, .inl z0), .inl (0, 6, .inl z0), .inl (0, 6, .inl z0), .inl (0, 5, .inl z0), .inl (0, 5, .inl z0), .inl (0, 3, .inl z0)]) rfl ?_
  refine Ev.putR (j := 0) e_X5_init rfl rfl hL rfl rfl rfl rfl (blk' := [.inr (5, [.ref (L + 1), .ref (L + 2), .int 0, .ref (L + 3), .ref (L + 4), .ref (L + 5), .ref (L + 6), .int 0, .ref (L + 7), .ref (L + 8), .int 0, .ref (L + 9), .null, .null, .null]), .inl (0, 3, .inl z0), .inl (0, 3, .inl z0), .inl (0, 6, .inl z0), .inl (0, 6, .inl z0), .inl (0, 6, .inl z0), .inl (0, 6, .inl z0), .inl (0, 5, .inl z0), .inl (0, 5, .inl z0), .inl (0, 3, .inl z0)]) rfl ?_
  refine Ev.sn e_X5_init 2 (i' := 40) (ls' := [_]) (st' := [_, _]) rfl ?_
  refine Ev.newaR e_X5_init rfl rfl (m := 3) rfl hL (kk := 10) rfl (by omega) (by omega) (blk' := [.inr (5, [.ref (L + 1), .ref (L + 2), .int 0, .ref (L + 3), .ref (L + 4), .ref (L + 5), .ref (L + 6), .int 0, .ref (L + 7), .ref (L + 8), .int 0, .ref (L + 9), .null, .null, .null]), .inl (0, 3, .inl z0), .inl (0, 3, .inl z0), .inl (0, 6, .inl z0), .inl (0, 6, .inl z0), .inl (0, 6, .inl z0), .inl (0, 6, .inl z0), .inl (0, 5, .inl z0), .inl (0, 5, .inl z0), .inl (0, 3, .inl z0), .inl (0, 3, .inl z0)]) rfl ?_
  refine Ev.putR (j := 0) e_X5_init rfl rfl hL rfl rfl rfl rfl (blk' := [.inr (5, [.ref (L + 1), .ref (L + 2), .int 0, .ref (L + 3), .ref (L + 4), .ref (L + 5), .ref (L + 6), .int 0, .ref (L + 7), .ref (L + 8), .int 0, .ref (L + 9), .ref (L + 10), .null, .null]), .inl (0, 3, .inl z0), .inl (0, 3, .inl z0), .inl (0, 6, .inl z0), .inl (0, 6, .inl z0), .inl (0, 6, .inl z0), .inl (0, 6, .inl z0), .inl (0, 5, .inl z0), .inl (0, 5, .inl z0), .inl (0, 3, .inl z0), .inl (0, 3, .inl z0)]) rfl ?_
  refine Ev.sn e_X5_init 2 (i' := 44) (ls' := [_]) (st' := [_, _]) rfl ?_
  refine Ev.newaR e_X5_init rfl rfl (m := 3) rfl hL (kk := 11) rfl (by omega) (by omega) (blk' := [.inr (5, [.ref (L + 1), .ref (L + 2), .int 0, .ref (L + 3), .ref (L + 4), .ref (L + 5), .ref (L + 6), .int 0, .ref (L + 7), .ref (L + 8), .int 0, .ref (L + 9), .ref (L + 10), .null, .null]), .inl (0, 3, .inl z0), .inl (0, 3, .inl z0), .inl (0, 6, .inl z0), .inl (0, 6, .inl z0), .inl (0, 6, .inl z0), .inl (0, 6, .inl z0), .inl (0, 5, .inl z0), .inl (0, 5, .inl z0), .inl (0, 3, .inl z0), .inl (0, 3, .inl z0), .inl (0, 3, .inl z0)]) rfl ?_
  refine Ev.putR (j := 0) e_X5_init rfl rfl hL rfl rfl rfl rfl (blk' := [.inr (5, [.ref (L + 1), .ref (L + 2), .int 0, .ref (L + 3), .ref (L + 4), .ref (L + 5), .ref (L + 6), .int 0, .ref (L + 7), .ref (L + 8), .int 0, .ref (L + 9), .ref (L + 10), .ref (L + 11), .null]), .inl (0, 3, .inl z0), .inl (0, 3, .inl z0), .inl (0, 6, .inl z0), .inl (0, 6, .inl z0), .inl (0, 6, .inl z0), .inl (0, 6, .inl z0), .inl (0, 5, .inl z0), .inl (0, 5, .inl z0), .inl (0, 3, .inl z0), .inl (0, 3, .inl z0), .inl (0, 3, .inl z0)]) rfl ?_
  refine Ev.sn e_X5_init 2 (i' := 48) (ls' := [_]) (st' := [_, _]) rfl ?_
  refine Ev.newaR e_X5_init rfl rfl (m := 3) rfl hL (kk := 12) rfl (by omega) (by omega) (blk' := [.inr (5, [.ref (L + 1), .ref (L + 2), .int 0, .ref (L + 3), .ref (L + 4), .ref (L + 5), .ref (L + 6), .int 0, .ref (L + 7), .ref (L + 8), .int 0, .ref (L + 9), .ref (L + 10), .ref (L + 11), .null]), .inl (0, 3, .inl z0), .inl (0, 3, .inl z0), .inl (0, 6, .inl z0), .inl (0, 6, .inl z0), .inl (0, 6, .inl z0), .inl (0, 6, .inl z0), .inl (0, 5, .inl z0), .inl (0, 5, .inl z0), .inl (0, 3, .inl z0), .inl (0, 3, .inl z0), .inl (0, 3, .inl z0), .inl (0, 3, .inl z0)]) rfl ?_
  refine Ev.putR (j := 0) e_X5_init rfl rfl hL rfl rfl rfl rfl (blk' := [.inr (5, [.ref (L + 1), .ref (L + 2), .int 0, .ref (L + 3), .ref (L + 4), .ref (L + 5), .ref (L + 6), .int 0, .ref (L + 7), .ref (L + 8), .int 0, .ref (L + 9), .ref (L + 10), .ref (L + 11), .ref (L + 12)]), .inl (0, 3, .inl z0), .inl (0, 3, .inl z0), .inl (0, 6, .inl z0), .inl (0, 6, .inl z0), .inl (0, 6, .inl z0), .inl (0, 6, .inl z0), .inl (0, 5, .inl z0), .inl (0, 5, .inl z0), .inl (0, 3, .inl z0), .inl (0, 3, .inl z0), .inl (0, 3, .inl z0), .inl (0, 3, .inl z0)]) rfl ?_
  refine Ev.sn e_X5_init 1 (i' := 51) (ls' := [_]) (st' := [_]) rfl ?_
  have hA := c_X5_beg d pre hL hb
  refine Ev.clV (as := []) (k := L + 0) e_X5_init rfl rfl rfl rfl (rg hL rfl) kl_X5_beginAsAtFirst rfl rfl rfl hA rfl ?_
  exact Ev.vret e_X5_init rfl rfl rfl
def textB (L : Nat) : AW := [.inr (6, [.ref (L + 1), .int 0, .ref (L + 2), .int 0, .int 0, .int 0, .int 0, .int 0, .int 0]), .inl (2, 200, .inl z0)] ++ taleB (L + 2)
set_option maxRecDepth 20000 in
set_option maxHeartbeats 200000 in
theorem c_X6_init (d : Nat) (pre : AW) {L : Nat} (hL : pre.length = L) (hb : L < 970) : Ev (d + 2) 44 0 [.ref L] [] (pre ++ [.inr (6, [.null, .int 0, .null, .int 0, .int 0, .int 0, .int 0, .int 0, .int 0])]) none (pre ++ textB L) := by
  refine Ev.sn e_X6_init 1 (i' := 1) (ls' := [_]) (st' := [_]) rfl ?_
  refine Ev.oini e_X6_init rfl rfl rfl ?_
  refine Ev.sn e_X6_init 2 (i' := 4) (ls' := [_]) (st' := [_, _]) rfl ?_
  refine Ev.newaR e_X6_init rfl rfl (m := 200) rfl hL (kk := 1) rfl (by omega) (by omega) (blk' := [.inr (6, [.null, .int 0, .null, .int 0, .int 0, .int 0, .int 0, .int 0, .int 0]), .inl (2, 200, .inl z0)]) rfl ?_
  refine Ev.putR (j := 0) e_X6_init rfl rfl hL rfl rfl rfl rfl (blk' := [.inr (6, [.ref (L + 1), .int 0, .null, .int 0, .int 0, .int 0, .int 0, .int 0, .int 0]), .inl (2, 200, .inl z0)]) rfl ?_
  refine Ev.sn e_X6_init 1 (i' := 7) (ls' := [_]) (st' := [_]) rfl ?_
  refine Ev.newoR e_X6_init rfl rfl hL (kk := 2) rfl (by omega) (blk' := [.inr (6, [.ref (L + 1), .int 0, .null, .int 0, .int 0, .int 0, .int 0, .int 0, .int 0]), .inl (2, 200, .inl z0), .inr (5, [.null, .null, .int 0, .null, .null, .null, .null, .int 0, .null, .null, .int 0, .null, .null, .null, .null])]) rfl ?_
  refine Ev.sn e_X6_init 1 (i' := 9) (ls' := [_]) (st' := [_, _, _]) rfl ?_
  refine Ev.clR (bp := [.inr (6, [.ref (L + 1), .int 0, .null, .int 0, .int 0, .int 0, .int 0, .int 0, .int 0]), .inl (2, 200, .inl z0)]) (B := [.inr (5, [.null, .null, .int 0, .null, .null, .null, .null, .int 0, .null, .null, .int 0, .null, .null, .null, .null])]) (B' := taleB (L + 2)) e_X6_init rfl rfl rfl rfl rfl rfl (c_X5_init d _ (lenR hL (k := 2) rfl rfl) (by omega)) rfl rfl ?_
  refine Ev.putR (j := 0) e_X6_init rfl rfl hL rfl rfl rfl rfl (blk' := [.inr (6, [.ref (L + 1), .int 0, .ref (L + 2), .int 0, .int 0, .int 0, .int 0, .int 0, .int 0]), .inl (2, 200, .inl z0)] ++ taleB (L + 2)) rfl ?_
  exact Ev.vret e_X6_init rfl rfl rfl
def housB (L : Nat) : AW := [.inr (2, [.ref (L + 1), .ref (L + 14)])] ++ taleB (L + 1) ++ nowB (L + 14)
set_option maxRecDepth 20000 in
set_option maxHeartbeats 200000 in
theorem c_X2_init (d : Nat) (pre : AW) {L : Nat} (hL : pre.length = L) (hb : L < 960) : Ev (d + 2) 13 0 [.ref L] [] (pre ++ [.inr (2, [.null, .null])]) none (pre ++ housB L) := by
  refine Ev.sn e_X2_init 1 (i' := 1) (ls' := [_]) (st' := [_]) rfl ?_
  refine Ev.oini e_X2_init rfl rfl rfl ?_
  refine Ev.sn e_X2_init 1 (i' := 3) (ls' := [_]) (st' := [_]) rfl ?_
  refine Ev.newoR e_X2_init rfl rfl hL (kk := 1) rfl (by omega) (blk' := [.inr (2, [.null, .null]), .inr (5, [.null, .null, .int 0, .null, .null, .null, .null, .int 0, .null, .null, .int 0, .null, .null, .null, .null])]) rfl ?_
  refine Ev.sn e_X2_init 1 (i' := 5) (ls' := [_]) (st' := [_, _, _]) rfl ?_
  refine Ev.clR (bp := [.inr (2, [.null, .null])]) (B := [.inr (5, [.null, .null, .int 0, .null, .null, .null, .null, .int 0, .null, .null, .int 0, .null, .null, .null, .null])]) (B' := taleB (L + 1)) e_X2_init rfl rfl rfl rfl rfl rfl (c_X5_init d _ (lenR hL (k := 1) rfl rfl) (by omega)) rfl rfl ?_
  refine Ev.putR (j := 0) e_X2_init rfl rfl hL rfl rfl rfl rfl (blk' := [.inr (2, [.ref (L + 1), .null])] ++ taleB (L + 1)) rfl ?_
  refine Ev.sn e_X2_init 1 (i' := 8) (ls' := [_]) (st' := [_]) rfl ?_
  refine Ev.newoR e_X2_init rfl rfl hL (kk := 14) rfl (by omega) (blk' := [.inr (2, [.ref (L + 1), .null])] ++ taleB (L + 1) ++ [.inr (4, [.null, .null, .null])]) rfl ?_
  refine Ev.sn e_X2_init 1 (i' := 10) (ls' := [_]) (st' := [_, _, _]) rfl ?_
  refine Ev.clR (bp := [.inr (2, [.ref (L + 1), .null])] ++ taleB (L + 1)) (B := [.inr (4, [.null, .null, .null])]) (B' := nowB (L + 14)) e_X2_init rfl rfl rfl rfl rfl rfl (c_X4_init d _ (lenR hL (k := 14) rfl rfl) (by omega)) rfl rfl ?_
  refine Ev.putR (j := 0) e_X2_init rfl rfl hL rfl rfl rfl rfl (blk' := [.inr (2, [.ref (L + 1), .ref (L + 14)])] ++ taleB (L + 1) ++ nowB (L + 14)) rfl ?_
  exact Ev.vret e_X2_init rfl rfl rfl
def hF (L i : Nat) : Nat → Option Nat := fun j => if j < i then some (L + 2 + 4 * j) else none
def NBn (L : Nat) : Nat → AW
  | 0 => []
  | i + 1 => NBn L i ++ nowB (L + 2 + 4 * i)
theorem NBn_len (L : Nat) : ∀ i, (NBn L i).length = 4 * i
  | 0 => rfl
  | i + 1 => by
    show (NBn L i ++ nowB (L + 2 + 4 * i)).length = _
    rw [List.length_append, NBn_len L i]
    show 4 * i + 4 = _
    omega
def hisH (L i : Nat) : AW := [.inr (1, [.ref (L + 1), .int 0, .int 0]), .inl (3, 10, .inr (.inr (.inr (.inr (hF L i)))))]
def hisB (L : Nat) : AW := hisH L 10 ++ NBn L 10
theorem hF_s (L i : Nat) : va_up (hF L i) i (some (L + 2 + 4 * i)) = hF L (i + 1) := by
  funext j
  unfold va_up hF
  by_cases h : j = i
  · subst h
    rw [if_pos rfl, if_pos (by omega)]
  · rw [if_neg h]
    by_cases h2 : j < i
    · rw [if_pos h2, if_pos (by omega)]
    · rw [if_neg h2, if_neg (by omega)]
theorem hF_0 (L : Nat) : hF L 0 = fun _ => none := by
  funext j
  exact if_neg (by omega)
set_option maxRecDepth 20000 in
set_option maxHeartbeats 200000 in
theorem lp_X1_init (d : Nat) (pre : AW) {L : Nat} (hL : pre.length = L) (hb : L < 900) : ∀ (j i : Nat), i + j = 10 → Ev (d + 2) 8 8 [.ref L, .int (nI i)] [] (pre ++ (hisH L i ++ NBn L i)) none (pre ++ hisB L) := by
  intro j
  induction j with
  | zero =>
    intro i hi
    have e : i = 10 := by omega
    subst e
    refine Ev.sn e_X1_init 2 (i' := 10) (ls' := [_, _]) (st' := [_, _]) rfl ?_
    refine Ev.brT (i1 := 20) (i2 := 11) e_X1_init rfl rfl (by decide) ?_
    exact Ev.vret e_X1_init rfl rfl rfl
  | succ j ih =>
    intro i hi
    have hn := NBn_len L i
    have hk : (hisH L i ++ NBn L i).length = 2 + 4 * i := by rw [List.length_append, hn]; rfl
    refine Ev.sn e_X1_init 2 (i' := 10) (ls' := [_, _]) (st' := [_, _]) rfl ?_
    refine Ev.brF (i1 := 20) (i2 := 11) e_X1_init rfl rfl (nI_ge (b := 10) (by omega) (by omega)) ?_
    refine Ev.sn e_X1_init 1 (i' := 12) (ls' := [_, _]) (st' := [_]) rfl ?_
    refine Ev.getR (j := 0) e_X1_init rfl rfl hL rfl rfl ?_
    refine Ev.sn e_X1_init 1 (i' := 14) (ls' := [_, _]) (st' := [_, _]) rfl ?_
    refine Ev.newoR e_X1_init rfl rfl hL (kk := 2 + 4 * i) hk (by omega) (blk' := (hisH L i ++ NBn L i) ++ [.inr (4, [.null, .null, .null])]) rfl ?_
    refine Ev.sn e_X1_init 1 (i' := 16) (ls' := [_, _]) (st' := [_, _, _, _]) rfl ?_
    refine Ev.clR (bp := hisH L i ++ NBn L i) (B := [.inr (4, [.null, .null, .null])]) (B' := nowB (L + (2 + 4 * i))) e_X1_init rfl rfl rfl rfl rfl rfl (c_X4_init (d + 0) _ (lenR hL hk rfl) (by omega)) rfl rfl ?_
    have hv : (pre ++ ((hisH L i ++ NBn L i) ++ nowB (L + (2 + 4 * i))))[L + (2 + 4 * i)]? = some (.inr (4, [.ref (L + (2 + 4 * i) + 1), .ref (L + (2 + 4 * i) + 2), .ref (L + (2 + 4 * i) + 3)])) := by
      refine rg hL ?_
      rw [List.getElem?_append_right (by omega), hk, Nat.sub_self]
      rfl
    refine Ev.aastR (j := 1) (m := i) e_X1_init rfl rfl hL hv rfl rfl (by omega) (by decide) (blk' := hisH L (i + 1) ++ NBn L (i + 1)) ?_ ?_
    · show _ :: _ = _
      rw [show L + (2 + 4 * i) = L + 2 + 4 * i by omega, hF_s]
      simp [hisH, NBn]
    · refine Ev.sn e_X1_init 2 (i' := 8) (ls' := [_, _]) (st' := []) rfl ?_
      rw [nI_1]
      exact ih (i + 1) (by omega)
set_option maxRecDepth 20000 in
set_option maxHeartbeats 200000 in
theorem c_X1_init (d : Nat) (pre : AW) {L : Nat} (hL : pre.length = L) (hb : L < 900) : Ev (d + 2) 8 0 [.ref L, .null] [] (pre ++ [.inr (1, [.null, .int 0, .int 0])]) none (pre ++ hisB L) := by
  refine Ev.sn e_X1_init 1 (i' := 1) (ls' := [_, _]) (st' := [_]) rfl ?_
  refine Ev.oini e_X1_init rfl rfl rfl ?_
  refine Ev.sn e_X1_init 2 (i' := 4) (ls' := [_, _]) (st' := [_, _]) rfl ?_
  refine Ev.anewR e_X1_init rfl rfl (m := 10) rfl hL (kk := 1) rfl (by omega) (by omega) (blk' := [.inr (1, [.null, .int 0, .int 0]), .inl (3, 10, .inr (.inr (.inr (.inr (fun _ => none)))))]) rfl ?_
  refine Ev.putR (j := 0) e_X1_init rfl rfl hL rfl rfl rfl rfl (blk' := [.inr (1, [.ref (L + 1), .int 0, .int 0]), .inl (3, 10, .inr (.inr (.inr (.inr (fun _ => none)))))]) rfl ?_
  refine Ev.sn e_X1_init 2 (i' := 8) (ls' := [_, _]) (st' := []) rfl ?_
  have hA := lp_X1_init d pre hL hb 10 0 (by omega)
  unfold hisH NBn at hA
  rw [hF_0, List.append_nil] at hA
  exact hA
