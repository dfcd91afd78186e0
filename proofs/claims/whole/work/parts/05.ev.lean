/-! steps of the abstract machine -/
theorem run_s1 {n d M i : Nat} {ls st : List Value} {w : AW} {c : List Row} {row : Row} {i' : Nat} {ls' st' : List Value} (hc : mP M = c) (hr : c[i]? = some row) (h : nx1 row i ls st w = some (i', ls', st')) : run (n + 1) d M i ls st w = run n d M i' ls' st' w := by
  simp only [run, hc, hr, h]
theorem run_fuel : ∀ (n d M i : Nat) (ls st : List Value) (w : AW) (x : AR), run n d M i ls st w = some x → run (n + 1) d M i ls st w = some x := by
  intro n
  induction n with
  | zero => intro d M i ls st w x h; simp [run] at h
  | succ n ih =>
    intro d M i ls st w x h
    rw [run] at h ⊢
    cases hr : (mP M)[i]? with
    | none => rw [hr] at h; simp at h
    | some row =>
      rw [hr] at h
      simp only at h ⊢
      cases h1 : nx1 row i ls st w with
      | some q => obtain ⟨i', ls', st'⟩ := q; rw [h1] at h; simp only at h ⊢; exact ih _ _ _ _ _ _ _ h
      | none =>
        rw [h1] at h
        simp only at h ⊢
        cases h2 : nx2 row (mR M) d st w with
        | none => rw [h2] at h; simp at h
        | some q =>
          rw [h2] at h
          match q, h with
          | .inl (st', w'), h => simp only at h ⊢; exact ih _ _ _ _ _ _ _ h
          | .inr (.inl r), h => exact h
          | .inr (.inr (d', M', args, rest)), h =>
            simp only at h ⊢
            cases h3 : run n d' M' 0 (ent (mL M') args) [] w with
            | none => rw [h3] at h; simp at h
            | some q =>
              rw [h3] at h
              rw [ih _ _ _ _ _ _ _ h3]
              obtain ⟨r, w'⟩ := q
              simp only at h ⊢
              exact ih _ _ _ _ _ _ _ h
theorem run_fuel_le {n m d M i : Nat} {ls st : List Value} {w : AW} {x : AR} (hnm : n ≤ m) (h : run n d M i ls st w = some x) : run m d M i ls st w = some x := by
  induction hnm with
  | refl => exact h
  | step _ ih => exact run_fuel _ _ _ _ _ _ _ _ ih
section EV
variable {d M i : Nat} {ls st : List Value} {w w' : AW} {r : Option Value} {c : List Row} {row : Row}
theorem Ev.s1 {i' : Nat} {ls' st' : List Value} (hc : mP M = c) (hr : c[i]? = some row) (h : nx1 row i ls st w = some (i', ls', st')) (k : Ev d M i' ls' st' w r w') : Ev d M i ls st w r w' := by
  obtain ⟨n, hn⟩ := k
  exact ⟨n + 1, by rw [run_s1 hc hr h]; exact hn⟩
/-- several simple steps at once -/
def nxs (c : List Row) (w : AW) : Nat → Nat → List Value → List Value → Option (Nat × List Value × List Value)
  | 0, i, ls, st => some (i, ls, st)
  | k + 1, i, ls, st => match c[i]? with
    | none => none
    | some row => match nx1 row i ls st w with
      | none => none
      | some (i', ls', st') => nxs c w k i' ls' st'
theorem Ev.sn (hc : mP M = c) : ∀ (k : Nat) {i : Nat} {ls st : List Value} {i' : Nat} {ls' st' : List Value}, nxs c w k i ls st = some (i', ls', st') → Ev d M i' ls' st' w r w' → Ev d M i ls st w r w'
  | 0, i, ls, st, i', ls', st', h, k => by
    cases h
    exact k
  | n + 1, i, ls, st, i', ls', st', h, k => by
    rw [nxs] at h
    cases hr : c[i]? with
    | none => rw [hr] at h; cases h
    | some row =>
      rw [hr] at h
      simp only at h
      cases h1 : nx1 row i ls st w with
      | none => rw [h1] at h; cases h
      | some q => obtain ⟨a, b, e⟩ := q; rw [h1] at h; exact Ev.s1 hc hr h1 (Ev.sn hc n h k)
theorem Ev.br {i1 i2 : Nat} {ls' st' : List Value} {p : Prop} [hp : Decidable p] (hc : mP M = c) (hr : c[i]? = some row) (h : nx1 row i ls st w = some (if p then i1 else i2, ls', st')) (k1 : p → Ev d M i1 ls' st' w r w') (k2 : ¬ p → Ev d M i2 ls' st' w r w') : Ev d M i ls st w r w' := by
  refine Ev.s1 hc hr h ?_
  by_cases q : p
  · rw [if_pos q]; exact k1 q
  · rw [if_neg q]; exact k2 q
theorem Ev.go {st' : List Value} {w1 : AW} (hc : mP M = c) (hr : c[i]? = some row) (h1 : nx1 row i ls st w = none) (h2 : nx2 row (mR M) d st w = some (.inl (st', w1))) (k : Ev d M (i + 1) ls st' w1 r w') : Ev d M i ls st w r w' := by
  obtain ⟨n, hn⟩ := k
  exact ⟨n + 1, by simp only [run, hc, hr, h1, h2]; exact hn⟩
theorem Ev.ret (hc : mP M = c) (hr : c[i]? = some row) (h1 : nx1 row i ls st w = none) (h2 : nx2 row (mR M) d st w = some (.inr (.inl r))) : Ev d M i ls st w r w :=
  ⟨1, by simp only [run, hc, hr, h1, h2]⟩
theorem Ev.cl {d' M' : Nat} {args rest ls0 : List Value} {r1 : Option Value} {w1 : AW} (hc : mP M = c) (hr : c[i]? = some row) (h1 : nx1 row i ls st w = none) (h2 : nx2 row (mR M) d st w = some (.inr (.inr (d', M', args, rest)))) (he : ent (mL M') args = ls0) (hk : Ev d' M' 0 ls0 [] w r1 w1) (k : Ev d M (i + 1) ls (r1.toList ++ rest) w1 r w') : Ev d M i ls st w r w' := by
  subst he
  obtain ⟨n, hn⟩ := k
  obtain ⟨m, hm⟩ := hk
  refine ⟨max n m + 1, ?_⟩
  simp only [run, hc, hr, h1, h2, run_fuel_le (Nat.le_max_right n m) hm]
  exact run_fuel_le (Nat.le_max_left n m) hn
theorem Ev.wd {w2 : AW} (h : w = w2) (k : Ev d M i ls st w2 r w') : Ev d M i ls st w r w' := h ▸ k
theorem Ev.rd {r2 : Option Value} (h : r2 = r) (k : Ev d M i ls st w r2 w') : Ev d M i ls st w r w' := h ▸ k
variable {pc a b : Nat} {z : Int32} {zl : Int64} {sw : List (Int32 × Nat)} {ps : List Nat} {i' : Nat} {x y j : Int32} {s0 : List Value} {k n : Nat} {f : Nat → Int32}
theorem Ev.iald (hc : mP M = c) (hr : c[i]? = some (pc, .iaload, a, b, z, zl, sw, ps)) (hi : i + 1 = i') (hw : w[k]? = some (.inl (0, n, .inl f))) (hk : Nat.blt k 1000000 = true) (hj : vin j n = true) (q : Ev d M i' ls (.int (f j.toNatClampNeg) :: s0) w r w') : Ev d M i ls (.int j :: .ref k :: s0) w r w' := by
  subst hi
  have hk := Nat.blt_eq.mp hk
  refine Ev.go hc hr rfl ?_ q
  have e0 : ¬ k = 1000000 := by omega
  have e1 : ¬ k = 1000001 := by omega
  simp only [nx2, hw, hj, if_neg e0, if_neg e1]
  simp
theorem Ev.sald0 (hc : mP M = c) (hr : c[i]? = some (pc, .iaload, a, b, z, zl, sw, ps)) (hi : i + 1 = i') (hj : vin j 3 = true) (q : Ev d M i' ls (.int (low0 j.toNatClampNeg) :: s0) w r w') : Ev d M i ls (.int j :: .ref 1000000 :: s0) w r w' := by
  subst hi
  refine Ev.go hc hr rfl ?_ q
  simp only [nx2, hj, if_true]
theorem Ev.sald1 (hc : mP M = c) (hr : c[i]? = some (pc, .iaload, a, b, z, zl, sw, ps)) (hi : i + 1 = i') (hj : vin j 3 = true) (q : Ev d M i' ls (.int (high0 j.toNatClampNeg) :: s0) w r w') : Ev d M i ls (.int j :: .ref 1000001 :: s0) w r w' := by
  subst hi
  refine Ev.go hc hr rfl ?_ q
  simp only [nx2, hj, if_true]
  rfl
theorem Ev.bald (hc : mP M = c) (hr : c[i]? = some (pc, .baload, a, b, z, zl, sw, ps)) (hi : i + 1 = i') (hw : w[k]? = some (.inl (1, n, .inl f))) (hj : vin j n = true) (q : Ev d M i' ls (.int (f j.toNatClampNeg) :: s0) w r w') : Ev d M i ls (.int j :: .ref k :: s0) w r w' := by
  subst hi
  refine Ev.go hc hr rfl ?_ q
  simp only [nx2, hw, hj]
  simp
theorem Ev.cald (hc : mP M = c) (hr : c[i]? = some (pc, .caload, a, b, z, zl, sw, ps)) (hi : i + 1 = i') (hw : w[k]? = some (.inl (2, n, .inl f))) (hj : vin j n = true) (q : Ev d M i' ls (.int (f j.toNatClampNeg) :: s0) w r w') : Ev d M i ls (.int j :: .ref k :: s0) w r w' := by
  subst hi
  refine Ev.go hc hr rfl ?_ q
  simp only [nx2, hw, hj]
  simp
theorem Ev.aald {fo : Nat → Option Nat} {v : Nat} (hc : mP M = c) (hr : c[i]? = some (pc, .aaload, a, b, z, zl, sw, ps)) (hi : i + 1 = i') (hw : w[k]? = some (.inl (3, n, .inr (.inr (.inr (.inr fo)))))) (hj : vin j n = true) (hv : fo j.toNatClampNeg = some v) (q : Ev d M i' ls (.ref v :: s0) w r w') : Ev d M i ls (.int j :: .ref k :: s0) w r w' := by
  subst hi
  refine Ev.go hc hr rfl ?_ q
  simp only [nx2, hw, hj, hv]
  simp
theorem Ev.iast {w1 : AW} (hc : mP M = c) (hr : c[i]? = some (pc, .iastore, a, b, z, zl, sw, ps)) (hi : i + 1 = i') (hw : w[k]? = some (.inl (0, n, .inl f))) (hj : vin j n = true) (h1 : w.set k (.inl (0, n, .inl (upd f j.toNatClampNeg x))) = w1) (q : Ev d M i' ls s0 w1 r w') : Ev d M i ls (.int x :: .int j :: .ref k :: s0) w r w' := by
  subst hi
  subst h1
  refine Ev.go hc hr rfl ?_ q
  simp only [nx2, hw, hj]
  simp
theorem Ev.bast {w1 : AW} (hc : mP M = c) (hr : c[i]? = some (pc, .bastore, a, b, z, zl, sw, ps)) (hi : i + 1 = i') (hw : w[k]? = some (.inl (1, n, .inl f))) (hj : vin j n = true) (hx : x = 0 ∨ x = 1) (h1 : w.set k (.inl (1, n, .inl (upd f j.toNatClampNeg x))) = w1) (q : Ev d M i' ls s0 w1 r w') : Ev d M i ls (.int x :: .int j :: .ref k :: s0) w r w' := by
  subst hi
  subst h1
  refine Ev.go hc hr rfl ?_ q
  simp only [nx2, hw, hj]
  simp [hx]
theorem Ev.cast {w1 : AW} (hc : mP M = c) (hr : c[i]? = some (pc, .castore, a, b, z, zl, sw, ps)) (hi : i + 1 = i') (hw : w[k]? = some (.inl (2, n, .inl f))) (hj : vin j n = true) (hx : vp_nar .char x = x) (h1 : w.set k (.inl (2, n, .inl (upd f j.toNatClampNeg x))) = w1) (q : Ev d M i' ls s0 w1 r w') : Ev d M i ls (.int x :: .int j :: .ref k :: s0) w r w' := by
  subst hi
  subst h1
  refine Ev.go hc hr rfl ?_ q
  simp only [nx2, hw, hj]
  simp [hx]
theorem Ev.put {w1 : AW} {v : Value} {fs : List Value} (hc : mP M = c) (hr : c[i]? = some (pc, .putfield n, a, b, z, zl, sw, ps)) (hi : i + 1 = i') (hw : w[k]? = some (.inr (a, fs))) (hb : Nat.blt b fs.length = true) (hn : narrow (fty a b) v = v) (hf : Jvm.fits (fty a b) v = true) (h1 : w.set k (.inr (a, fs.set b v)) = w1) (q : Ev d M i' ls s0 w1 r w') : Ev d M i ls (v :: .ref k :: s0) w r w' := by
  subst hi
  subst h1
  refine Ev.go hc hr rfl ?_ q
  simp only [nx2, hw]
  rw [if_pos ⟨trivial, Nat.blt_eq.mp hb, hn, hf⟩]
theorem Ev.alen (hc : mP M = c) (hr : c[i]? = some (pc, .arraylength, a, b, z, zl, sw, ps)) (hi : i + 1 = i') (hw : w[k]? = some (.inl (0, n, .inl f))) (hn : Nat.blt n 1000 = true) (q : Ev d M i' ls (.int (Int32.ofNat n) :: s0) w r w') : Ev d M i ls (.ref k :: s0) w r w' := by
  subst hi
  refine Ev.go hc hr rfl ?_ q
  simp only [nx2, hw]
  rw [if_pos ⟨trivial, Nat.blt_eq.mp hn⟩]
theorem Ev.idiv (hc : mP M = c) (hr : c[i]? = some (pc, .idiv, a, b, z, zl, sw, ps)) (hi : i + 1 = i') (hy : ¬ y = 0) (q : Ev d M i' ls (.int (x / y) :: s0) w r w') : Ev d M i ls (.int y :: .int x :: s0) w r w' := by
  subst hi
  refine Ev.go hc hr rfl ?_ q
  simp only [nx2]
  rw [if_neg hy]
theorem Ev.irem (hc : mP M = c) (hr : c[i]? = some (pc, .irem, a, b, z, zl, sw, ps)) (hi : i + 1 = i') (hy : ¬ y = 0) (q : Ev d M i' ls (.int (x - x / y * y) :: s0) w r w') : Ev d M i ls (.int y :: .int x :: s0) w r w' := by
  subst hi
  refine Ev.go hc hr rfl ?_ q
  simp only [nx2]
  rw [if_neg hy]
theorem Ev.ldiv {x y : Int64} (hc : mP M = c) (hr : c[i]? = some (pc, .ldiv, a, b, z, zl, sw, ps)) (hi : i + 1 = i') (hy : ¬ y = 0) (q : Ev d M i' ls (.long (x / y) :: s0) w r w') : Ev d M i ls (.long y :: .long x :: s0) w r w' := by
  subst hi
  refine Ev.go hc hr rfl ?_ q
  simp only [nx2]
  rw [if_neg hy]
theorem Ev.lrem {x y : Int64} (hc : mP M = c) (hr : c[i]? = some (pc, .lrem, a, b, z, zl, sw, ps)) (hi : i + 1 = i') (hy : ¬ y = 0) (q : Ev d M i' ls (.long (x - x / y * y) :: s0) w r w') : Ev d M i ls (.long y :: .long x :: s0) w r w' := by
  subst hi
  refine Ev.go hc hr rfl ?_ q
  simp only [nx2]
  rw [if_neg hy]
theorem Ev.iret {v : Int32} {rt : Option FieldType} (hc : mP M = c) (hr : c[i]? = some (pc, .ireturn, a, b, z, zl, sw, ps)) (hm : mR M = rt) (hn : rNar rt v = true) (h : v = x) (hw : w = w') : Ev d M i ls [.int v] w (some (.int x)) w' := by
  subst h
  subst hw
  subst hm
  refine Ev.ret hc hr rfl ?_
  simp only [nx2]
  rw [if_pos hn]
theorem Ev.lret {v x : Int64} (hc : mP M = c) (hr : c[i]? = some (pc, .lreturn, a, b, z, zl, sw, ps)) (hm : mR M = some .long) (h : v = x) (hw : w = w') : Ev d M i ls [.long v] w (some (.long x)) w' := by
  subst h
  subst hw
  refine Ev.ret hc hr rfl ?_
  simp only [nx2]
  rw [if_pos hm]
theorem Ev.vret (hc : mP M = c) (hr : c[i]? = some (pc, .return_, a, b, z, zl, sw, ps)) (hm : mR M = none) (hw : w = w') : Ev d M i ls [] w none w' := by
  subst hw
  refine Ev.ret hc hr rfl ?_
  simp only [nx2]
  rw [if_pos hm]
theorem Ev.aret (hc : mP M = c) (hr : c[i]? = some (pc, .areturn, a, b, z, zl, sw, ps)) (hm : mR M = some (.object "TwoScales$Tale")) (hw : w = w') : Ev d M i ls [.ref k] w (some (.ref k)) w' := by
  subst hw
  refine Ev.ret hc hr rfl ?_
  simp only [nx2]
  rw [if_pos hm]
theorem am_take {as rest : List Value} : (as.reverse ++ rest).take as.length = as.reverse := by
  rw [← List.length_reverse, List.take_left]
theorem am_drop {as rest : List Value} : (as.reverse ++ rest).drop as.length = rest := by
  rw [← List.length_reverse, List.drop_left]
/-- calls: the arguments 'as', what they leave on the stack 's0' -/
theorem Ev.clS {as ls0 : List Value} {r1 : Option Value} {w1 : AW} {s1 : List Value} (hc : mP M = c) (hr : c[i]? = some (pc, .invokestatic n, a, b, z, zl, sw, ps)) (ha : Nat.blt a 900 = true) (hi : i + 1 = i') (hst : st = as.reverse ++ s0) (hb : as.length = b) (hcat : Nat.ble (s0.map Value.category).sum 8 = true) (hsp : Nat.ble (spr as).length (mL a) = true) (he : ent (mL a) as = ls0) (hk : Ev d a 0 ls0 [] w r1 w1) (hs : r1.toList ++ s0 = s1) (q : Ev (d + 1) M i' ls s1 w1 r w') : Ev (d + 1) M i ls st w r w' := by
  subst hi
  subst hst
  subst hs
  subst hb
  have ha := Nat.blt_eq.mp ha
  refine Ev.cl hc hr rfl (d' := d) (M' := a) (args := as) (rest := s0) ?_ he hk q
  simp only [nx2]
  rw [if_neg (by omega), am_take, am_drop, List.reverse_reverse, if_pos ⟨by simp, Nat.ble_eq.mp hcat, Nat.ble_eq.mp hsp⟩]
theorem Ev.clV {as ls0 : List Value} {r1 : Option Value} {w1 : AW} {s1 : List Value} {ci : Nat} {fs : List Value} (hc : mP M = c) (hr : c[i]? = some (pc, .invokevirtual n, a, b, z, zl, sw, ps)) (hi : i + 1 = i') (hst : st = as.reverse ++ (.ref k :: s0)) (hb : as.length = b) (hw : w[k]? = some (.inr (ci, fs))) (hcls : (vwCl[ci]?).map (fun q => q.1) = some (mY a).cls) (hcat : Nat.ble (s0.map Value.category).sum 8 = true) (hsp : Nat.ble (spr (.ref k :: as)).length (mL a) = true) (he : ent (mL a) (.ref k :: as) = ls0) (hk : Ev d a 0 ls0 [] w r1 w1) (hs : r1.toList ++ s0 = s1) (q : Ev (d + 1) M i' ls s1 w1 r w') : Ev (d + 1) M i ls st w r w' := by
  subst hi
  subst hst
  subst hs
  subst hb
  refine Ev.cl hc hr rfl (d' := d) (M' := a) (args := .ref k :: as) (rest := s0) ?_ he hk q
  simp only [nx2]
  rw [am_drop, am_take, List.reverse_reverse]
  simp only [hw]
  rw [if_pos ⟨by simp, hcls, Nat.ble_eq.mp hcat, Nat.ble_eq.mp hsp⟩]
theorem Ev.clI {as ls0 : List Value} {w1 : AW} (hc : mP M = c) (hr : c[i]? = some (pc, .invokespecial n, a, b, z, zl, sw, ps)) (ha : Nat.blt a 900 = true) (hi : i + 1 = i') (hst : st = as.reverse ++ (.ref k :: s0)) (hb : as.length = b) (hcat : Nat.ble (s0.map Value.category).sum 8 = true) (hsp : Nat.ble (spr (.ref k :: as)).length (mL a) = true) (he : ent (mL a) (.ref k :: as) = ls0) (hk : Ev d a 0 ls0 [] w none w1) (q : Ev (d + 1) M i' ls s0 w1 r w') : Ev (d + 1) M i ls st w r w' := by
  subst hi
  subst hst
  subst hb
  have ha := Nat.blt_eq.mp ha
  refine Ev.cl hc hr rfl (d' := d) (M' := a) (args := .ref k :: as) (rest := s0) ?_ he hk q
  simp only [nx2]
  rw [am_drop, am_take, List.reverse_reverse, if_neg (by omega)]
  simp only []
  rw [if_pos ⟨by simp, Nat.ble_eq.mp hcat, Nat.ble_eq.mp hsp⟩]
theorem Ev.copy {k0 k1 n0 n1 : Nat} {f0 f1 : Nat → Int32} {sp dp nn : Int32} {w1 : AW} (hc : mP M = c) (hr : c[i]? = some (pc, .invokestatic n, 900, b, z, zl, sw, ps)) (hi : i + 1 = i') (hw0 : w[k0]? = some (.inl (0, n0, .inl f0))) (hw1 : w[k1]? = some (.inl (0, n1, .inl f1))) (hcat : Nat.ble (s0.map Value.category).sum 8 = true) (h1 : ¬ sp < 0) (h2 : ¬ dp < 0) (h3 : ¬ nn < 0) (h4 : sp.toNatClampNeg + nn.toNatClampNeg ≤ n0) (h5 : dp.toNatClampNeg + nn.toNatClampNeg ≤ n1) (hx : w.set k1 (.inl (0, n1, .inl (va_cpy f0 f1 sp.toNatClampNeg dp.toNatClampNeg nn.toNatClampNeg))) = w1) (q : Ev (d + 1) M i' ls s0 w1 r w') : Ev (d + 1) M i ls (.int nn :: .int dp :: .ref k1 :: .int sp :: .ref k0 :: s0) w r w' := by
  subst hi
  subst hx
  refine Ev.go hc hr rfl ?_ q
  simp only [nx2, hw0, hw1]
  rw [if_pos trivial, if_pos ⟨trivial, trivial, Nat.succ_pos d, Nat.ble_eq.mp hcat, h1, h2, h3, h4, h5⟩]
end EV
/-- what is less known: a local that is not known may be anything -/
def lle (a b : List Value) : Prop := a.length = b.length ∧ ∀ (k : Nat) (v : Value), a[k]? = some v → v ≠ .null → b[k]? = some v
