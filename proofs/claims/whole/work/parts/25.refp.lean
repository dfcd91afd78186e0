/-! the reference: its public questions -/
theorem rngF {x : Int32} {k : Nat} (hk : k < 2000) (h : ∀ j, j ≤ k → ¬ x = nI j) : (decide (0 ≤ x) && decide (x ≤ nI k)) = false := by
  cases hb : (decide (0 ≤ x) && decide (x ≤ nI k)) with
  | false => rfl
  | true =>
    obtain ⟨j, h1, h2⟩ := (rngB hk).mp hb
    exact absurd h2 (h j h1)
theorem r01 (x : Int32) : (decide (0 ≤ x) && decide (x ≤ 1)) = (decide (x = 0) || decide (x = 1)) := by
  by_cases h0 : x = 0
  · subst h0; decide
  · by_cases h1 : x = 1
    · subst h1; decide
    · rw [decide_eq_false h0, decide_eq_false h1]
      exact rngF (k := 1) (by omega) (fun j hj => by
        match j, hj with
        | 0, _ => exact h0
        | 1, _ => exact h1)
theorem r02 (x : Int32) : (decide (0 ≤ x) && decide (x ≤ 2)) = (decide (0 ≤ x) && decide (x < 3)) := by
  have e : nI 3 - 1 = (2 : Int32) := by decide
  have h := le_pred (x := x) (n := 3) (by omega)
  rw [e] at h
  rw [decide_eq_decide.mpr h]
  rfl
set_option maxRecDepth 20000 in
set_option maxHeartbeats 200000 in
theorem c_X9_use_0 (d : Nat) (g : Nat → Nat → Int32) (tr : Int64) {n q dn : Nat} (hc : RI n q dn g) {j : Nat} (hj : j < 3) : Ev (d + 1) 139 0 [.ref 0, .int (nI j), .int 0] [] (wR g tr) (some (.int ((vR n q dn g) 6 j))) (wR g tr) := by
  have hb := hc.b
  refine Ev.sn e_X9_use 2 (i' := 2) (ls' := [_, _, _]) (st' := [_, _]) rfl ?_
  refine Ev.put e_X9_use rfl rfl rfl rfl rfl rfl (w1 := wR g tr) rfl ?_
  refine Ev.sn e_X9_use 3 (i' := 6) (ls' := [_, _, _]) (st' := [_, _, _]) rfl ?_
  refine Ev.clS e_X9_use rfl rfl rfl (as := [_, _, _]) rfl rfl rfl rfl rfl (c_X9_in _ _ _ _ _) rfl ?_
  refine Ev.brF (i1 := 22) (i2 := 8) e_X9_use rfl rfl ((by rw [r02]; exact bF (g_ok hj (n := 3) (by omega)))) ?_
  refine Ev.sn e_X9_use 3 (i' := 11) (ls' := [_, _, _]) (st' := [_, _, _]) rfl ?_
  refine Ev.clS e_X9_use rfl rfl rfl (as := [_, _, _]) rfl rfl rfl rfl rfl (c_X9_in _ _ _ _ _) rfl ?_
  refine Ev.brF (i1 := 22) (i2 := 13) e_X9_use rfl rfl ((by decide)) ?_
  refine Ev.sn e_X9_use 7 (i' := 20) (ls' := [_, _, _]) (st' := [_, _]) rfl ?_
  refine Ev.ialdE e_X9_use rfl rfl rfl rfl (ixm 2 0 j) (by omega) ?_
  refine Ev.sn e_X9_use 1 (i' := 23) (ls' := [_, _, _]) (st' := [_]) rfl ?_
  refine Ev.iret e_X9_use rfl rfl rfl ?_ rfl
  exact (cut_lt (f := fun t => g 6 (2 * t + 0)) hj).symm
set_option maxRecDepth 20000 in
set_option maxHeartbeats 200000 in
theorem c_X9_use_1 (d : Nat) (g : Nat → Nat → Int32) (tr : Int64) {n q dn : Nat} (hc : RI n q dn g) {j : Nat} (hj : j < 3) : Ev (d + 1) 139 0 [.ref 0, .int (nI j), .int 1] [] (wR g tr) (some (.int ((vR n q dn g) 7 j))) (wR g tr) := by
  have hb := hc.b
  refine Ev.sn e_X9_use 2 (i' := 2) (ls' := [_, _, _]) (st' := [_, _]) rfl ?_
  refine Ev.put e_X9_use rfl rfl rfl rfl rfl rfl (w1 := wR g tr) rfl ?_
  refine Ev.sn e_X9_use 3 (i' := 6) (ls' := [_, _, _]) (st' := [_, _, _]) rfl ?_
  refine Ev.clS e_X9_use rfl rfl rfl (as := [_, _, _]) rfl rfl rfl rfl rfl (c_X9_in _ _ _ _ _) rfl ?_
  refine Ev.brF (i1 := 22) (i2 := 8) e_X9_use rfl rfl ((by rw [r02]; exact bF (g_ok hj (n := 3) (by omega)))) ?_
  refine Ev.sn e_X9_use 3 (i' := 11) (ls' := [_, _, _]) (st' := [_, _, _]) rfl ?_
  refine Ev.clS e_X9_use rfl rfl rfl (as := [_, _, _]) rfl rfl rfl rfl rfl (c_X9_in _ _ _ _ _) rfl ?_
  refine Ev.brF (i1 := 22) (i2 := 13) e_X9_use rfl rfl ((by decide)) ?_
  refine Ev.sn e_X9_use 7 (i' := 20) (ls' := [_, _, _]) (st' := [_, _]) rfl ?_
  refine Ev.ialdE e_X9_use rfl rfl rfl rfl (ixm 2 1 j) (by omega) ?_
  refine Ev.sn e_X9_use 1 (i' := 23) (ls' := [_, _, _]) (st' := [_]) rfl ?_
  refine Ev.iret e_X9_use rfl rfl rfl ?_ rfl
  exact (cut_lt (f := fun t => g 6 (2 * t + 1)) hj).symm
set_option maxRecDepth 20000 in
set_option maxHeartbeats 200000 in
theorem c_X9_use (d : Nat) (g : Nat → Nat → Int32) (tr : Int64) {n q dn : Nat} (hc : RI n q dn g) (u x : Int32) : Ev (d + 1) 139 0 [.ref 0, .int u, .int x] [] (wR g tr) (some (.int (S_use (vR n q dn g) u x))) (wR g tr) := by
  have hb := hc.b
  by_cases hg : (decide (0 ≤ u) && decide (u < 3)) = true
  · obtain ⟨j, hj, rfl⟩ := ixB (n := 3) (by omega) hg
    have hcl : (nI j).toNatClampNeg = j := nI_clamp (by omega)
    by_cases x0 : x = 0
    · subst x0
      rw [show S_use (vR n q dn g) (nI j) 0 = (vR n q dn g) 6 j by simp [S_use, hg, hcl]]
      exact c_X9_use_0 _ _ _ hc hj
    · by_cases x1 : x = 1
      · subst x1
        rw [show S_use (vR n q dn g) (nI j) 1 = (vR n q dn g) 7 j by simp [S_use, hg, hcl]]
        exact c_X9_use_1 _ _ _ hc hj
      · rw [show S_use (vR n q dn g) (nI j) x = -1 by simp [S_use, hg, x0, x1]]
        have hx : (decide (0 ≤ x) && decide (x ≤ 1)) = false := by rw [r01]; simp [x0, x1]
        refine Ev.sn e_X9_use 2 (i' := 2) (ls' := [_, _, _]) (st' := [_, _]) rfl ?_
        refine Ev.put e_X9_use rfl rfl rfl rfl rfl rfl (w1 := wR g tr) rfl ?_
        refine Ev.sn e_X9_use 3 (i' := 6) (ls' := [_, _, _]) (st' := [_, _, _]) rfl ?_
        refine Ev.clS e_X9_use rfl rfl rfl (as := [_, _, _]) rfl rfl rfl rfl rfl (c_X9_in _ _ _ _ _) rfl ?_
        refine Ev.brF (i1 := 22) (i2 := 8) e_X9_use rfl rfl ((by rw [r02]; exact bF (g_ok hj (n := 3) (by omega)))) ?_
        refine Ev.sn e_X9_use 3 (i' := 11) (ls' := [_, _, _]) (st' := [_, _, _]) rfl ?_
        refine Ev.clS e_X9_use rfl rfl rfl (as := [_, _, _]) rfl rfl rfl rfl rfl (c_X9_in _ _ _ _ _) rfl ?_
        refine Ev.brT (i1 := 22) (i2 := 13) e_X9_use rfl rfl (bT hx) ?_
        refine Ev.sn e_X9_use 1 (i' := 23) (ls' := [_, _, _]) (st' := [_]) rfl ?_
        refine Ev.iret e_X9_use rfl rfl rfl ?_ rfl
        rfl
  · rw [show S_use (vR n q dn g) u x = -1 by simp [S_use, hg]]
    have hg2 : (decide (0 ≤ u) && decide (u ≤ 2)) = false := by rw [r02]; simpa using hg
    refine Ev.sn e_X9_use 2 (i' := 2) (ls' := [_, _, _]) (st' := [_, _]) rfl ?_
    refine Ev.put e_X9_use rfl rfl rfl rfl rfl rfl (w1 := wR g tr) rfl ?_
    refine Ev.sn e_X9_use 3 (i' := 6) (ls' := [_, _, _]) (st' := [_, _, _]) rfl ?_
    refine Ev.clS e_X9_use rfl rfl rfl (as := [_, _, _]) rfl rfl rfl rfl rfl (c_X9_in _ _ _ _ _) rfl ?_
    refine Ev.brT (i1 := 22) (i2 := 8) e_X9_use rfl rfl (bT hg2) ?_
    refine Ev.sn e_X9_use 1 (i' := 23) (ls' := [_, _, _]) (st' := [_]) rfl ?_
    refine Ev.iret e_X9_use rfl rfl rfl ?_ rfl
    rfl
set_option maxRecDepth 20000 in
set_option maxHeartbeats 200000 in
theorem c_X9_thing_0 (d : Nat) (g : Nat → Nat → Int32) (tr : Int64) {n q dn : Nat} (hc : RI n q dn g) {j : Nat} (hj : j < n) : Ev (d + 4) 140 0 [.ref 0, .int (nI j), .int 0] [] (wR g tr) (some (.int ((vR n q dn g) 0 j))) (wR g tr) := by
  have hb := hc.b
  refine Ev.sn e_X9_thing 2 (i' := 2) (ls' := [_, _, _]) (st' := [_, _]) rfl ?_
  refine Ev.put e_X9_thing rfl rfl rfl rfl rfl rfl (w1 := wR g tr) rfl ?_
  refine Ev.sn e_X9_thing 2 (i' := 5) (ls' := [_, _, _]) (st' := [_, _]) rfl ?_
  refine Ev.clV e_X9_thing rfl rfl (as := [_]) rfl rfl rfl kl_X9_isThingThere rfl rfl rfl (c_X9_isThingThere _ _ _ hc _) rfl ?_
  refine Ev.brF (i1 := 12) (i2 := 7) e_X9_thing rfl rfl (bF (g_ok hj (by omega))) ?_
  refine Ev.sn e_X9_thing 3 (i' := 10) (ls' := [_, _, _]) (st' := [_, _, _]) rfl ?_
  refine Ev.clS e_X9_thing rfl rfl rfl (as := [_, _, _]) rfl rfl rfl rfl rfl (c_X9_in _ _ _ _ _) rfl ?_
  refine Ev.brF (i1 := 12) (i2 := 14) e_X9_thing rfl rfl ((by decide)) ?_
  refine Ev.sn e_X9_thing 2 (i' := 16) (ls' := [_, _, _]) (st' := [_, _]) rfl ?_
  refine Ev.brF (i1 := 36) (i2 := 17) e_X9_thing rfl rfl ((by decide)) ?_
  refine Ev.sn e_X9_thing 2 (i' := 19) (ls' := [_, _, _]) (st' := [_, _]) rfl ?_
  refine Ev.brF (i1 := 20) (i2 := 27) e_X9_thing rfl rfl ((by decide)) ?_
  refine Ev.sn e_X9_thing 7 (i' := 34) (ls' := [_, _, _]) (st' := [_, _]) rfl ?_
  refine Ev.ialdE e_X9_thing rfl rfl rfl rfl (ixm 4 0 j) (by omega) ?_
  refine Ev.iret e_X9_thing rfl rfl rfl ?_ rfl
  exact (cut_lt (f := fun t => g 3 (4 * t)) hj).symm
set_option maxRecDepth 20000 in
set_option maxHeartbeats 200000 in
theorem c_X9_thing_1 (d : Nat) (g : Nat → Nat → Int32) (tr : Int64) {n q dn : Nat} (hc : RI n q dn g) {j : Nat} (hj : j < n) : Ev (d + 4) 140 0 [.ref 0, .int (nI j), .int 1] [] (wR g tr) (some (.int ((vR n q dn g) 1 j))) (wR g tr) := by
  have hb := hc.b
  refine Ev.sn e_X9_thing 2 (i' := 2) (ls' := [_, _, _]) (st' := [_, _]) rfl ?_
  refine Ev.put e_X9_thing rfl rfl rfl rfl rfl rfl (w1 := wR g tr) rfl ?_
  refine Ev.sn e_X9_thing 2 (i' := 5) (ls' := [_, _, _]) (st' := [_, _]) rfl ?_
  refine Ev.clV e_X9_thing rfl rfl (as := [_]) rfl rfl rfl kl_X9_isThingThere rfl rfl rfl (c_X9_isThingThere _ _ _ hc _) rfl ?_
  refine Ev.brF (i1 := 12) (i2 := 7) e_X9_thing rfl rfl (bF (g_ok hj (by omega))) ?_
  refine Ev.sn e_X9_thing 3 (i' := 10) (ls' := [_, _, _]) (st' := [_, _, _]) rfl ?_
  refine Ev.clS e_X9_thing rfl rfl rfl (as := [_, _, _]) rfl rfl rfl rfl rfl (c_X9_in _ _ _ _ _) rfl ?_
  refine Ev.brF (i1 := 12) (i2 := 14) e_X9_thing rfl rfl ((by decide)) ?_
  refine Ev.sn e_X9_thing 2 (i' := 16) (ls' := [_, _, _]) (st' := [_, _]) rfl ?_
  refine Ev.brF (i1 := 36) (i2 := 17) e_X9_thing rfl rfl ((by decide)) ?_
  refine Ev.sn e_X9_thing 2 (i' := 19) (ls' := [_, _, _]) (st' := [_, _]) rfl ?_
  refine Ev.brT (i1 := 20) (i2 := 27) e_X9_thing rfl rfl ((by decide)) ?_
  refine Ev.sn e_X9_thing 5 (i' := 25) (ls' := [_, _, _]) (st' := [_, _]) rfl ?_
  refine Ev.ialdE e_X9_thing rfl rfl rfl rfl (nI_add 6 j) (by omega) ?_
  refine Ev.sn e_X9_thing 1 (i' := 35) (ls' := [_, _, _]) (st' := [_]) rfl ?_
  refine Ev.iret e_X9_thing rfl rfl rfl ?_ rfl
  exact (cut_lt (f := fun t => g 7 (6 + t)) hj).symm
set_option maxRecDepth 20000 in
set_option maxHeartbeats 200000 in
theorem c_X9_thing_2 (d : Nat) (g : Nat → Nat → Int32) (tr : Int64) {n q dn : Nat} (hc : RI n q dn g) {j : Nat} (hj : j < n) : Ev (d + 4) 140 0 [.ref 0, .int (nI j), .int 2] [] (wR g tr) (some (.int ((vR n q dn g) 2 j))) (wR g tr) := by
  have hb := hc.b
  refine Ev.sn e_X9_thing 2 (i' := 2) (ls' := [_, _, _]) (st' := [_, _]) rfl ?_
  refine Ev.put e_X9_thing rfl rfl rfl rfl rfl rfl (w1 := wR g tr) rfl ?_
  refine Ev.sn e_X9_thing 2 (i' := 5) (ls' := [_, _, _]) (st' := [_, _]) rfl ?_
  refine Ev.clV e_X9_thing rfl rfl (as := [_]) rfl rfl rfl kl_X9_isThingThere rfl rfl rfl (c_X9_isThingThere _ _ _ hc _) rfl ?_
  refine Ev.brF (i1 := 12) (i2 := 7) e_X9_thing rfl rfl (bF (g_ok hj (by omega))) ?_
  refine Ev.sn e_X9_thing 3 (i' := 10) (ls' := [_, _, _]) (st' := [_, _, _]) rfl ?_
  refine Ev.clS e_X9_thing rfl rfl rfl (as := [_, _, _]) rfl rfl rfl rfl rfl (c_X9_in _ _ _ _ _) rfl ?_
  refine Ev.brF (i1 := 12) (i2 := 14) e_X9_thing rfl rfl ((by decide)) ?_
  refine Ev.sn e_X9_thing 2 (i' := 16) (ls' := [_, _, _]) (st' := [_, _]) rfl ?_
  refine Ev.brF (i1 := 36) (i2 := 17) e_X9_thing rfl rfl ((by decide)) ?_
  refine Ev.sn e_X9_thing 2 (i' := 19) (ls' := [_, _, _]) (st' := [_, _]) rfl ?_
  refine Ev.brF (i1 := 20) (i2 := 27) e_X9_thing rfl rfl ((by decide)) ?_
  refine Ev.sn e_X9_thing 7 (i' := 34) (ls' := [_, _, _]) (st' := [_, _]) rfl ?_
  refine Ev.ialdE e_X9_thing rfl rfl rfl rfl (ixm 4 2 j) (by omega) ?_
  refine Ev.iret e_X9_thing rfl rfl rfl ?_ rfl
  exact (cut_lt (f := fun t => g 3 (4 * t + 2)) hj).symm
set_option maxRecDepth 20000 in
set_option maxHeartbeats 200000 in
theorem c_X9_thing_3 (d : Nat) (g : Nat → Nat → Int32) (tr : Int64) {n q dn : Nat} (hc : RI n q dn g) {j : Nat} (hj : j < n) : Ev (d + 4) 140 0 [.ref 0, .int (nI j), .int 3] [] (wR g tr) (some (.int ((vR n q dn g) 3 j))) (wR g tr) := by
  have hb := hc.b
  refine Ev.sn e_X9_thing 2 (i' := 2) (ls' := [_, _, _]) (st' := [_, _]) rfl ?_
  refine Ev.put e_X9_thing rfl rfl rfl rfl rfl rfl (w1 := wR g tr) rfl ?_
  refine Ev.sn e_X9_thing 2 (i' := 5) (ls' := [_, _, _]) (st' := [_, _]) rfl ?_
  refine Ev.clV e_X9_thing rfl rfl (as := [_]) rfl rfl rfl kl_X9_isThingThere rfl rfl rfl (c_X9_isThingThere _ _ _ hc _) rfl ?_
  refine Ev.brF (i1 := 12) (i2 := 7) e_X9_thing rfl rfl (bF (g_ok hj (by omega))) ?_
  refine Ev.sn e_X9_thing 3 (i' := 10) (ls' := [_, _, _]) (st' := [_, _, _]) rfl ?_
  refine Ev.clS e_X9_thing rfl rfl rfl (as := [_, _, _]) rfl rfl rfl rfl rfl (c_X9_in _ _ _ _ _) rfl ?_
  refine Ev.brF (i1 := 12) (i2 := 14) e_X9_thing rfl rfl ((by decide)) ?_
  refine Ev.sn e_X9_thing 2 (i' := 16) (ls' := [_, _, _]) (st' := [_, _]) rfl ?_
  refine Ev.brF (i1 := 36) (i2 := 17) e_X9_thing rfl rfl ((by decide)) ?_
  refine Ev.sn e_X9_thing 2 (i' := 19) (ls' := [_, _, _]) (st' := [_, _]) rfl ?_
  refine Ev.brF (i1 := 20) (i2 := 27) e_X9_thing rfl rfl ((by decide)) ?_
  refine Ev.sn e_X9_thing 7 (i' := 34) (ls' := [_, _, _]) (st' := [_, _]) rfl ?_
  refine Ev.ialdE e_X9_thing rfl rfl rfl rfl (ixm 4 3 j) (by omega) ?_
  refine Ev.iret e_X9_thing rfl rfl rfl ?_ rfl
  exact (cut_lt (f := fun t => g 3 (4 * t + 3)) hj).symm
set_option maxRecDepth 20000 in
set_option maxHeartbeats 200000 in
theorem c_X9_thing_4 (d : Nat) (g : Nat → Nat → Int32) (tr : Int64) {n q dn : Nat} (hc : RI n q dn g) {j : Nat} (hj : j < n) : Ev (d + 4) 140 0 [.ref 0, .int (nI j), .int 4] [] (wR g tr) (some (.int ((vR n q dn g) 12 j))) (wR g tr) := by
  have hb := hc.b
  refine Ev.sn e_X9_thing 2 (i' := 2) (ls' := [_, _, _]) (st' := [_, _]) rfl ?_
  refine Ev.put e_X9_thing rfl rfl rfl rfl rfl rfl (w1 := wR g tr) rfl ?_
  refine Ev.sn e_X9_thing 2 (i' := 5) (ls' := [_, _, _]) (st' := [_, _]) rfl ?_
  refine Ev.clV e_X9_thing rfl rfl (as := [_]) rfl rfl rfl kl_X9_isThingThere rfl rfl rfl (c_X9_isThingThere _ _ _ hc _) rfl ?_
  refine Ev.brF (i1 := 12) (i2 := 7) e_X9_thing rfl rfl (bF (g_ok hj (by omega))) ?_
  refine Ev.sn e_X9_thing 3 (i' := 10) (ls' := [_, _, _]) (st' := [_, _, _]) rfl ?_
  refine Ev.clS e_X9_thing rfl rfl rfl (as := [_, _, _]) rfl rfl rfl rfl rfl (c_X9_in _ _ _ _ _) rfl ?_
  refine Ev.brF (i1 := 12) (i2 := 14) e_X9_thing rfl rfl ((by decide)) ?_
  refine Ev.sn e_X9_thing 2 (i' := 16) (ls' := [_, _, _]) (st' := [_, _]) rfl ?_
  refine Ev.brT (i1 := 36) (i2 := 17) e_X9_thing rfl rfl ((by decide)) ?_
  refine Ev.sn e_X9_thing 2 (i' := 38) (ls' := [_, _, _]) (st' := [_, _]) rfl ?_
  refine Ev.brF (i1 := 39) (i2 := 43) e_X9_thing rfl rfl ((by decide)) ?_
  refine Ev.sn e_X9_thing 5 (i' := 48) (ls' := [_, _, _]) (st' := [_, _]) rfl ?_
  refine Ev.ialdE e_X9_thing rfl rfl rfl rfl (z_add _) (by omega) ?_
  refine Ev.br (i1 := 50) (i2 := 52) e_X9_thing rfl rfl (fun h0 => ?_) (fun h0 => ?_)
  · refine Ev.sn e_X9_thing 2 (i' := 60) (ls' := [_, _, _]) (st' := [_]) rfl ?_
    refine Ev.iret e_X9_thing rfl rfl rfl ?_ rfl
    rw [show (vR n q dn g) 12 j = if g 7 j = 0 then -9 else g 7 j - 1 from cut_lt (f := fun t => if g 7 t = 0 then -9 else g 7 t - 1) hj, if_pos h0]
  · refine Ev.sn e_X9_thing 5 (i' := 57) (ls' := [_, _, _]) (st' := [_, _]) rfl ?_
    refine Ev.ialdE e_X9_thing rfl rfl rfl rfl (z_add _) (by omega) ?_
    refine Ev.sn e_X9_thing 2 (i' := 60) (ls' := [_, _, _]) (st' := [_]) rfl ?_
    refine Ev.iret e_X9_thing rfl rfl rfl ?_ rfl
    rw [show (vR n q dn g) 12 j = if g 7 j = 0 then -9 else g 7 j - 1 from cut_lt (f := fun t => if g 7 t = 0 then -9 else g 7 t - 1) hj, if_neg h0]
set_option maxRecDepth 20000 in
set_option maxHeartbeats 200000 in
theorem c_X9_thing_5 (d : Nat) (g : Nat → Nat → Int32) (tr : Int64) {n q dn : Nat} (hc : RI n q dn g) {j : Nat} (hj : j < n) : Ev (d + 4) 140 0 [.ref 0, .int (nI j), .int 5] [] (wR g tr) (some (.int (PIF q (vR n q dn g) j))) (wR g tr) := by
  have hb := hc.b
  refine Ev.sn e_X9_thing 2 (i' := 2) (ls' := [_, _, _]) (st' := [_, _]) rfl ?_
  refine Ev.put e_X9_thing rfl rfl rfl rfl rfl rfl (w1 := wR g tr) rfl ?_
  refine Ev.sn e_X9_thing 2 (i' := 5) (ls' := [_, _, _]) (st' := [_, _]) rfl ?_
  refine Ev.clV e_X9_thing rfl rfl (as := [_]) rfl rfl rfl kl_X9_isThingThere rfl rfl rfl (c_X9_isThingThere _ _ _ hc _) rfl ?_
  refine Ev.brF (i1 := 12) (i2 := 7) e_X9_thing rfl rfl (bF (g_ok hj (by omega))) ?_
  refine Ev.sn e_X9_thing 3 (i' := 10) (ls' := [_, _, _]) (st' := [_, _, _]) rfl ?_
  refine Ev.clS e_X9_thing rfl rfl rfl (as := [_, _, _]) rfl rfl rfl rfl rfl (c_X9_in _ _ _ _ _) rfl ?_
  refine Ev.brF (i1 := 12) (i2 := 14) e_X9_thing rfl rfl ((by decide)) ?_
  refine Ev.sn e_X9_thing 2 (i' := 16) (ls' := [_, _, _]) (st' := [_, _]) rfl ?_
  refine Ev.brT (i1 := 36) (i2 := 17) e_X9_thing rfl rfl ((by decide)) ?_
  refine Ev.sn e_X9_thing 2 (i' := 38) (ls' := [_, _, _]) (st' := [_, _]) rfl ?_
  refine Ev.brT (i1 := 39) (i2 := 43) e_X9_thing rfl rfl ((by decide)) ?_
  refine Ev.sn e_X9_thing 2 (i' := 41) (ls' := [_, _, _]) (st' := [_, _]) rfl ?_
  refine Ev.clV e_X9_thing rfl rfl (as := [_]) rfl rfl rfl kl_X9_fitsOf rfl rfl rfl (c_X9_fitsOf _ _ _ hc hj) rfl ?_
  refine Ev.sn e_X9_thing 1 (i' := 60) (ls' := [_, _, _]) (st' := [_]) rfl ?_
  refine Ev.iret e_X9_thing rfl rfl rfl ?_ rfl
  rfl
set_option maxRecDepth 20000 in
set_option maxHeartbeats 200000 in
theorem c_X9_thing (d : Nat) (g : Nat → Nat → Int32) (tr : Int64) {n q dn : Nat} (hc : RI n q dn g) (t x : Int32) : Ev (d + 4) 140 0 [.ref 0, .int t, .int x] [] (wR g tr) (some (.int (S_thing n q (vR n q dn g) t x))) (wR g tr) := by
  have hb := hc.b
  by_cases hg : (decide (0 ≤ t) && decide (t < nI n)) = true
  · obtain ⟨j, hj, rfl⟩ := ixB (n := n) (by omega) hg
    have hcl : (nI j).toNatClampNeg = j := nI_clamp (by omega)
    by_cases x0 : x = 0
    · subst x0
      rw [show S_thing n q (vR n q dn g) (nI j) 0 = (vR n q dn g) 0 j by simp [S_thing, hg, hcl]]
      exact c_X9_thing_0 _ _ _ hc hj
    by_cases x1 : x = 1
    · subst x1
      rw [show S_thing n q (vR n q dn g) (nI j) 1 = (vR n q dn g) 1 j by simp [S_thing, hg, hcl]]
      exact c_X9_thing_1 _ _ _ hc hj
    by_cases x2 : x = 2
    · subst x2
      rw [show S_thing n q (vR n q dn g) (nI j) 2 = (vR n q dn g) 2 j by simp [S_thing, hg, hcl]]
      exact c_X9_thing_2 _ _ _ hc hj
    by_cases x3 : x = 3
    · subst x3
      rw [show S_thing n q (vR n q dn g) (nI j) 3 = (vR n q dn g) 3 j by simp [S_thing, hg, hcl]]
      exact c_X9_thing_3 _ _ _ hc hj
    by_cases x4 : x = 4
    · subst x4
      rw [show S_thing n q (vR n q dn g) (nI j) 4 = (vR n q dn g) 12 j by simp [S_thing, hg, hcl]]
      exact c_X9_thing_4 _ _ _ hc hj
    by_cases x5 : x = 5
    · subst x5
      rw [show S_thing n q (vR n q dn g) (nI j) 5 = PIF q (vR n q dn g) j by simp [S_thing, hg, hcl]]
      exact c_X9_thing_5 _ _ _ hc hj
    rw [show S_thing n q (vR n q dn g) (nI j) x = -1 by simp [S_thing, hg, x0, x1, x2, x3, x4, x5]]
    have hx : (decide (0 ≤ x) && decide (x ≤ nI 5)) = false := rngF (by omega) (fun j hj => by
      match j, hj with
      | 0, _ => exact x0
      | 1, _ => exact x1
      | 2, _ => exact x2
      | 3, _ => exact x3
      | 4, _ => exact x4
      | 5, _ => exact x5)
    refine Ev.sn e_X9_thing 2 (i' := 2) (ls' := [_, _, _]) (st' := [_, _]) rfl ?_
    refine Ev.put e_X9_thing rfl rfl rfl rfl rfl rfl (w1 := wR g tr) rfl ?_
    refine Ev.sn e_X9_thing 2 (i' := 5) (ls' := [_, _, _]) (st' := [_, _]) rfl ?_
    refine Ev.clV e_X9_thing rfl rfl (as := [_]) rfl rfl rfl kl_X9_isThingThere rfl rfl rfl (c_X9_isThingThere _ _ _ hc _) rfl ?_
    refine Ev.brF (i1 := 12) (i2 := 7) e_X9_thing rfl rfl (bF (g_ok hj (by omega))) ?_
    refine Ev.sn e_X9_thing 3 (i' := 10) (ls' := [_, _, _]) (st' := [_, _, _]) rfl ?_
    refine Ev.clS e_X9_thing rfl rfl rfl (as := [_, _, _]) rfl rfl rfl rfl rfl (c_X9_in _ _ _ _ _) rfl ?_
    refine Ev.brT (i1 := 12) (i2 := 14) e_X9_thing rfl rfl (bT hx) ?_
    refine Ev.sn e_X9_thing 1 (i' := 13) (ls' := [_, _, _]) (st' := [_]) rfl ?_
    refine Ev.iret e_X9_thing rfl rfl rfl ?_ rfl
    rfl
  · rw [show S_thing n q (vR n q dn g) t x = -1 by simp [S_thing, hg]]
    have hg2 : (decide (0 ≤ t) && decide (t < nI n)) = false := by simpa using hg
    refine Ev.sn e_X9_thing 2 (i' := 2) (ls' := [_, _, _]) (st' := [_, _]) rfl ?_
    refine Ev.put e_X9_thing rfl rfl rfl rfl rfl rfl (w1 := wR g tr) rfl ?_
    refine Ev.sn e_X9_thing 2 (i' := 5) (ls' := [_, _, _]) (st' := [_, _]) rfl ?_
    refine Ev.clV e_X9_thing rfl rfl (as := [_]) rfl rfl rfl kl_X9_isThingThere rfl rfl rfl (c_X9_isThingThere _ _ _ hc _) rfl ?_
    refine Ev.brT (i1 := 12) (i2 := 7) e_X9_thing rfl rfl (bT hg2) ?_
    refine Ev.sn e_X9_thing 1 (i' := 13) (ls' := [_, _, _]) (st' := [_]) rfl ?_
    refine Ev.iret e_X9_thing rfl rfl rfl ?_ rfl
    rfl
set_option maxRecDepth 20000 in
set_option maxHeartbeats 200000 in
theorem c_X9_person_0 (d : Nat) (g : Nat → Nat → Int32) (tr : Int64) {n q dn : Nat} (hc : RI n q dn g) {j : Nat} (hj : j < q) : Ev (d + 2) 143 0 [.ref 0, .int (nI j), .int 0] [] (wR g tr) (some (.int ((vR n q dn g) 4 j))) (wR g tr) := by
  have hb := hc.b
  refine Ev.sn e_X9_person 2 (i' := 2) (ls' := [_, _, _]) (st' := [_, _]) rfl ?_
  refine Ev.put e_X9_person rfl rfl rfl rfl rfl rfl (w1 := wR g tr) rfl ?_
  refine Ev.sn e_X9_person 2 (i' := 5) (ls' := [_, _, _]) (st' := [_, _]) rfl ?_
  refine Ev.clV e_X9_person rfl rfl (as := [_]) rfl rfl rfl kl_X9_isPerson rfl rfl rfl (c_X9_isPerson _ _ _ hc _) rfl ?_
  refine Ev.brF (i1 := 12) (i2 := 7) e_X9_person rfl rfl (bF (g_ok hj (by omega))) ?_
  refine Ev.sn e_X9_person 3 (i' := 10) (ls' := [_, _, _]) (st' := [_, _, _]) rfl ?_
  refine Ev.clS e_X9_person rfl rfl rfl (as := [_, _, _]) rfl rfl rfl rfl rfl (c_X9_in _ _ _ _ _) rfl ?_
  refine Ev.brF (i1 := 12) (i2 := 14) e_X9_person rfl rfl ((by decide)) ?_
  refine Ev.sn e_X9_person 1 (i' := 15) (ls' := [_, _, _]) (st' := [_]) rfl ?_
  refine Ev.brT (i1 := 16) (i2 := 23) e_X9_person rfl rfl ((by decide)) ?_
  refine Ev.sn e_X9_person 5 (i' := 21) (ls' := [_, _, _]) (st' := [_, _]) rfl ?_
  refine Ev.ialdE e_X9_person rfl rfl rfl rfl (nI_add 12 j) (by omega) ?_
  refine Ev.sn e_X9_person 1 (i' := 45) (ls' := [_, _, _]) (st' := [_]) rfl ?_
  refine Ev.iret e_X9_person rfl rfl rfl ?_ rfl
  exact (cut_lt (f := fun t => g 7 (12 + t)) hj).symm
set_option maxRecDepth 20000 in
set_option maxHeartbeats 200000 in
theorem c_X9_person_1 (d : Nat) (g : Nat → Nat → Int32) (tr : Int64) {n q dn : Nat} (hc : RI n q dn g) {j : Nat} (hj : j < q) : Ev (d + 2) 143 0 [.ref 0, .int (nI j), .int 1] [] (wR g tr) (some (.int ((vR n q dn g) 5 j))) (wR g tr) := by
  have hb := hc.b
  refine Ev.sn e_X9_person 2 (i' := 2) (ls' := [_, _, _]) (st' := [_, _]) rfl ?_
  refine Ev.put e_X9_person rfl rfl rfl rfl rfl rfl (w1 := wR g tr) rfl ?_
  refine Ev.sn e_X9_person 2 (i' := 5) (ls' := [_, _, _]) (st' := [_, _]) rfl ?_
  refine Ev.clV e_X9_person rfl rfl (as := [_]) rfl rfl rfl kl_X9_isPerson rfl rfl rfl (c_X9_isPerson _ _ _ hc _) rfl ?_
  refine Ev.brF (i1 := 12) (i2 := 7) e_X9_person rfl rfl (bF (g_ok hj (by omega))) ?_
  refine Ev.sn e_X9_person 3 (i' := 10) (ls' := [_, _, _]) (st' := [_, _, _]) rfl ?_
  refine Ev.clS e_X9_person rfl rfl rfl (as := [_, _, _]) rfl rfl rfl rfl rfl (c_X9_in _ _ _ _ _) rfl ?_
  refine Ev.brF (i1 := 12) (i2 := 14) e_X9_person rfl rfl ((by decide)) ?_
  refine Ev.sn e_X9_person 1 (i' := 15) (ls' := [_, _, _]) (st' := [_]) rfl ?_
  refine Ev.brF (i1 := 16) (i2 := 23) e_X9_person rfl rfl ((by decide)) ?_
  refine Ev.sn e_X9_person 2 (i' := 25) (ls' := [_, _, _]) (st' := [_, _]) rfl ?_
  refine Ev.brT (i1 := 26) (i2 := 35) e_X9_person rfl rfl ((by decide)) ?_
  refine Ev.sn e_X9_person 7 (i' := 33) (ls' := [_, _, _]) (st' := [_, _]) rfl ?_
  refine Ev.ialdE e_X9_person rfl rfl rfl rfl (ixm 2 1 j) (by omega) ?_
  refine Ev.sn e_X9_person 1 (i' := 45) (ls' := [_, _, _]) (st' := [_]) rfl ?_
  refine Ev.iret e_X9_person rfl rfl rfl ?_ rfl
  exact (cut_lt (f := fun t => g 4 (2 * t + 1)) hj).symm
set_option maxRecDepth 20000 in
set_option maxHeartbeats 200000 in
theorem c_X9_person_2 (d : Nat) (g : Nat → Nat → Int32) (tr : Int64) {n q dn : Nat} (hc : RI n q dn g) {j : Nat} (hj : j < q) : Ev (d + 2) 143 0 [.ref 0, .int (nI j), .int 2] [] (wR g tr) (some (.int (TOF n (vR n q dn g) (nI j)))) (wR g tr) := by
  have hb := hc.b
  refine Ev.sn e_X9_person 2 (i' := 2) (ls' := [_, _, _]) (st' := [_, _]) rfl ?_
  refine Ev.put e_X9_person rfl rfl rfl rfl rfl rfl (w1 := wR g tr) rfl ?_
  refine Ev.sn e_X9_person 2 (i' := 5) (ls' := [_, _, _]) (st' := [_, _]) rfl ?_
  refine Ev.clV e_X9_person rfl rfl (as := [_]) rfl rfl rfl kl_X9_isPerson rfl rfl rfl (c_X9_isPerson _ _ _ hc _) rfl ?_
  refine Ev.brF (i1 := 12) (i2 := 7) e_X9_person rfl rfl (bF (g_ok hj (by omega))) ?_
  refine Ev.sn e_X9_person 3 (i' := 10) (ls' := [_, _, _]) (st' := [_, _, _]) rfl ?_
  refine Ev.clS e_X9_person rfl rfl rfl (as := [_, _, _]) rfl rfl rfl rfl rfl (c_X9_in _ _ _ _ _) rfl ?_
  refine Ev.brF (i1 := 12) (i2 := 14) e_X9_person rfl rfl ((by decide)) ?_
  refine Ev.sn e_X9_person 1 (i' := 15) (ls' := [_, _, _]) (st' := [_]) rfl ?_
  refine Ev.brF (i1 := 16) (i2 := 23) e_X9_person rfl rfl ((by decide)) ?_
  refine Ev.sn e_X9_person 2 (i' := 25) (ls' := [_, _, _]) (st' := [_, _]) rfl ?_
  refine Ev.brF (i1 := 26) (i2 := 35) e_X9_person rfl rfl ((by decide)) ?_
  refine Ev.sn e_X9_person 2 (i' := 37) (ls' := [_, _, _]) (st' := [_, _]) rfl ?_
  refine Ev.brT (i1 := 38) (i2 := 42) e_X9_person rfl rfl ((by decide)) ?_
  refine Ev.sn e_X9_person 2 (i' := 40) (ls' := [_, _, _]) (st' := [_, _]) rfl ?_
  refine Ev.clV e_X9_person rfl rfl (as := [_]) rfl rfl rfl kl_X9_thingsOf rfl rfl rfl (c_X9_thingsOf _ _ _ hc (by omega)) rfl ?_
  refine Ev.sn e_X9_person 1 (i' := 45) (ls' := [_, _, _]) (st' := [_]) rfl ?_
  refine Ev.iret e_X9_person rfl rfl rfl ?_ rfl
  rfl
set_option maxRecDepth 20000 in
set_option maxHeartbeats 200000 in
theorem c_X9_person_3 (d : Nat) (g : Nat → Nat → Int32) (tr : Int64) {n q dn : Nat} (hc : RI n q dn g) {j : Nat} (hj : j < q) : Ev (d + 2) 143 0 [.ref 0, .int (nI j), .int 3] [] (wR g tr) (some (.int (SMT q (vR n q dn g) j))) (wR g tr) := by
  have hb := hc.b
  refine Ev.sn e_X9_person 2 (i' := 2) (ls' := [_, _, _]) (st' := [_, _]) rfl ?_
  refine Ev.put e_X9_person rfl rfl rfl rfl rfl rfl (w1 := wR g tr) rfl ?_
  refine Ev.sn e_X9_person 2 (i' := 5) (ls' := [_, _, _]) (st' := [_, _]) rfl ?_
  refine Ev.clV e_X9_person rfl rfl (as := [_]) rfl rfl rfl kl_X9_isPerson rfl rfl rfl (c_X9_isPerson _ _ _ hc _) rfl ?_
  refine Ev.brF (i1 := 12) (i2 := 7) e_X9_person rfl rfl (bF (g_ok hj (by omega))) ?_
  refine Ev.sn e_X9_person 3 (i' := 10) (ls' := [_, _, _]) (st' := [_, _, _]) rfl ?_
  refine Ev.clS e_X9_person rfl rfl rfl (as := [_, _, _]) rfl rfl rfl rfl rfl (c_X9_in _ _ _ _ _) rfl ?_
  refine Ev.brF (i1 := 12) (i2 := 14) e_X9_person rfl rfl ((by decide)) ?_
  refine Ev.sn e_X9_person 1 (i' := 15) (ls' := [_, _, _]) (st' := [_]) rfl ?_
  refine Ev.brF (i1 := 16) (i2 := 23) e_X9_person rfl rfl ((by decide)) ?_
  refine Ev.sn e_X9_person 2 (i' := 25) (ls' := [_, _, _]) (st' := [_, _]) rfl ?_
  refine Ev.brF (i1 := 26) (i2 := 35) e_X9_person rfl rfl ((by decide)) ?_
  refine Ev.sn e_X9_person 2 (i' := 37) (ls' := [_, _, _]) (st' := [_, _]) rfl ?_
  refine Ev.brF (i1 := 38) (i2 := 42) e_X9_person rfl rfl ((by decide)) ?_
  refine Ev.sn e_X9_person 2 (i' := 44) (ls' := [_, _, _]) (st' := [_, _]) rfl ?_
  refine Ev.clV e_X9_person rfl rfl (as := [_]) rfl rfl rfl kl_X9_taller rfl rfl rfl (c_X9_taller _ _ _ hc hj) rfl ?_
  refine Ev.iret e_X9_person rfl rfl rfl ?_ rfl
  rfl
set_option maxRecDepth 20000 in
set_option maxHeartbeats 200000 in
theorem c_X9_person (d : Nat) (g : Nat → Nat → Int32) (tr : Int64) {n q dn : Nat} (hc : RI n q dn g) (t x : Int32) : Ev (d + 2) 143 0 [.ref 0, .int t, .int x] [] (wR g tr) (some (.int (S_person n q (vR n q dn g) t x))) (wR g tr) := by
  have hb := hc.b
  by_cases hg : (decide (0 ≤ t) && decide (t < nI q)) = true
  · obtain ⟨j, hj, rfl⟩ := ixB (n := q) (by omega) hg
    have hcl : (nI j).toNatClampNeg = j := nI_clamp (by omega)
    by_cases x0 : x = 0
    · subst x0
      rw [show S_person n q (vR n q dn g) (nI j) 0 = (vR n q dn g) 4 j by simp [S_person, hg, hcl]]
      exact c_X9_person_0 _ _ _ hc hj
    by_cases x1 : x = 1
    · subst x1
      rw [show S_person n q (vR n q dn g) (nI j) 1 = (vR n q dn g) 5 j by simp [S_person, hg, hcl]]
      exact c_X9_person_1 _ _ _ hc hj
    by_cases x2 : x = 2
    · subst x2
      rw [show S_person n q (vR n q dn g) (nI j) 2 = TOF n (vR n q dn g) (nI j) by simp [S_person, hg, hcl]]
      exact c_X9_person_2 _ _ _ hc hj
    by_cases x3 : x = 3
    · subst x3
      rw [show S_person n q (vR n q dn g) (nI j) 3 = SMT q (vR n q dn g) j by simp [S_person, hg, hcl]]
      exact c_X9_person_3 _ _ _ hc hj
    rw [show S_person n q (vR n q dn g) (nI j) x = -1 by simp [S_person, hg, x0, x1, x2, x3]]
    have hx : (decide (0 ≤ x) && decide (x ≤ nI 3)) = false := rngF (by omega) (fun j hj => by
      match j, hj with
      | 0, _ => exact x0
      | 1, _ => exact x1
      | 2, _ => exact x2
      | 3, _ => exact x3)
    refine Ev.sn e_X9_person 2 (i' := 2) (ls' := [_, _, _]) (st' := [_, _]) rfl ?_
    refine Ev.put e_X9_person rfl rfl rfl rfl rfl rfl (w1 := wR g tr) rfl ?_
    refine Ev.sn e_X9_person 2 (i' := 5) (ls' := [_, _, _]) (st' := [_, _]) rfl ?_
    refine Ev.clV e_X9_person rfl rfl (as := [_]) rfl rfl rfl kl_X9_isPerson rfl rfl rfl (c_X9_isPerson _ _ _ hc _) rfl ?_
    refine Ev.brF (i1 := 12) (i2 := 7) e_X9_person rfl rfl (bF (g_ok hj (by omega))) ?_
    refine Ev.sn e_X9_person 3 (i' := 10) (ls' := [_, _, _]) (st' := [_, _, _]) rfl ?_
    refine Ev.clS e_X9_person rfl rfl rfl (as := [_, _, _]) rfl rfl rfl rfl rfl (c_X9_in _ _ _ _ _) rfl ?_
    refine Ev.brT (i1 := 12) (i2 := 14) e_X9_person rfl rfl (bT hx) ?_
    refine Ev.sn e_X9_person 1 (i' := 13) (ls' := [_, _, _]) (st' := [_]) rfl ?_
    refine Ev.iret e_X9_person rfl rfl rfl ?_ rfl
    rfl
  · rw [show S_person n q (vR n q dn g) t x = -1 by simp [S_person, hg]]
    have hg2 : (decide (0 ≤ t) && decide (t < nI q)) = false := by simpa using hg
    refine Ev.sn e_X9_person 2 (i' := 2) (ls' := [_, _, _]) (st' := [_, _]) rfl ?_
    refine Ev.put e_X9_person rfl rfl rfl rfl rfl rfl (w1 := wR g tr) rfl ?_
    refine Ev.sn e_X9_person 2 (i' := 5) (ls' := [_, _, _]) (st' := [_, _]) rfl ?_
    refine Ev.clV e_X9_person rfl rfl (as := [_]) rfl rfl rfl kl_X9_isPerson rfl rfl rfl (c_X9_isPerson _ _ _ hc _) rfl ?_
    refine Ev.brT (i1 := 12) (i2 := 7) e_X9_person rfl rfl (bT hg2) ?_
    refine Ev.sn e_X9_person 1 (i' := 13) (ls' := [_, _, _]) (st' := [_]) rfl ?_
    refine Ev.iret e_X9_person rfl rfl rfl ?_ rfl
    rfl
set_option maxRecDepth 20000 in
set_option maxHeartbeats 200000 in
theorem c_X9_door_0 (d : Nat) (g : Nat → Nat → Int32) (tr : Int64) {n q dn : Nat} (hc : RI n q dn g) {j : Nat} (hj : j < dn) : Ev (d + 1) 144 0 [.ref 0, .int (nI j), .int 0] [] (wR g tr) (some (.int ((vR n q dn g) 8 j))) (wR g tr) := by
  have hb := hc.b
  refine Ev.sn e_X9_door 2 (i' := 2) (ls' := [_, _, _]) (st' := [_, _]) rfl ?_
  refine Ev.put e_X9_door rfl rfl rfl rfl rfl rfl (w1 := wR g tr) rfl ?_
  refine Ev.sn e_X9_door 5 (i' := 8) (ls' := [_, _, _]) (st' := [_, _, _, _]) rfl ?_
  refine Ev.ialdE e_X9_door rfl rfl rfl rfl (m := 2) rfl (by decide) ?_
  refine Ev.sn e_X9_door 2 (i' := 11) (ls' := [_, _, _]) (st' := [_, _, _]) rfl ?_
  refine Ev.clS e_X9_door rfl rfl rfl (as := [_, _, _]) rfl rfl rfl rfl rfl (c_X9_in _ _ _ _ _) rfl ?_
  refine Ev.brF (i1 := 27) (i2 := 13) e_X9_door rfl rfl (by rw [hc.hd, decide_eq_decide.mpr (le_pred (n := dn) (by omega))]; exact bF (g_ok hj (by omega))) ?_
  refine Ev.sn e_X9_door 3 (i' := 16) (ls' := [_, _, _]) (st' := [_, _, _]) rfl ?_
  refine Ev.clS e_X9_door rfl rfl rfl (as := [_, _, _]) rfl rfl rfl rfl rfl (c_X9_in _ _ _ _ _) rfl ?_
  refine Ev.brF (i1 := 27) (i2 := 18) e_X9_door rfl rfl ((by decide)) ?_
  refine Ev.sn e_X9_door 7 (i' := 25) (ls' := [_, _, _]) (st' := [_, _]) rfl ?_
  refine Ev.ialdE e_X9_door rfl rfl rfl rfl (ixm 4 0 j) (by omega) ?_
  refine Ev.sn e_X9_door 1 (i' := 28) (ls' := [_, _, _]) (st' := [_]) rfl ?_
  refine Ev.iret e_X9_door rfl rfl rfl ?_ rfl
  exact (cut_lt (f := fun t => g 5 (4 * t + 0)) hj).symm
set_option maxRecDepth 20000 in
set_option maxHeartbeats 200000 in
theorem c_X9_door_1 (d : Nat) (g : Nat → Nat → Int32) (tr : Int64) {n q dn : Nat} (hc : RI n q dn g) {j : Nat} (hj : j < dn) : Ev (d + 1) 144 0 [.ref 0, .int (nI j), .int 1] [] (wR g tr) (some (.int ((vR n q dn g) 9 j))) (wR g tr) := by
  have hb := hc.b
  refine Ev.sn e_X9_door 2 (i' := 2) (ls' := [_, _, _]) (st' := [_, _]) rfl ?_
  refine Ev.put e_X9_door rfl rfl rfl rfl rfl rfl (w1 := wR g tr) rfl ?_
  refine Ev.sn e_X9_door 5 (i' := 8) (ls' := [_, _, _]) (st' := [_, _, _, _]) rfl ?_
  refine Ev.ialdE e_X9_door rfl rfl rfl rfl (m := 2) rfl (by decide) ?_
  refine Ev.sn e_X9_door 2 (i' := 11) (ls' := [_, _, _]) (st' := [_, _, _]) rfl ?_
  refine Ev.clS e_X9_door rfl rfl rfl (as := [_, _, _]) rfl rfl rfl rfl rfl (c_X9_in _ _ _ _ _) rfl ?_
  refine Ev.brF (i1 := 27) (i2 := 13) e_X9_door rfl rfl (by rw [hc.hd, decide_eq_decide.mpr (le_pred (n := dn) (by omega))]; exact bF (g_ok hj (by omega))) ?_
  refine Ev.sn e_X9_door 3 (i' := 16) (ls' := [_, _, _]) (st' := [_, _, _]) rfl ?_
  refine Ev.clS e_X9_door rfl rfl rfl (as := [_, _, _]) rfl rfl rfl rfl rfl (c_X9_in _ _ _ _ _) rfl ?_
  refine Ev.brF (i1 := 27) (i2 := 18) e_X9_door rfl rfl ((by decide)) ?_
  refine Ev.sn e_X9_door 7 (i' := 25) (ls' := [_, _, _]) (st' := [_, _]) rfl ?_
  refine Ev.ialdE e_X9_door rfl rfl rfl rfl (ixm 4 1 j) (by omega) ?_
  refine Ev.sn e_X9_door 1 (i' := 28) (ls' := [_, _, _]) (st' := [_]) rfl ?_
  refine Ev.iret e_X9_door rfl rfl rfl ?_ rfl
  exact (cut_lt (f := fun t => g 5 (4 * t + 1)) hj).symm
set_option maxRecDepth 20000 in
set_option maxHeartbeats 200000 in
theorem c_X9_door_2 (d : Nat) (g : Nat → Nat → Int32) (tr : Int64) {n q dn : Nat} (hc : RI n q dn g) {j : Nat} (hj : j < dn) : Ev (d + 1) 144 0 [.ref 0, .int (nI j), .int 2] [] (wR g tr) (some (.int ((vR n q dn g) 10 j))) (wR g tr) := by
  have hb := hc.b
  refine Ev.sn e_X9_door 2 (i' := 2) (ls' := [_, _, _]) (st' := [_, _]) rfl ?_
  refine Ev.put e_X9_door rfl rfl rfl rfl rfl rfl (w1 := wR g tr) rfl ?_
  refine Ev.sn e_X9_door 5 (i' := 8) (ls' := [_, _, _]) (st' := [_, _, _, _]) rfl ?_
  refine Ev.ialdE e_X9_door rfl rfl rfl rfl (m := 2) rfl (by decide) ?_
  refine Ev.sn e_X9_door 2 (i' := 11) (ls' := [_, _, _]) (st' := [_, _, _]) rfl ?_
  refine Ev.clS e_X9_door rfl rfl rfl (as := [_, _, _]) rfl rfl rfl rfl rfl (c_X9_in _ _ _ _ _) rfl ?_
  refine Ev.brF (i1 := 27) (i2 := 13) e_X9_door rfl rfl (by rw [hc.hd, decide_eq_decide.mpr (le_pred (n := dn) (by omega))]; exact bF (g_ok hj (by omega))) ?_
  refine Ev.sn e_X9_door 3 (i' := 16) (ls' := [_, _, _]) (st' := [_, _, _]) rfl ?_
  refine Ev.clS e_X9_door rfl rfl rfl (as := [_, _, _]) rfl rfl rfl rfl rfl (c_X9_in _ _ _ _ _) rfl ?_
  refine Ev.brF (i1 := 27) (i2 := 18) e_X9_door rfl rfl ((by decide)) ?_
  refine Ev.sn e_X9_door 7 (i' := 25) (ls' := [_, _, _]) (st' := [_, _]) rfl ?_
  refine Ev.ialdE e_X9_door rfl rfl rfl rfl (ixm 4 2 j) (by omega) ?_
  refine Ev.sn e_X9_door 1 (i' := 28) (ls' := [_, _, _]) (st' := [_]) rfl ?_
  refine Ev.iret e_X9_door rfl rfl rfl ?_ rfl
  exact (cut_lt (f := fun t => g 5 (4 * t + 2)) hj).symm
set_option maxRecDepth 20000 in
set_option maxHeartbeats 200000 in
theorem c_X9_door_3 (d : Nat) (g : Nat → Nat → Int32) (tr : Int64) {n q dn : Nat} (hc : RI n q dn g) {j : Nat} (hj : j < dn) : Ev (d + 1) 144 0 [.ref 0, .int (nI j), .int 3] [] (wR g tr) (some (.int ((vR n q dn g) 11 j))) (wR g tr) := by
  have hb := hc.b
  refine Ev.sn e_X9_door 2 (i' := 2) (ls' := [_, _, _]) (st' := [_, _]) rfl ?_
  refine Ev.put e_X9_door rfl rfl rfl rfl rfl rfl (w1 := wR g tr) rfl ?_
  refine Ev.sn e_X9_door 5 (i' := 8) (ls' := [_, _, _]) (st' := [_, _, _, _]) rfl ?_
  refine Ev.ialdE e_X9_door rfl rfl rfl rfl (m := 2) rfl (by decide) ?_
  refine Ev.sn e_X9_door 2 (i' := 11) (ls' := [_, _, _]) (st' := [_, _, _]) rfl ?_
  refine Ev.clS e_X9_door rfl rfl rfl (as := [_, _, _]) rfl rfl rfl rfl rfl (c_X9_in _ _ _ _ _) rfl ?_
  refine Ev.brF (i1 := 27) (i2 := 13) e_X9_door rfl rfl (by rw [hc.hd, decide_eq_decide.mpr (le_pred (n := dn) (by omega))]; exact bF (g_ok hj (by omega))) ?_
  refine Ev.sn e_X9_door 3 (i' := 16) (ls' := [_, _, _]) (st' := [_, _, _]) rfl ?_
  refine Ev.clS e_X9_door rfl rfl rfl (as := [_, _, _]) rfl rfl rfl rfl rfl (c_X9_in _ _ _ _ _) rfl ?_
  refine Ev.brF (i1 := 27) (i2 := 18) e_X9_door rfl rfl ((by decide)) ?_
  refine Ev.sn e_X9_door 7 (i' := 25) (ls' := [_, _, _]) (st' := [_, _]) rfl ?_
  refine Ev.ialdE e_X9_door rfl rfl rfl rfl (ixm 4 3 j) (by omega) ?_
  refine Ev.sn e_X9_door 1 (i' := 28) (ls' := [_, _, _]) (st' := [_]) rfl ?_
  refine Ev.iret e_X9_door rfl rfl rfl ?_ rfl
  exact (cut_lt (f := fun t => g 5 (4 * t + 3)) hj).symm
set_option maxRecDepth 20000 in
set_option maxHeartbeats 200000 in
theorem c_X9_door (d : Nat) (g : Nat → Nat → Int32) (tr : Int64) {n q dn : Nat} (hc : RI n q dn g) (t x : Int32) : Ev (d + 1) 144 0 [.ref 0, .int t, .int x] [] (wR g tr) (some (.int (S_door dn (vR n q dn g) t x))) (wR g tr) := by
  have hb := hc.b
  by_cases hg : (decide (0 ≤ t) && decide (t < nI dn)) = true
  · obtain ⟨j, hj, rfl⟩ := ixB (n := dn) (by omega) hg
    have hcl : (nI j).toNatClampNeg = j := nI_clamp (by omega)
    by_cases x0 : x = 0
    · subst x0
      rw [show S_door dn (vR n q dn g) (nI j) 0 = (vR n q dn g) 8 j by simp [S_door, hg, hcl]]
      exact c_X9_door_0 _ _ _ hc hj
    by_cases x1 : x = 1
    · subst x1
      rw [show S_door dn (vR n q dn g) (nI j) 1 = (vR n q dn g) 9 j by simp [S_door, hg, hcl]]
      exact c_X9_door_1 _ _ _ hc hj
    by_cases x2 : x = 2
    · subst x2
      rw [show S_door dn (vR n q dn g) (nI j) 2 = (vR n q dn g) 10 j by simp [S_door, hg, hcl]]
      exact c_X9_door_2 _ _ _ hc hj
    by_cases x3 : x = 3
    · subst x3
      rw [show S_door dn (vR n q dn g) (nI j) 3 = (vR n q dn g) 11 j by simp [S_door, hg, hcl]]
      exact c_X9_door_3 _ _ _ hc hj
    rw [show S_door dn (vR n q dn g) (nI j) x = -1 by simp [S_door, hg, x0, x1, x2, x3]]
    have hx : (decide (0 ≤ x) && decide (x ≤ nI 3)) = false := rngF (by omega) (fun j hj => by
      match j, hj with
      | 0, _ => exact x0
      | 1, _ => exact x1
      | 2, _ => exact x2
      | 3, _ => exact x3)
    refine Ev.sn e_X9_door 2 (i' := 2) (ls' := [_, _, _]) (st' := [_, _]) rfl ?_
    refine Ev.put e_X9_door rfl rfl rfl rfl rfl rfl (w1 := wR g tr) rfl ?_
    refine Ev.sn e_X9_door 5 (i' := 8) (ls' := [_, _, _]) (st' := [_, _, _, _]) rfl ?_
    refine Ev.ialdE e_X9_door rfl rfl rfl rfl (m := 2) rfl (by decide) ?_
    refine Ev.sn e_X9_door 2 (i' := 11) (ls' := [_, _, _]) (st' := [_, _, _]) rfl ?_
    refine Ev.clS e_X9_door rfl rfl rfl (as := [_, _, _]) rfl rfl rfl rfl rfl (c_X9_in _ _ _ _ _) rfl ?_
    refine Ev.brF (i1 := 27) (i2 := 13) e_X9_door rfl rfl (by rw [hc.hd, decide_eq_decide.mpr (le_pred (n := dn) (by omega))]; exact bF (g_ok hj (by omega))) ?_
    refine Ev.sn e_X9_door 3 (i' := 16) (ls' := [_, _, _]) (st' := [_, _, _]) rfl ?_
    refine Ev.clS e_X9_door rfl rfl rfl (as := [_, _, _]) rfl rfl rfl rfl rfl (c_X9_in _ _ _ _ _) rfl ?_
    refine Ev.brT (i1 := 27) (i2 := 18) e_X9_door rfl rfl (bT hx) ?_
    refine Ev.sn e_X9_door 1 (i' := 28) (ls' := [_, _, _]) (st' := [_]) rfl ?_
    refine Ev.iret e_X9_door rfl rfl rfl ?_ rfl
    rfl
  · rw [show S_door dn (vR n q dn g) t x = -1 by simp [S_door, hg]]
    have hg2 : (decide (0 ≤ t) && decide (t < nI dn)) = false := by simpa using hg
    refine Ev.sn e_X9_door 2 (i' := 2) (ls' := [_, _, _]) (st' := [_, _]) rfl ?_
    refine Ev.put e_X9_door rfl rfl rfl rfl rfl rfl (w1 := wR g tr) rfl ?_
    refine Ev.sn e_X9_door 5 (i' := 8) (ls' := [_, _, _]) (st' := [_, _, _, _]) rfl ?_
    refine Ev.ialdE e_X9_door rfl rfl rfl rfl (m := 2) rfl (by decide) ?_
    refine Ev.sn e_X9_door 2 (i' := 11) (ls' := [_, _, _]) (st' := [_, _, _]) rfl ?_
    refine Ev.clS e_X9_door rfl rfl rfl (as := [_, _, _]) rfl rfl rfl rfl rfl (c_X9_in _ _ _ _ _) rfl ?_
    refine Ev.brT (i1 := 27) (i2 := 13) e_X9_door rfl rfl (by rw [hc.hd, decide_eq_decide.mpr (le_pred (n := dn) (by omega))]; exact bT hg2) ?_
    refine Ev.sn e_X9_door 1 (i' := 28) (ls' := [_, _, _]) (st' := [_]) rfl ?_
    refine Ev.iret e_X9_door rfl rfl rfl ?_ rfl
    rfl
set_option maxRecDepth 20000 in
set_option maxHeartbeats 200000 in
theorem c_X9_now_0 (d : Nat) (g : Nat → Nat → Int32) (tr : Int64) {n q dn : Nat} (hc : RI n q dn g) : Ev (d + 5) 148 0 [.ref 0, .int 0] [] (wR g tr) (some (.int (ULS n q (vR n q dn g)))) (wR g tr) := by
  have hb := hc.b
  refine Ev.sn e_X9_now 2 (i' := 2) (ls' := [_, _]) (st' := [_, _]) rfl ?_
  refine Ev.put e_X9_now rfl rfl rfl rfl rfl rfl (w1 := wR g tr) rfl ?_
  refine Ev.sn e_X9_now 3 (i' := 6) (ls' := [_, _]) (st' := [_, _, _]) rfl ?_
  refine Ev.clS e_X9_now rfl rfl rfl (as := [_, _, _]) rfl rfl rfl rfl rfl (c_X9_in _ _ _ _ _) rfl ?_
  refine Ev.brF (i1 := 8) (i2 := 10) e_X9_now rfl rfl ((by decide)) ?_
  refine Ev.sn e_X9_now 1 (i' := 11) (ls' := [_, _]) (st' := [_]) rfl ?_
  refine Ev.brT (i1 := 12) (i2 := 15) e_X9_now rfl rfl ((by decide)) ?_
  refine Ev.sn e_X9_now 1 (i' := 13) (ls' := [_, _]) (st' := [_]) rfl ?_
  refine Ev.clV e_X9_now rfl rfl (as := []) rfl rfl rfl kl_X9_useless rfl rfl rfl (c_X9_useless _ _ _ hc) rfl ?_
  refine Ev.sn e_X9_now 1 (i' := 32) (ls' := [_, _]) (st' := [_]) rfl ?_
  refine Ev.iret e_X9_now rfl rfl rfl ?_ rfl
  rfl
set_option maxRecDepth 20000 in
set_option maxHeartbeats 200000 in
theorem c_X9_now_1 (d : Nat) (g : Nat → Nat → Int32) (tr : Int64) {n q dn : Nat} (hc : RI n q dn g) : Ev (d + 5) 148 0 [.ref 0, .int 1] [] (wR g tr) (some (.int (BAR n q (vR n q dn g) 0))) (wR g tr) := by
  have hb := hc.b
  refine Ev.sn e_X9_now 2 (i' := 2) (ls' := [_, _]) (st' := [_, _]) rfl ?_
  refine Ev.put e_X9_now rfl rfl rfl rfl rfl rfl (w1 := wR g tr) rfl ?_
  refine Ev.sn e_X9_now 3 (i' := 6) (ls' := [_, _]) (st' := [_, _, _]) rfl ?_
  refine Ev.clS e_X9_now rfl rfl rfl (as := [_, _, _]) rfl rfl rfl rfl rfl (c_X9_in _ _ _ _ _) rfl ?_
  refine Ev.brF (i1 := 8) (i2 := 10) e_X9_now rfl rfl ((by decide)) ?_
  refine Ev.sn e_X9_now 1 (i' := 11) (ls' := [_, _]) (st' := [_]) rfl ?_
  refine Ev.brF (i1 := 12) (i2 := 15) e_X9_now rfl rfl ((by decide)) ?_
  refine Ev.sn e_X9_now 2 (i' := 17) (ls' := [_, _]) (st' := [_, _]) rfl ?_
  refine Ev.brF (i1 := 24) (i2 := 18) e_X9_now rfl rfl ((by decide)) ?_
  refine Ev.sn e_X9_now 4 (i' := 22) (ls' := [_, _]) (st' := [_, _]) rfl ?_
  refine Ev.clV e_X9_now rfl rfl (as := [_]) rfl rfl rfl kl_X9_bare rfl rfl rfl (c_X9_bare _ _ _ hc _) rfl ?_
  refine Ev.sn e_X9_now 1 (i' := 32) (ls' := [_, _]) (st' := [_]) rfl ?_
  refine Ev.iret e_X9_now rfl rfl rfl ?_ rfl
  rfl
set_option maxRecDepth 20000 in
set_option maxHeartbeats 200000 in
theorem c_X9_now_2 (d : Nat) (g : Nat → Nat → Int32) (tr : Int64) {n q dn : Nat} (hc : RI n q dn g) : Ev (d + 5) 148 0 [.ref 0, .int 2] [] (wR g tr) (some (.int (BAR n q (vR n q dn g) 1))) (wR g tr) := by
  have hb := hc.b
  refine Ev.sn e_X9_now 2 (i' := 2) (ls' := [_, _]) (st' := [_, _]) rfl ?_
  refine Ev.put e_X9_now rfl rfl rfl rfl rfl rfl (w1 := wR g tr) rfl ?_
  refine Ev.sn e_X9_now 3 (i' := 6) (ls' := [_, _]) (st' := [_, _, _]) rfl ?_
  refine Ev.clS e_X9_now rfl rfl rfl (as := [_, _, _]) rfl rfl rfl rfl rfl (c_X9_in _ _ _ _ _) rfl ?_
  refine Ev.brF (i1 := 8) (i2 := 10) e_X9_now rfl rfl ((by decide)) ?_
  refine Ev.sn e_X9_now 1 (i' := 11) (ls' := [_, _]) (st' := [_]) rfl ?_
  refine Ev.brF (i1 := 12) (i2 := 15) e_X9_now rfl rfl ((by decide)) ?_
  refine Ev.sn e_X9_now 2 (i' := 17) (ls' := [_, _]) (st' := [_, _]) rfl ?_
  refine Ev.brF (i1 := 24) (i2 := 18) e_X9_now rfl rfl ((by decide)) ?_
  refine Ev.sn e_X9_now 4 (i' := 22) (ls' := [_, _]) (st' := [_, _]) rfl ?_
  refine Ev.clV e_X9_now rfl rfl (as := [_]) rfl rfl rfl kl_X9_bare rfl rfl rfl (c_X9_bare _ _ _ hc _) rfl ?_
  refine Ev.sn e_X9_now 1 (i' := 32) (ls' := [_, _]) (st' := [_]) rfl ?_
  refine Ev.iret e_X9_now rfl rfl rfl ?_ rfl
  rfl
set_option maxRecDepth 20000 in
set_option maxHeartbeats 200000 in
theorem c_X9_now_3 (d : Nat) (g : Nat → Nat → Int32) (tr : Int64) {n q dn : Nat} (hc : RI n q dn g) : Ev (d + 5) 148 0 [.ref 0, .int 3] [] (wR g tr) (some (.int (BAR n q (vR n q dn g) 2))) (wR g tr) := by
  have hb := hc.b
  refine Ev.sn e_X9_now 2 (i' := 2) (ls' := [_, _]) (st' := [_, _]) rfl ?_
  refine Ev.put e_X9_now rfl rfl rfl rfl rfl rfl (w1 := wR g tr) rfl ?_
  refine Ev.sn e_X9_now 3 (i' := 6) (ls' := [_, _]) (st' := [_, _, _]) rfl ?_
  refine Ev.clS e_X9_now rfl rfl rfl (as := [_, _, _]) rfl rfl rfl rfl rfl (c_X9_in _ _ _ _ _) rfl ?_
  refine Ev.brF (i1 := 8) (i2 := 10) e_X9_now rfl rfl ((by decide)) ?_
  refine Ev.sn e_X9_now 1 (i' := 11) (ls' := [_, _]) (st' := [_]) rfl ?_
  refine Ev.brF (i1 := 12) (i2 := 15) e_X9_now rfl rfl ((by decide)) ?_
  refine Ev.sn e_X9_now 2 (i' := 17) (ls' := [_, _]) (st' := [_, _]) rfl ?_
  refine Ev.brF (i1 := 24) (i2 := 18) e_X9_now rfl rfl ((by decide)) ?_
  refine Ev.sn e_X9_now 4 (i' := 22) (ls' := [_, _]) (st' := [_, _]) rfl ?_
  refine Ev.clV e_X9_now rfl rfl (as := [_]) rfl rfl rfl kl_X9_bare rfl rfl rfl (c_X9_bare _ _ _ hc _) rfl ?_
  refine Ev.sn e_X9_now 1 (i' := 32) (ls' := [_, _]) (st' := [_]) rfl ?_
  refine Ev.iret e_X9_now rfl rfl rfl ?_ rfl
  rfl
set_option maxRecDepth 20000 in
set_option maxHeartbeats 200000 in
theorem c_X9_now_4 (d : Nat) (g : Nat → Nat → Int32) (tr : Int64) {n q dn : Nat} (hc : RI n q dn g) : Ev (d + 5) 148 0 [.ref 0, .int 4] [] (wR g tr) (some (.int (OWN n (vR n q dn g)))) (wR g tr) := by
  have hb := hc.b
  refine Ev.sn e_X9_now 2 (i' := 2) (ls' := [_, _]) (st' := [_, _]) rfl ?_
  refine Ev.put e_X9_now rfl rfl rfl rfl rfl rfl (w1 := wR g tr) rfl ?_
  refine Ev.sn e_X9_now 3 (i' := 6) (ls' := [_, _]) (st' := [_, _, _]) rfl ?_
  refine Ev.clS e_X9_now rfl rfl rfl (as := [_, _, _]) rfl rfl rfl rfl rfl (c_X9_in _ _ _ _ _) rfl ?_
  refine Ev.brF (i1 := 8) (i2 := 10) e_X9_now rfl rfl ((by decide)) ?_
  refine Ev.sn e_X9_now 1 (i' := 11) (ls' := [_, _]) (st' := [_]) rfl ?_
  refine Ev.brF (i1 := 12) (i2 := 15) e_X9_now rfl rfl ((by decide)) ?_
  refine Ev.sn e_X9_now 2 (i' := 17) (ls' := [_, _]) (st' := [_, _]) rfl ?_
  refine Ev.brT (i1 := 24) (i2 := 18) e_X9_now rfl rfl ((by decide)) ?_
  refine Ev.sn e_X9_now 2 (i' := 26) (ls' := [_, _]) (st' := [_, _]) rfl ?_
  refine Ev.brT (i1 := 27) (i2 := 30) e_X9_now rfl rfl ((by decide)) ?_
  refine Ev.sn e_X9_now 1 (i' := 28) (ls' := [_, _]) (st' := [_]) rfl ?_
  refine Ev.clV e_X9_now rfl rfl (as := []) rfl rfl rfl kl_X9_owned rfl rfl rfl (c_X9_owned _ _ _ hc) rfl ?_
  refine Ev.sn e_X9_now 1 (i' := 32) (ls' := [_, _]) (st' := [_]) rfl ?_
  refine Ev.iret e_X9_now rfl rfl rfl ?_ rfl
  rfl
set_option maxRecDepth 20000 in
set_option maxHeartbeats 200000 in
theorem c_X9_now_5 (d : Nat) (g : Nat → Nat → Int32) (tr : Int64) {n q dn : Nat} (hc : RI n q dn g) : Ev (d + 5) 148 0 [.ref 0, .int 5] [] (wR g tr) (some (.int (g 0 6))) (wR g tr) := by
  have hb := hc.b
  refine Ev.sn e_X9_now 2 (i' := 2) (ls' := [_, _]) (st' := [_, _]) rfl ?_
  refine Ev.put e_X9_now rfl rfl rfl rfl rfl rfl (w1 := wR g tr) rfl ?_
  refine Ev.sn e_X9_now 3 (i' := 6) (ls' := [_, _]) (st' := [_, _, _]) rfl ?_
  refine Ev.clS e_X9_now rfl rfl rfl (as := [_, _, _]) rfl rfl rfl rfl rfl (c_X9_in _ _ _ _ _) rfl ?_
  refine Ev.brF (i1 := 8) (i2 := 10) e_X9_now rfl rfl ((by decide)) ?_
  refine Ev.sn e_X9_now 1 (i' := 11) (ls' := [_, _]) (st' := [_]) rfl ?_
  refine Ev.brF (i1 := 12) (i2 := 15) e_X9_now rfl rfl ((by decide)) ?_
  refine Ev.sn e_X9_now 2 (i' := 17) (ls' := [_, _]) (st' := [_, _]) rfl ?_
  refine Ev.brT (i1 := 24) (i2 := 18) e_X9_now rfl rfl ((by decide)) ?_
  refine Ev.sn e_X9_now 2 (i' := 26) (ls' := [_, _]) (st' := [_, _]) rfl ?_
  refine Ev.brF (i1 := 27) (i2 := 30) e_X9_now rfl rfl ((by decide)) ?_
  refine Ev.sn e_X9_now 2 (i' := 32) (ls' := [_, _]) (st' := [_]) rfl ?_
  refine Ev.iret e_X9_now rfl rfl rfl ?_ rfl
  rfl
set_option maxRecDepth 20000 in
set_option maxHeartbeats 200000 in
theorem c_X9_now (d : Nat) (g : Nat → Nat → Int32) (tr : Int64) {n q dn : Nat} (hc : RI n q dn g) (x : Int32) : Ev (d + 5) 148 0 [.ref 0, .int x] [] (wR g tr) (some (.int (S_now n q (vR n q dn g) (g 0 6) x))) (wR g tr) := by
  have hb := hc.b
  by_cases x0 : x = 0
  · subst x0
    exact c_X9_now_0 _ _ _ hc
  by_cases x1 : x = 1
  · subst x1
    exact c_X9_now_1 _ _ _ hc
  by_cases x2 : x = 2
  · subst x2
    exact c_X9_now_2 _ _ _ hc
  by_cases x3 : x = 3
  · subst x3
    exact c_X9_now_3 _ _ _ hc
  by_cases x4 : x = 4
  · subst x4
    exact c_X9_now_4 _ _ _ hc
  by_cases x5 : x = 5
  · subst x5
    exact c_X9_now_5 _ _ _ hc
  rw [show S_now n q (vR n q dn g) (g 0 6) x = -1 by simp [S_now, x0, x1, x2, x3, x4, x5]]
  have hx : (decide (0 ≤ x) && decide (x ≤ nI 5)) = false := rngF (by omega) (fun j hj => by
    match j, hj with
    | 0, _ => exact x0
    | 1, _ => exact x1
    | 2, _ => exact x2
    | 3, _ => exact x3
    | 4, _ => exact x4
    | 5, _ => exact x5)
  refine Ev.sn e_X9_now 2 (i' := 2) (ls' := [_, _]) (st' := [_, _]) rfl ?_
  refine Ev.put e_X9_now rfl rfl rfl rfl rfl rfl (w1 := wR g tr) rfl ?_
  refine Ev.sn e_X9_now 3 (i' := 6) (ls' := [_, _]) (st' := [_, _, _]) rfl ?_
  refine Ev.clS e_X9_now rfl rfl rfl (as := [_, _, _]) rfl rfl rfl rfl rfl (c_X9_in _ _ _ _ _) rfl ?_
  refine Ev.brT (i1 := 8) (i2 := 10) e_X9_now rfl rfl (bT hx) ?_
  refine Ev.sn e_X9_now 1 (i' := 9) (ls' := [_, _]) (st' := [_]) rfl ?_
  refine Ev.iret e_X9_now rfl rfl rfl ?_ rfl
  rfl
set_option maxRecDepth 20000 in
set_option maxHeartbeats 200000 in
theorem c_X9_count_0 (d : Nat) (g : Nat → Nat → Int32) (tr : Int64) {n q dn : Nat} (hc : RI n q dn g) : Ev (d + 1) 182 0 [.ref 0, .int 0] [] (wR g tr) (some (.int (nI n))) (wR g tr) := by
  have hb := hc.b
  refine Ev.sn e_X9_count 2 (i' := 2) (ls' := [_, _]) (st' := [_, _]) rfl ?_
  refine Ev.put e_X9_count rfl rfl rfl rfl rfl rfl (w1 := wR g tr) rfl ?_
  refine Ev.sn e_X9_count 3 (i' := 6) (ls' := [_, _]) (st' := [_, _, _]) rfl ?_
  refine Ev.clS e_X9_count rfl rfl rfl (as := [_, _, _]) rfl rfl rfl rfl rfl (c_X9_in _ _ _ _ _) rfl ?_
  refine Ev.brF (i1 := 13) (i2 := 8) e_X9_count rfl rfl ((by decide)) ?_
  refine Ev.sn e_X9_count 3 (i' := 11) (ls' := [_, _]) (st' := [_, _]) rfl ?_
  refine Ev.ialdE e_X9_count rfl rfl rfl rfl (m := 0) rfl (by decide) ?_
  refine Ev.sn e_X9_count 1 (i' := 26) (ls' := [_, _]) (st' := [_]) rfl ?_
  refine Ev.iret e_X9_count rfl rfl rfl ?_ rfl
  exact hc.hn
set_option maxRecDepth 20000 in
set_option maxHeartbeats 200000 in
theorem c_X9_count_1 (d : Nat) (g : Nat → Nat → Int32) (tr : Int64) {n q dn : Nat} (hc : RI n q dn g) : Ev (d + 1) 182 0 [.ref 0, .int 1] [] (wR g tr) (some (.int (nI q))) (wR g tr) := by
  have hb := hc.b
  refine Ev.sn e_X9_count 2 (i' := 2) (ls' := [_, _]) (st' := [_, _]) rfl ?_
  refine Ev.put e_X9_count rfl rfl rfl rfl rfl rfl (w1 := wR g tr) rfl ?_
  refine Ev.sn e_X9_count 3 (i' := 6) (ls' := [_, _]) (st' := [_, _, _]) rfl ?_
  refine Ev.clS e_X9_count rfl rfl rfl (as := [_, _, _]) rfl rfl rfl rfl rfl (c_X9_in _ _ _ _ _) rfl ?_
  refine Ev.brF (i1 := 13) (i2 := 8) e_X9_count rfl rfl ((by decide)) ?_
  refine Ev.sn e_X9_count 3 (i' := 11) (ls' := [_, _]) (st' := [_, _]) rfl ?_
  refine Ev.ialdE e_X9_count rfl rfl rfl rfl (m := 1) rfl (by decide) ?_
  refine Ev.sn e_X9_count 1 (i' := 26) (ls' := [_, _]) (st' := [_]) rfl ?_
  refine Ev.iret e_X9_count rfl rfl rfl ?_ rfl
  exact hc.hq
set_option maxRecDepth 20000 in
set_option maxHeartbeats 200000 in
theorem c_X9_count_2 (d : Nat) (g : Nat → Nat → Int32) (tr : Int64) {n q dn : Nat} (hc : RI n q dn g) : Ev (d + 1) 182 0 [.ref 0, .int 2] [] (wR g tr) (some (.int (nI dn))) (wR g tr) := by
  have hb := hc.b
  refine Ev.sn e_X9_count 2 (i' := 2) (ls' := [_, _]) (st' := [_, _]) rfl ?_
  refine Ev.put e_X9_count rfl rfl rfl rfl rfl rfl (w1 := wR g tr) rfl ?_
  refine Ev.sn e_X9_count 3 (i' := 6) (ls' := [_, _]) (st' := [_, _, _]) rfl ?_
  refine Ev.clS e_X9_count rfl rfl rfl (as := [_, _, _]) rfl rfl rfl rfl rfl (c_X9_in _ _ _ _ _) rfl ?_
  refine Ev.brF (i1 := 13) (i2 := 8) e_X9_count rfl rfl ((by decide)) ?_
  refine Ev.sn e_X9_count 3 (i' := 11) (ls' := [_, _]) (st' := [_, _]) rfl ?_
  refine Ev.ialdE e_X9_count rfl rfl rfl rfl (m := 2) rfl (by decide) ?_
  refine Ev.sn e_X9_count 1 (i' := 26) (ls' := [_, _]) (st' := [_]) rfl ?_
  refine Ev.iret e_X9_count rfl rfl rfl ?_ rfl
  exact hc.hd
set_option maxRecDepth 20000 in
set_option maxHeartbeats 200000 in
theorem c_X9_count_3 (d : Nat) (g : Nat → Nat → Int32) (tr : Int64) {n q dn : Nat} (hc : RI n q dn g) : Ev (d + 1) 182 0 [.ref 0, .int 3] [] (wR g tr) (some (.int (g 0 7))) (wR g tr) := by
  have hb := hc.b
  refine Ev.sn e_X9_count 2 (i' := 2) (ls' := [_, _]) (st' := [_, _]) rfl ?_
  refine Ev.put e_X9_count rfl rfl rfl rfl rfl rfl (w1 := wR g tr) rfl ?_
  refine Ev.sn e_X9_count 3 (i' := 6) (ls' := [_, _]) (st' := [_, _, _]) rfl ?_
  refine Ev.clS e_X9_count rfl rfl rfl (as := [_, _, _]) rfl rfl rfl rfl rfl (c_X9_in _ _ _ _ _) rfl ?_
  refine Ev.brT (i1 := 13) (i2 := 8) e_X9_count rfl rfl ((by decide)) ?_
  refine Ev.sn e_X9_count 2 (i' := 15) (ls' := [_, _]) (st' := [_, _]) rfl ?_
  refine Ev.brT (i1 := 16) (i2 := 19) e_X9_count rfl rfl ((by decide)) ?_
  refine Ev.sn e_X9_count 3 (i' := 26) (ls' := [_, _]) (st' := [_]) rfl ?_
  refine Ev.iret e_X9_count rfl rfl rfl ?_ rfl
  rfl
set_option maxRecDepth 20000 in
set_option maxHeartbeats 200000 in
theorem c_X9_count_4 (d : Nat) (g : Nat → Nat → Int32) (tr : Int64) {n q dn : Nat} (hc : RI n q dn g) : Ev (d + 1) 182 0 [.ref 0, .int 4] [] (wR g tr) (some (.int (g 0 0))) (wR g tr) := by
  have hb := hc.b
  refine Ev.sn e_X9_count 2 (i' := 2) (ls' := [_, _]) (st' := [_, _]) rfl ?_
  refine Ev.put e_X9_count rfl rfl rfl rfl rfl rfl (w1 := wR g tr) rfl ?_
  refine Ev.sn e_X9_count 3 (i' := 6) (ls' := [_, _]) (st' := [_, _, _]) rfl ?_
  refine Ev.clS e_X9_count rfl rfl rfl (as := [_, _, _]) rfl rfl rfl rfl rfl (c_X9_in _ _ _ _ _) rfl ?_
  refine Ev.brT (i1 := 13) (i2 := 8) e_X9_count rfl rfl ((by decide)) ?_
  refine Ev.sn e_X9_count 2 (i' := 15) (ls' := [_, _]) (st' := [_, _]) rfl ?_
  refine Ev.brF (i1 := 16) (i2 := 19) e_X9_count rfl rfl ((by decide)) ?_
  refine Ev.sn e_X9_count 2 (i' := 21) (ls' := [_, _]) (st' := [_, _]) rfl ?_
  refine Ev.brT (i1 := 22) (i2 := 25) e_X9_count rfl rfl ((by decide)) ?_
  refine Ev.sn e_X9_count 3 (i' := 26) (ls' := [_, _]) (st' := [_]) rfl ?_
  refine Ev.iret e_X9_count rfl rfl rfl ?_ rfl
  rfl
set_option maxRecDepth 20000 in
set_option maxHeartbeats 200000 in
theorem c_X9_count (d : Nat) (g : Nat → Nat → Int32) (tr : Int64) {n q dn : Nat} (hc : RI n q dn g) (x : Int32) : Ev (d + 1) 182 0 [.ref 0, .int x] [] (wR g tr) (some (.int (S_count n q dn (g 0 7) (g 0 0) x))) (wR g tr) := by
  have hb := hc.b
  by_cases x0 : x = 0
  · subst x0
    exact c_X9_count_0 _ _ _ hc
  by_cases x1 : x = 1
  · subst x1
    exact c_X9_count_1 _ _ _ hc
  by_cases x2 : x = 2
  · subst x2
    exact c_X9_count_2 _ _ _ hc
  by_cases x3 : x = 3
  · subst x3
    exact c_X9_count_3 _ _ _ hc
  by_cases x4 : x = 4
  · subst x4
    exact c_X9_count_4 _ _ _ hc
  rw [show S_count n q dn (g 0 7) (g 0 0) x = -1 by simp [S_count, x0, x1, x2, x3, x4]]
  have hx : (decide (0 ≤ x) && decide (x ≤ nI 2)) = false := rngF (by omega) (fun j hj => by
    match j, hj with
    | 0, _ => exact x0
    | 1, _ => exact x1
    | 2, _ => exact x2)
  refine Ev.sn e_X9_count 2 (i' := 2) (ls' := [_, _]) (st' := [_, _]) rfl ?_
  refine Ev.put e_X9_count rfl rfl rfl rfl rfl rfl (w1 := wR g tr) rfl ?_
  refine Ev.sn e_X9_count 3 (i' := 6) (ls' := [_, _]) (st' := [_, _, _]) rfl ?_
  refine Ev.clS e_X9_count rfl rfl rfl (as := [_, _, _]) rfl rfl rfl rfl rfl (c_X9_in _ _ _ _ _) rfl ?_
  refine Ev.brT (i1 := 13) (i2 := 8) e_X9_count rfl rfl (bT hx) ?_
  refine Ev.sn e_X9_count 2 (i' := 15) (ls' := [_, _]) (st' := [_, _]) rfl ?_
  refine Ev.brF (i1 := 16) (i2 := 19) e_X9_count rfl rfl (x3) ?_
  refine Ev.sn e_X9_count 2 (i' := 21) (ls' := [_, _]) (st' := [_, _]) rfl ?_
  refine Ev.brF (i1 := 22) (i2 := 25) e_X9_count rfl rfl (x4) ?_
  refine Ev.sn e_X9_count 1 (i' := 26) (ls' := [_, _]) (st' := [_]) rfl ?_
  refine Ev.iret e_X9_count rfl rfl rfl ?_ rfl
  rfl
set_option maxRecDepth 20000 in
set_option maxHeartbeats 200000 in
theorem c_X9_trace (d : Nat) (g : Nat → Nat → Int32) (tr : Int64) : Ev d 183 0 [.ref 0] [] (wR g tr) (some (.long tr)) (wR g tr) := by
  refine Ev.sn e_X9_trace 2 (i' := 2) (ls' := [_]) (st' := [_, _]) rfl ?_
  refine Ev.put e_X9_trace rfl rfl rfl rfl rfl rfl (w1 := wR g tr) rfl ?_
  refine Ev.sn e_X9_trace 2 (i' := 5) (ls' := [_]) (st' := [_]) rfl ?_
  refine Ev.lret e_X9_trace rfl rfl ?_ rfl
  rfl
set_option maxRecDepth 20000 in
set_option maxHeartbeats 200000 in
theorem c_X9_type_b (d : Nat) (g : Nat → Nat → Int32) (tr : Int64) (x : Int32) (h : (decide (0 ≤ x) && decide (x ≤ 255)) = false) : Ev (d + 1) 122 0 [.ref 0, .int x] [] (wR g tr) (some (.int (-1))) (wR g tr) := by
  refine Ev.sn e_X9_type 2 (i' := 2) (ls' := [_, _]) (st' := [_, _]) rfl ?_
  refine Ev.put e_X9_type rfl rfl rfl rfl rfl rfl (w1 := wR g tr) rfl ?_
  refine Ev.sn e_X9_type 3 (i' := 6) (ls' := [_, _]) (st' := [_, _, _]) rfl ?_
  refine Ev.clS e_X9_type rfl rfl rfl (as := [_, _, _]) rfl rfl rfl rfl rfl (c_X9_in _ _ _ _ _) rfl ?_
  refine Ev.brT (i1 := 8) (i2 := 10) e_X9_type rfl rfl (bT h) ?_
  refine Ev.sn e_X9_type 1 (i' := 9) (ls' := [_, _]) (st' := [_]) rfl ?_
  refine Ev.iret e_X9_type rfl rfl rfl ?_ rfl
  rfl
set_option maxRecDepth 20000 in
set_option maxHeartbeats 200000 in
theorem c_X9_type_f (d : Nat) (g : Nat → Nat → Int32) (tr : Int64) (x : Int32) (h : (decide (0 ≤ x) && decide (x ≤ 255)) = true) (hk : g 0 0 = nI 200) : Ev (d + 1) 122 0 [.ref 0, .int x] [] (wR g tr) (some (.int (-3))) (wR g tr) := by
  refine Ev.sn e_X9_type 2 (i' := 2) (ls' := [_, _]) (st' := [_, _]) rfl ?_
  refine Ev.put e_X9_type rfl rfl rfl rfl rfl rfl (w1 := wR g tr) rfl ?_
  refine Ev.sn e_X9_type 3 (i' := 6) (ls' := [_, _]) (st' := [_, _, _]) rfl ?_
  refine Ev.clS e_X9_type rfl rfl rfl (as := [_, _, _]) rfl rfl rfl rfl rfl (c_X9_in _ _ _ _ _) rfl ?_
  refine Ev.brF (i1 := 8) (i2 := 10) e_X9_type rfl rfl (bF h) ?_
  refine Ev.sn e_X9_type 3 (i' := 13) (ls' := [_, _]) (st' := [_, _]) rfl ?_
  refine Ev.brT (i1 := 14) (i2 := 16) e_X9_type rfl rfl (hk) ?_
  refine Ev.sn e_X9_type 1 (i' := 15) (ls' := [_, _]) (st' := [_]) rfl ?_
  refine Ev.iret e_X9_type rfl rfl rfl ?_ rfl
  rfl
set_option maxRecDepth 20000 in
set_option maxHeartbeats 200000 in
theorem c_X9_type_s (d : Nat) (g : Nat → Nat → Int32) (tr : Int64) (x : Int32) (h : (decide (0 ≤ x) && decide (x ≤ 255)) = true) {k : Nat} (hk : g 0 0 = nI k) (hk2 : k < 200) : Ev (d + 1) 122 0 [.ref 0, .int x] [] (wR g tr) (some (.int (nI (k + 1)))) (wR (va_up (va_up g 1 (upd (g 1) k x)) 0 (upd (g 0) 0 (nI (k + 1)))) tr) := by
  refine Ev.sn e_X9_type 2 (i' := 2) (ls' := [_, _]) (st' := [_, _]) rfl ?_
  refine Ev.put e_X9_type rfl rfl rfl rfl rfl rfl (w1 := wR g tr) rfl ?_
  refine Ev.sn e_X9_type 3 (i' := 6) (ls' := [_, _]) (st' := [_, _, _]) rfl ?_
  refine Ev.clS e_X9_type rfl rfl rfl (as := [_, _, _]) rfl rfl rfl rfl rfl (c_X9_in _ _ _ _ _) rfl ?_
  refine Ev.brF (i1 := 8) (i2 := 10) e_X9_type rfl rfl (bF h) ?_
  refine Ev.sn e_X9_type 3 (i' := 13) (ls' := [_, _]) (st' := [_, _]) rfl ?_
  refine Ev.brF (i1 := 14) (i2 := 16) e_X9_type rfl rfl ((fun e => absurd ((nI_eq (a := k) (b := 200) (by omega) (by omega)).mp (hk.symm.trans e)) (by omega))) ?_
  refine Ev.sn e_X9_type 5 (i' := 21) (ls' := [_, _]) (st' := [_, _, _]) rfl ?_
  refine Ev.iastE e_X9_type rfl rfl rfl hk hk2 (w1 := wR (va_up g 1 (upd (g 1) k x)) tr) rfl ?_
  refine Ev.sn e_X9_type 5 (i' := 27) (ls' := [_, _]) (st' := [_, _]) rfl ?_
  refine Ev.put e_X9_type rfl rfl rfl rfl rfl rfl (w1 := wR (va_up (va_up g 1 (upd (g 1) k x)) 0 (upd (g 0) 0 (g 0 0 + 1))) tr) rfl ?_
  rw [hk, nI_1]
  refine Ev.sn e_X9_type 2 (i' := 30) (ls' := [_, _]) (st' := [_]) rfl ?_
  refine Ev.iret e_X9_type rfl rfl rfl ?_ rfl
  rfl
set_option maxRecDepth 20000 in
set_option maxHeartbeats 200000 in
theorem c_X9_clear (d : Nat) (g : Nat → Nat → Int32) (tr : Int64) : Ev d 123 0 [.ref 0, .null] [] (wR g tr) (some (.int (g 0 0))) (wR (va_up g 0 (upd (g 0) 0 0)) tr) := by
  refine Ev.sn e_X9_clear 2 (i' := 2) (ls' := [_, _]) (st' := [_, _]) rfl ?_
  refine Ev.put e_X9_clear rfl rfl rfl rfl rfl rfl (w1 := wR g tr) rfl ?_
  refine Ev.sn e_X9_clear 5 (i' := 8) (ls' := [_, _]) (st' := [_, _]) rfl ?_
  refine Ev.put e_X9_clear rfl rfl rfl rfl rfl rfl (w1 := wR (va_up g 0 (upd (g 0) 0 0)) tr) rfl ?_
  refine Ev.sn e_X9_clear 1 (i' := 10) (ls' := [_, _]) (st' := [_]) rfl ?_
  refine Ev.iret e_X9_clear rfl rfl rfl ?_ rfl
  rfl
set_option maxRecDepth 20000 in
set_option maxHeartbeats 200000 in
theorem c_X9_forget (d : Nat) (g : Nat → Nat → Int32) (tr : Int64) : Ev d 160 0 [.ref 0, .null] [] (wR g tr) (some (.int (g 0 7))) (wR (va_up g 0 (upd (g 0) 7 0)) tr) := by
  refine Ev.sn e_X9_forget 2 (i' := 2) (ls' := [_, _]) (st' := [_, _]) rfl ?_
  refine Ev.put e_X9_forget rfl rfl rfl rfl rfl rfl (w1 := wR g tr) rfl ?_
  refine Ev.sn e_X9_forget 5 (i' := 8) (ls' := [_, _]) (st' := [_, _]) rfl ?_
  refine Ev.put e_X9_forget rfl rfl rfl rfl rfl rfl (w1 := wR (va_up g 0 (upd (g 0) 7 0)) tr) rfl ?_
  refine Ev.sn e_X9_forget 1 (i' := 10) (ls' := [_, _]) (st' := [_]) rfl ?_
  refine Ev.iret e_X9_forget rfl rfl rfl ?_ rfl
  rfl
set_option maxRecDepth 20000 in
set_option maxHeartbeats 200000 in
theorem c_X9_tries_b (d : Nat) (g : Nat → Nat → Int32) (tr : Int64) {n q dn : Nat} (hc : RI n q dn g) (t x : Int32) (h : ((decide (0 ≤ t) && decide (t < nI n)) && (decide (x = 0) || decide (x = 1))) = false) : Ev (d + 2) 159 0 [.ref 0, .int t, .int x] [] (wR g tr) (some (.int (-1))) (wR g tr) := by
  have hb := hc.b
  refine Ev.sn e_X9_tries 2 (i' := 2) (ls' := [_, _, _]) (st' := [_, _]) rfl ?_
  refine Ev.put e_X9_tries rfl rfl rfl rfl rfl rfl (w1 := wR g tr) rfl ?_
  refine Ev.sn e_X9_tries 2 (i' := 5) (ls' := [_, _, _]) (st' := [_, _]) rfl ?_
  refine Ev.clV e_X9_tries rfl rfl (as := [_]) rfl rfl rfl kl_X9_isThingThere rfl rfl rfl (c_X9_isThingThere _ _ _ hc _) rfl ?_
  refine Ev.brB (i1 := 12) (i2 := 7) e_X9_tries rfl rfl (fun h0 => ?_) (fun h0 => ?_)
  · refine Ev.sn e_X9_tries 1 (i' := 13) (ls' := [_, _, _]) (st' := [_]) rfl ?_
    refine Ev.iret e_X9_tries rfl rfl rfl ?_ rfl
    rfl
  · refine Ev.sn e_X9_tries 3 (i' := 10) (ls' := [_, _, _]) (st' := [_, _, _]) rfl ?_
    refine Ev.clS e_X9_tries rfl rfl rfl (as := [_, _, _]) rfl rfl rfl rfl rfl (c_X9_in _ _ _ _ _) rfl ?_
    refine Ev.brB (i1 := 12) (i2 := 14) e_X9_tries rfl rfl (fun h1 => ?_) (fun h1 => ?_)
    · refine Ev.sn e_X9_tries 1 (i' := 13) (ls' := [_, _, _]) (st' := [_]) rfl ?_
      refine Ev.iret e_X9_tries rfl rfl rfl ?_ rfl
      rfl
    · exact absurd h (by rw [h0, ← r01]; exact fun e => absurd (h1.symm.trans e) (by decide))
set_option maxRecDepth 20000 in
set_option maxHeartbeats 200000 in
theorem c_X9_tries_f (d : Nat) (g : Nat → Nat → Int32) (tr : Int64) {n q dn : Nat} (hc : RI n q dn g) (t x : Int32) (h1 : (decide (0 ≤ t) && decide (t < nI n)) = true) (h2 : (decide (x = 0) || decide (x = 1)) = true) (hk : g 0 7 = nI 6) : Ev (d + 2) 159 0 [.ref 0, .int t, .int x] [] (wR g tr) (some (.int (-3))) (wR g tr) := by
  have hb := hc.b
  refine Ev.sn e_X9_tries 2 (i' := 2) (ls' := [_, _, _]) (st' := [_, _]) rfl ?_
  refine Ev.put e_X9_tries rfl rfl rfl rfl rfl rfl (w1 := wR g tr) rfl ?_
  refine Ev.sn e_X9_tries 2 (i' := 5) (ls' := [_, _, _]) (st' := [_, _]) rfl ?_
  refine Ev.clV e_X9_tries rfl rfl (as := [_]) rfl rfl rfl kl_X9_isThingThere rfl rfl rfl (c_X9_isThingThere _ _ _ hc _) rfl ?_
  refine Ev.brF (i1 := 12) (i2 := 7) e_X9_tries rfl rfl (bF h1) ?_
  refine Ev.sn e_X9_tries 3 (i' := 10) (ls' := [_, _, _]) (st' := [_, _, _]) rfl ?_
  refine Ev.clS e_X9_tries rfl rfl rfl (as := [_, _, _]) rfl rfl rfl rfl rfl (c_X9_in _ _ _ _ _) rfl ?_
  refine Ev.brF (i1 := 12) (i2 := 14) e_X9_tries rfl rfl ((by rw [r01]; exact bF h2)) ?_
  refine Ev.sn e_X9_tries 3 (i' := 17) (ls' := [_, _, _]) (st' := [_, _]) rfl ?_
  refine Ev.brT (i1 := 18) (i2 := 20) e_X9_tries rfl rfl (hk) ?_
  refine Ev.sn e_X9_tries 1 (i' := 19) (ls' := [_, _, _]) (st' := [_]) rfl ?_
  refine Ev.iret e_X9_tries rfl rfl rfl ?_ rfl
  rfl
set_option maxRecDepth 20000 in
set_option maxHeartbeats 200000 in
theorem c_X9_tries_s (d : Nat) (g : Nat → Nat → Int32) (tr : Int64) {n q dn : Nat} (hc : RI n q dn g) (t x : Int32) (h1 : (decide (0 ≤ t) && decide (t < nI n)) = true) (h2 : (decide (x = 0) || decide (x = 1)) = true) {k : Nat} (hk : g 0 7 = nI k) (hk6 : k < 6) : Ev (d + 2) 159 0 [.ref 0, .int t, .int x] [] (wR g tr) (some (.int (nI (k + 1)))) (wR (va_up (va_up (va_up g 11 (upd (g 11) k t)) 12 (upd (g 12) k x)) 0 (upd (g 0) 7 (nI (k + 1)))) tr) := by
  have hb := hc.b
  refine Ev.sn e_X9_tries 2 (i' := 2) (ls' := [_, _, _]) (st' := [_, _]) rfl ?_
  refine Ev.put e_X9_tries rfl rfl rfl rfl rfl rfl (w1 := wR g tr) rfl ?_
  refine Ev.sn e_X9_tries 2 (i' := 5) (ls' := [_, _, _]) (st' := [_, _]) rfl ?_
  refine Ev.clV e_X9_tries rfl rfl (as := [_]) rfl rfl rfl kl_X9_isThingThere rfl rfl rfl (c_X9_isThingThere _ _ _ hc _) rfl ?_
  refine Ev.brF (i1 := 12) (i2 := 7) e_X9_tries rfl rfl (bF h1) ?_
  refine Ev.sn e_X9_tries 3 (i' := 10) (ls' := [_, _, _]) (st' := [_, _, _]) rfl ?_
  refine Ev.clS e_X9_tries rfl rfl rfl (as := [_, _, _]) rfl rfl rfl rfl rfl (c_X9_in _ _ _ _ _) rfl ?_
  refine Ev.brF (i1 := 12) (i2 := 14) e_X9_tries rfl rfl ((by rw [r01]; exact bF h2)) ?_
  refine Ev.sn e_X9_tries 3 (i' := 17) (ls' := [_, _, _]) (st' := [_, _]) rfl ?_
  refine Ev.brF (i1 := 18) (i2 := 20) e_X9_tries rfl rfl ((fun e => absurd ((nI_eq (a := k) (b := 6) (by omega) (by omega)).mp (hk.symm.trans e)) (by omega))) ?_
  refine Ev.sn e_X9_tries 5 (i' := 25) (ls' := [_, _, _]) (st' := [_, _, _]) rfl ?_
  refine Ev.iastE e_X9_tries rfl rfl rfl hk hk6 (w1 := wR (va_up g 11 (upd (g 11) k t)) tr) rfl ?_
  refine Ev.sn e_X9_tries 5 (i' := 31) (ls' := [_, _, _]) (st' := [_, _, _]) rfl ?_
  refine Ev.iastE e_X9_tries rfl rfl rfl hk hk6 (w1 := wR (va_up (va_up g 11 (upd (g 11) k t)) 12 (upd (g 12) k x)) tr) rfl ?_
  refine Ev.sn e_X9_tries 5 (i' := 37) (ls' := [_, _, _]) (st' := [_, _]) rfl ?_
  refine Ev.put e_X9_tries rfl rfl rfl rfl rfl rfl (w1 := wR (va_up (va_up (va_up g 11 (upd (g 11) k t)) 12 (upd (g 12) k x)) 0 (upd (g 0) 7 (g 0 7 + 1))) tr) rfl ?_
  rw [hk, nI_1]
  refine Ev.sn e_X9_tries 2 (i' := 40) (ls' := [_, _, _]) (st' := [_]) rfl ?_
  refine Ev.iret e_X9_tries rfl rfl rfl ?_ rfl
  rfl
