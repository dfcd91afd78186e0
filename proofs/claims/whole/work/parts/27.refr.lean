/-! the reference: rates, what is done -/
theorem ONE_bc : ∀ m, m < 64 → ONE (nI m) = bcI (nI m) := by decide +kernel
theorem ONE_of {x : Int32} (h : ∃ m, m < 64 ∧ x = nI m) : ONE x = bcI x := by
  obtain ⟨m, h1, rfl⟩ := h
  exact ONE_bc m h1
set_option maxRecDepth 20000 in
set_option maxHeartbeats 200000 in
theorem c_X9_rate_0 (d : Nat) (g : Nat → Nat → Int32) (tr : Int64) {n q dn : Nat} (hc : RI n q dn g) {j : Nat} (hj : j < n) : Ev (d + 4) 179 0 [.ref 0, .int 0, .int (nI j), .null, .null, .null] [] (wR g tr) (some (.int ((vR n q dn g) 2 j))) (wR g (tr + 1)) := by
  have hb := hc.b
  have hv2 : (vR n q dn g) 2 j = g 3 (4 * j + 2) := cut_lt (f := fun t => g 3 (4 * t + 2)) hj
  have hv1 : (vR n q dn g) 1 j = g 7 (6 + j) := cut_lt (f := fun t => g 7 (6 + t)) hj
  have hv3 : (vR n q dn g) 3 j = g 3 (4 * j + 3) := cut_lt (f := fun t => g 3 (4 * t + 3)) hj
  refine Ev.sn e_X9_rate 2 (i' := 2) (ls' := [_, _, _, _, _, _]) (st' := [_, _]) rfl ?_
  refine Ev.put e_X9_rate rfl rfl rfl rfl rfl rfl (w1 := wR g tr) rfl ?_
  refine Ev.sn e_X9_rate 3 (i' := 6) (ls' := [_, _, _, _, _, _]) (st' := [_, _, _]) rfl ?_
  refine Ev.clS e_X9_rate rfl rfl rfl (as := [_, _, _]) rfl rfl rfl rfl rfl (c_X9_in _ _ _ _ _) rfl ?_
  refine Ev.brF (i1 := 12) (i2 := 8) e_X9_rate rfl rfl ((by decide)) ?_
  refine Ev.sn e_X9_rate 2 (i' := 10) (ls' := [_, _, _, _, _, _]) (st' := [_, _]) rfl ?_
  refine Ev.clV e_X9_rate rfl rfl (as := [_]) rfl rfl rfl kl_X9_isThingThere rfl rfl rfl (c_X9_isThingThere _ _ _ hc _) rfl ?_
  refine Ev.brF (i1 := 12) (i2 := 14) e_X9_rate rfl rfl (bF (g_ok hj (by omega))) ?_
  refine Ev.sn e_X9_rate 7 (i' := 21) (ls' := [_, _, _, _, _, _]) (st' := [_, _]) rfl ?_
  refine Ev.ialdE e_X9_rate rfl rfl rfl rfl (ixm 4 2 j) (by omega) ?_
  refine Ev.sn e_X9_rate 7 (i' := 29) (ls' := [_, _, _, _, _, _]) (st' := [_, _, _]) rfl ?_
  refine Ev.ialdE e_X9_rate rfl rfl rfl rfl (nI_add 6 j) (by omega) ?_
  refine Ev.sn e_X9_rate 10 (i' := 40) (ls' := [_, _, _, _, _, _]) (st' := [_, _, _]) rfl ?_
  refine Ev.ialdE e_X9_rate rfl rfl rfl rfl (ixm 4 3 j) (by omega) ?_
  refine Ev.sn e_X9_rate 6 (i' := 47) (ls' := [_, _, _, _, _, _]) (st' := [_, _, _]) rfl ?_
  refine Ev.brT (i1 := 48) (i2 := 50) e_X9_rate rfl rfl ((by decide)) ?_
  refine Ev.sn e_X9_rate 3 (i' := 72) (ls' := [_, _, _, _, _, _]) (st' := [_, _]) rfl ?_
  refine Ev.put e_X9_rate rfl rfl rfl rfl rfl rfl (w1 := wR g (tr + 1)) rfl ?_
  refine Ev.sn e_X9_rate 1 (i' := 74) (ls' := [_, _, _, _, _, _]) (st' := [_]) rfl ?_
  refine Ev.brT (i1 := 75) (i2 := 77) e_X9_rate rfl rfl ((by decide)) ?_
  refine Ev.sn e_X9_rate 2 (i' := 107) (ls' := [_, _, _, _, _, _]) (st' := [_]) rfl ?_
  refine Ev.iret e_X9_rate rfl rfl rfl ?_ rfl
  simp only [hv1, hv2, hv3]
set_option maxRecDepth 20000 in
set_option maxHeartbeats 200000 in
theorem c_X9_rate_1 (d : Nat) (g : Nat → Nat → Int32) (tr : Int64) {n q dn : Nat} (hc : RI n q dn g) {j : Nat} (hj : j < n) : Ev (d + 4) 179 0 [.ref 0, .int 1, .int (nI j), .null, .null, .null] [] (wR g tr) (some (.int ((vR n q dn g) 2 j + (vR n q dn g) 1 j))) (wR g (tr + 11)) := by
  have hb := hc.b
  have hv2 : (vR n q dn g) 2 j = g 3 (4 * j + 2) := cut_lt (f := fun t => g 3 (4 * t + 2)) hj
  have hv1 : (vR n q dn g) 1 j = g 7 (6 + j) := cut_lt (f := fun t => g 7 (6 + t)) hj
  have hv3 : (vR n q dn g) 3 j = g 3 (4 * j + 3) := cut_lt (f := fun t => g 3 (4 * t + 3)) hj
  refine Ev.sn e_X9_rate 2 (i' := 2) (ls' := [_, _, _, _, _, _]) (st' := [_, _]) rfl ?_
  refine Ev.put e_X9_rate rfl rfl rfl rfl rfl rfl (w1 := wR g tr) rfl ?_
  refine Ev.sn e_X9_rate 3 (i' := 6) (ls' := [_, _, _, _, _, _]) (st' := [_, _, _]) rfl ?_
  refine Ev.clS e_X9_rate rfl rfl rfl (as := [_, _, _]) rfl rfl rfl rfl rfl (c_X9_in _ _ _ _ _) rfl ?_
  refine Ev.brF (i1 := 12) (i2 := 8) e_X9_rate rfl rfl ((by decide)) ?_
  refine Ev.sn e_X9_rate 2 (i' := 10) (ls' := [_, _, _, _, _, _]) (st' := [_, _]) rfl ?_
  refine Ev.clV e_X9_rate rfl rfl (as := [_]) rfl rfl rfl kl_X9_isThingThere rfl rfl rfl (c_X9_isThingThere _ _ _ hc _) rfl ?_
  refine Ev.brF (i1 := 12) (i2 := 14) e_X9_rate rfl rfl (bF (g_ok hj (by omega))) ?_
  refine Ev.sn e_X9_rate 7 (i' := 21) (ls' := [_, _, _, _, _, _]) (st' := [_, _]) rfl ?_
  refine Ev.ialdE e_X9_rate rfl rfl rfl rfl (ixm 4 2 j) (by omega) ?_
  refine Ev.sn e_X9_rate 7 (i' := 29) (ls' := [_, _, _, _, _, _]) (st' := [_, _, _]) rfl ?_
  refine Ev.ialdE e_X9_rate rfl rfl rfl rfl (nI_add 6 j) (by omega) ?_
  refine Ev.sn e_X9_rate 10 (i' := 40) (ls' := [_, _, _, _, _, _]) (st' := [_, _, _]) rfl ?_
  refine Ev.ialdE e_X9_rate rfl rfl rfl rfl (ixm 4 3 j) (by omega) ?_
  refine Ev.sn e_X9_rate 6 (i' := 47) (ls' := [_, _, _, _, _, _]) (st' := [_, _, _]) rfl ?_
  refine Ev.brF (i1 := 48) (i2 := 50) e_X9_rate rfl rfl ((by decide)) ?_
  refine Ev.sn e_X9_rate 2 (i' := 52) (ls' := [_, _, _, _, _, _]) (st' := [_, _, _, _]) rfl ?_
  refine Ev.brT (i1 := 53) (i2 := 55) e_X9_rate rfl rfl ((by decide)) ?_
  refine Ev.sn e_X9_rate 3 (i' := 72) (ls' := [_, _, _, _, _, _]) (st' := [_, _]) rfl ?_
  refine Ev.put e_X9_rate rfl rfl rfl rfl rfl rfl (w1 := wR g (tr + 11)) rfl ?_
  refine Ev.sn e_X9_rate 1 (i' := 74) (ls' := [_, _, _, _, _, _]) (st' := [_]) rfl ?_
  refine Ev.brF (i1 := 75) (i2 := 77) e_X9_rate rfl rfl ((by decide)) ?_
  refine Ev.sn e_X9_rate 2 (i' := 79) (ls' := [_, _, _, _, _, _]) (st' := [_, _]) rfl ?_
  refine Ev.brT (i1 := 80) (i2 := 82) e_X9_rate rfl rfl ((by decide)) ?_
  refine Ev.sn e_X9_rate 2 (i' := 107) (ls' := [_, _, _, _, _, _]) (st' := [_]) rfl ?_
  refine Ev.iret e_X9_rate rfl rfl rfl ?_ rfl
  simp only [hv1, hv2, hv3]
set_option maxRecDepth 20000 in
set_option maxHeartbeats 200000 in
theorem c_X9_rate_2 (d : Nat) (g : Nat → Nat → Int32) (tr : Int64) {n q dn : Nat} (hc : RI n q dn g) {j : Nat} (hj : j < n) : Ev (d + 4) 179 0 [.ref 0, .int 2, .int (nI j), .null, .null, .null] [] (wR g tr) (some (.int ((vR n q dn g) 2 j - (vR n q dn g) 3 j))) (wR g (tr + 101)) := by
  have hb := hc.b
  have hv2 : (vR n q dn g) 2 j = g 3 (4 * j + 2) := cut_lt (f := fun t => g 3 (4 * t + 2)) hj
  have hv1 : (vR n q dn g) 1 j = g 7 (6 + j) := cut_lt (f := fun t => g 7 (6 + t)) hj
  have hv3 : (vR n q dn g) 3 j = g 3 (4 * j + 3) := cut_lt (f := fun t => g 3 (4 * t + 3)) hj
  refine Ev.sn e_X9_rate 2 (i' := 2) (ls' := [_, _, _, _, _, _]) (st' := [_, _]) rfl ?_
  refine Ev.put e_X9_rate rfl rfl rfl rfl rfl rfl (w1 := wR g tr) rfl ?_
  refine Ev.sn e_X9_rate 3 (i' := 6) (ls' := [_, _, _, _, _, _]) (st' := [_, _, _]) rfl ?_
  refine Ev.clS e_X9_rate rfl rfl rfl (as := [_, _, _]) rfl rfl rfl rfl rfl (c_X9_in _ _ _ _ _) rfl ?_
  refine Ev.brF (i1 := 12) (i2 := 8) e_X9_rate rfl rfl ((by decide)) ?_
  refine Ev.sn e_X9_rate 2 (i' := 10) (ls' := [_, _, _, _, _, _]) (st' := [_, _]) rfl ?_
  refine Ev.clV e_X9_rate rfl rfl (as := [_]) rfl rfl rfl kl_X9_isThingThere rfl rfl rfl (c_X9_isThingThere _ _ _ hc _) rfl ?_
  refine Ev.brF (i1 := 12) (i2 := 14) e_X9_rate rfl rfl (bF (g_ok hj (by omega))) ?_
  refine Ev.sn e_X9_rate 7 (i' := 21) (ls' := [_, _, _, _, _, _]) (st' := [_, _]) rfl ?_
  refine Ev.ialdE e_X9_rate rfl rfl rfl rfl (ixm 4 2 j) (by omega) ?_
  refine Ev.sn e_X9_rate 7 (i' := 29) (ls' := [_, _, _, _, _, _]) (st' := [_, _, _]) rfl ?_
  refine Ev.ialdE e_X9_rate rfl rfl rfl rfl (nI_add 6 j) (by omega) ?_
  refine Ev.sn e_X9_rate 10 (i' := 40) (ls' := [_, _, _, _, _, _]) (st' := [_, _, _]) rfl ?_
  refine Ev.ialdE e_X9_rate rfl rfl rfl rfl (ixm 4 3 j) (by omega) ?_
  refine Ev.sn e_X9_rate 6 (i' := 47) (ls' := [_, _, _, _, _, _]) (st' := [_, _, _]) rfl ?_
  refine Ev.brF (i1 := 48) (i2 := 50) e_X9_rate rfl rfl ((by decide)) ?_
  refine Ev.sn e_X9_rate 2 (i' := 52) (ls' := [_, _, _, _, _, _]) (st' := [_, _, _, _]) rfl ?_
  refine Ev.brF (i1 := 53) (i2 := 55) e_X9_rate rfl rfl ((by decide)) ?_
  refine Ev.sn e_X9_rate 2 (i' := 57) (ls' := [_, _, _, _, _, _]) (st' := [_, _, _, _]) rfl ?_
  refine Ev.brT (i1 := 58) (i2 := 60) e_X9_rate rfl rfl ((by decide)) ?_
  refine Ev.sn e_X9_rate 3 (i' := 72) (ls' := [_, _, _, _, _, _]) (st' := [_, _]) rfl ?_
  refine Ev.put e_X9_rate rfl rfl rfl rfl rfl rfl (w1 := wR g (tr + 101)) rfl ?_
  refine Ev.sn e_X9_rate 1 (i' := 74) (ls' := [_, _, _, _, _, _]) (st' := [_]) rfl ?_
  refine Ev.brF (i1 := 75) (i2 := 77) e_X9_rate rfl rfl ((by decide)) ?_
  refine Ev.sn e_X9_rate 2 (i' := 79) (ls' := [_, _, _, _, _, _]) (st' := [_, _]) rfl ?_
  refine Ev.brF (i1 := 80) (i2 := 82) e_X9_rate rfl rfl ((by decide)) ?_
  refine Ev.sn e_X9_rate 2 (i' := 84) (ls' := [_, _, _, _, _, _]) (st' := [_, _]) rfl ?_
  refine Ev.brT (i1 := 85) (i2 := 87) e_X9_rate rfl rfl ((by decide)) ?_
  refine Ev.sn e_X9_rate 2 (i' := 107) (ls' := [_, _, _, _, _, _]) (st' := [_]) rfl ?_
  refine Ev.iret e_X9_rate rfl rfl rfl ?_ rfl
  simp only [hv1, hv2, hv3]
set_option maxRecDepth 20000 in
set_option maxHeartbeats 200000 in
theorem c_X9_rate_3 (d : Nat) (g : Nat → Nat → Int32) (tr : Int64) {n q dn : Nat} (hc : RI n q dn g) {j : Nat} (hj : j < n) : Ev (d + 4) 179 0 [.ref 0, .int 3, .int (nI j), .null, .null, .null] [] (wR g tr) (some (.int (2 * ((vR n q dn g) 2 j + (vR n q dn g) 1 j)))) (wR g (tr + 1011)) := by
  have hb := hc.b
  have hv2 : (vR n q dn g) 2 j = g 3 (4 * j + 2) := cut_lt (f := fun t => g 3 (4 * t + 2)) hj
  have hv1 : (vR n q dn g) 1 j = g 7 (6 + j) := cut_lt (f := fun t => g 7 (6 + t)) hj
  have hv3 : (vR n q dn g) 3 j = g 3 (4 * j + 3) := cut_lt (f := fun t => g 3 (4 * t + 3)) hj
  refine Ev.sn e_X9_rate 2 (i' := 2) (ls' := [_, _, _, _, _, _]) (st' := [_, _]) rfl ?_
  refine Ev.put e_X9_rate rfl rfl rfl rfl rfl rfl (w1 := wR g tr) rfl ?_
  refine Ev.sn e_X9_rate 3 (i' := 6) (ls' := [_, _, _, _, _, _]) (st' := [_, _, _]) rfl ?_
  refine Ev.clS e_X9_rate rfl rfl rfl (as := [_, _, _]) rfl rfl rfl rfl rfl (c_X9_in _ _ _ _ _) rfl ?_
  refine Ev.brF (i1 := 12) (i2 := 8) e_X9_rate rfl rfl ((by decide)) ?_
  refine Ev.sn e_X9_rate 2 (i' := 10) (ls' := [_, _, _, _, _, _]) (st' := [_, _]) rfl ?_
  refine Ev.clV e_X9_rate rfl rfl (as := [_]) rfl rfl rfl kl_X9_isThingThere rfl rfl rfl (c_X9_isThingThere _ _ _ hc _) rfl ?_
  refine Ev.brF (i1 := 12) (i2 := 14) e_X9_rate rfl rfl (bF (g_ok hj (by omega))) ?_
  refine Ev.sn e_X9_rate 7 (i' := 21) (ls' := [_, _, _, _, _, _]) (st' := [_, _]) rfl ?_
  refine Ev.ialdE e_X9_rate rfl rfl rfl rfl (ixm 4 2 j) (by omega) ?_
  refine Ev.sn e_X9_rate 7 (i' := 29) (ls' := [_, _, _, _, _, _]) (st' := [_, _, _]) rfl ?_
  refine Ev.ialdE e_X9_rate rfl rfl rfl rfl (nI_add 6 j) (by omega) ?_
  refine Ev.sn e_X9_rate 10 (i' := 40) (ls' := [_, _, _, _, _, _]) (st' := [_, _, _]) rfl ?_
  refine Ev.ialdE e_X9_rate rfl rfl rfl rfl (ixm 4 3 j) (by omega) ?_
  refine Ev.sn e_X9_rate 6 (i' := 47) (ls' := [_, _, _, _, _, _]) (st' := [_, _, _]) rfl ?_
  refine Ev.brF (i1 := 48) (i2 := 50) e_X9_rate rfl rfl ((by decide)) ?_
  refine Ev.sn e_X9_rate 2 (i' := 52) (ls' := [_, _, _, _, _, _]) (st' := [_, _, _, _]) rfl ?_
  refine Ev.brF (i1 := 53) (i2 := 55) e_X9_rate rfl rfl ((by decide)) ?_
  refine Ev.sn e_X9_rate 2 (i' := 57) (ls' := [_, _, _, _, _, _]) (st' := [_, _, _, _]) rfl ?_
  refine Ev.brF (i1 := 58) (i2 := 60) e_X9_rate rfl rfl ((by decide)) ?_
  refine Ev.sn e_X9_rate 2 (i' := 62) (ls' := [_, _, _, _, _, _]) (st' := [_, _, _, _]) rfl ?_
  refine Ev.brT (i1 := 63) (i2 := 65) e_X9_rate rfl rfl ((by decide)) ?_
  refine Ev.sn e_X9_rate 3 (i' := 72) (ls' := [_, _, _, _, _, _]) (st' := [_, _]) rfl ?_
  refine Ev.put e_X9_rate rfl rfl rfl rfl rfl rfl (w1 := wR g (tr + 1011)) rfl ?_
  refine Ev.sn e_X9_rate 1 (i' := 74) (ls' := [_, _, _, _, _, _]) (st' := [_]) rfl ?_
  refine Ev.brF (i1 := 75) (i2 := 77) e_X9_rate rfl rfl ((by decide)) ?_
  refine Ev.sn e_X9_rate 2 (i' := 79) (ls' := [_, _, _, _, _, _]) (st' := [_, _]) rfl ?_
  refine Ev.brF (i1 := 80) (i2 := 82) e_X9_rate rfl rfl ((by decide)) ?_
  refine Ev.sn e_X9_rate 2 (i' := 84) (ls' := [_, _, _, _, _, _]) (st' := [_, _]) rfl ?_
  refine Ev.brF (i1 := 85) (i2 := 87) e_X9_rate rfl rfl ((by decide)) ?_
  refine Ev.sn e_X9_rate 2 (i' := 89) (ls' := [_, _, _, _, _, _]) (st' := [_, _]) rfl ?_
  refine Ev.brT (i1 := 90) (i2 := 94) e_X9_rate rfl rfl ((by decide)) ?_
  refine Ev.sn e_X9_rate 4 (i' := 107) (ls' := [_, _, _, _, _, _]) (st' := [_]) rfl ?_
  refine Ev.iret e_X9_rate rfl rfl rfl ?_ rfl
  simp only [hv1, hv2, hv3]
set_option maxRecDepth 20000 in
set_option maxHeartbeats 200000 in
theorem c_X9_rate_4 (d : Nat) (g : Nat → Nat → Int32) (tr : Int64) {n q dn : Nat} (hc : RI n q dn g) {j : Nat} (hj : j < n) : Ev (d + 4) 179 0 [.ref 0, .int 4, .int (nI j), .null, .null, .null] [] (wR g tr) (some (.int ((vR n q dn g) 2 j - (vR n q dn g) 3 j + nI j))) (wR g (tr + 10101)) := by
  have hb := hc.b
  have hv2 : (vR n q dn g) 2 j = g 3 (4 * j + 2) := cut_lt (f := fun t => g 3 (4 * t + 2)) hj
  have hv1 : (vR n q dn g) 1 j = g 7 (6 + j) := cut_lt (f := fun t => g 7 (6 + t)) hj
  have hv3 : (vR n q dn g) 3 j = g 3 (4 * j + 3) := cut_lt (f := fun t => g 3 (4 * t + 3)) hj
  refine Ev.sn e_X9_rate 2 (i' := 2) (ls' := [_, _, _, _, _, _]) (st' := [_, _]) rfl ?_
  refine Ev.put e_X9_rate rfl rfl rfl rfl rfl rfl (w1 := wR g tr) rfl ?_
  refine Ev.sn e_X9_rate 3 (i' := 6) (ls' := [_, _, _, _, _, _]) (st' := [_, _, _]) rfl ?_
  refine Ev.clS e_X9_rate rfl rfl rfl (as := [_, _, _]) rfl rfl rfl rfl rfl (c_X9_in _ _ _ _ _) rfl ?_
  refine Ev.brF (i1 := 12) (i2 := 8) e_X9_rate rfl rfl ((by decide)) ?_
  refine Ev.sn e_X9_rate 2 (i' := 10) (ls' := [_, _, _, _, _, _]) (st' := [_, _]) rfl ?_
  refine Ev.clV e_X9_rate rfl rfl (as := [_]) rfl rfl rfl kl_X9_isThingThere rfl rfl rfl (c_X9_isThingThere _ _ _ hc _) rfl ?_
  refine Ev.brF (i1 := 12) (i2 := 14) e_X9_rate rfl rfl (bF (g_ok hj (by omega))) ?_
  refine Ev.sn e_X9_rate 7 (i' := 21) (ls' := [_, _, _, _, _, _]) (st' := [_, _]) rfl ?_
  refine Ev.ialdE e_X9_rate rfl rfl rfl rfl (ixm 4 2 j) (by omega) ?_
  refine Ev.sn e_X9_rate 7 (i' := 29) (ls' := [_, _, _, _, _, _]) (st' := [_, _, _]) rfl ?_
  refine Ev.ialdE e_X9_rate rfl rfl rfl rfl (nI_add 6 j) (by omega) ?_
  refine Ev.sn e_X9_rate 10 (i' := 40) (ls' := [_, _, _, _, _, _]) (st' := [_, _, _]) rfl ?_
  refine Ev.ialdE e_X9_rate rfl rfl rfl rfl (ixm 4 3 j) (by omega) ?_
  refine Ev.sn e_X9_rate 6 (i' := 47) (ls' := [_, _, _, _, _, _]) (st' := [_, _, _]) rfl ?_
  refine Ev.brF (i1 := 48) (i2 := 50) e_X9_rate rfl rfl ((by decide)) ?_
  refine Ev.sn e_X9_rate 2 (i' := 52) (ls' := [_, _, _, _, _, _]) (st' := [_, _, _, _]) rfl ?_
  refine Ev.brF (i1 := 53) (i2 := 55) e_X9_rate rfl rfl ((by decide)) ?_
  refine Ev.sn e_X9_rate 2 (i' := 57) (ls' := [_, _, _, _, _, _]) (st' := [_, _, _, _]) rfl ?_
  refine Ev.brF (i1 := 58) (i2 := 60) e_X9_rate rfl rfl ((by decide)) ?_
  refine Ev.sn e_X9_rate 2 (i' := 62) (ls' := [_, _, _, _, _, _]) (st' := [_, _, _, _]) rfl ?_
  refine Ev.brF (i1 := 63) (i2 := 65) e_X9_rate rfl rfl ((by decide)) ?_
  refine Ev.sn e_X9_rate 2 (i' := 67) (ls' := [_, _, _, _, _, _]) (st' := [_, _, _, _]) rfl ?_
  refine Ev.brT (i1 := 68) (i2 := 70) e_X9_rate rfl rfl ((by decide)) ?_
  refine Ev.sn e_X9_rate 3 (i' := 72) (ls' := [_, _, _, _, _, _]) (st' := [_, _]) rfl ?_
  refine Ev.put e_X9_rate rfl rfl rfl rfl rfl rfl (w1 := wR g (tr + 10101)) rfl ?_
  refine Ev.sn e_X9_rate 1 (i' := 74) (ls' := [_, _, _, _, _, _]) (st' := [_]) rfl ?_
  refine Ev.brF (i1 := 75) (i2 := 77) e_X9_rate rfl rfl ((by decide)) ?_
  refine Ev.sn e_X9_rate 2 (i' := 79) (ls' := [_, _, _, _, _, _]) (st' := [_, _]) rfl ?_
  refine Ev.brF (i1 := 80) (i2 := 82) e_X9_rate rfl rfl ((by decide)) ?_
  refine Ev.sn e_X9_rate 2 (i' := 84) (ls' := [_, _, _, _, _, _]) (st' := [_, _]) rfl ?_
  refine Ev.brF (i1 := 85) (i2 := 87) e_X9_rate rfl rfl ((by decide)) ?_
  refine Ev.sn e_X9_rate 2 (i' := 89) (ls' := [_, _, _, _, _, _]) (st' := [_, _]) rfl ?_
  refine Ev.brF (i1 := 90) (i2 := 94) e_X9_rate rfl rfl ((by decide)) ?_
  refine Ev.sn e_X9_rate 2 (i' := 96) (ls' := [_, _, _, _, _, _]) (st' := [_, _]) rfl ?_
  refine Ev.brT (i1 := 97) (i2 := 101) e_X9_rate rfl rfl ((by decide)) ?_
  refine Ev.sn e_X9_rate 4 (i' := 107) (ls' := [_, _, _, _, _, _]) (st' := [_]) rfl ?_
  refine Ev.iret e_X9_rate rfl rfl rfl ?_ rfl
  simp only [hv1, hv2, hv3]
set_option maxRecDepth 20000 in
set_option maxHeartbeats 200000 in
theorem c_X9_rate_5 (d : Nat) (g : Nat → Nat → Int32) (tr : Int64) {n q dn : Nat} (hc : RI n q dn g) {j : Nat} (hj : j < n) : Ev (d + 4) 179 0 [.ref 0, .int 5, .int (nI j), .null, .null, .null] [] (wR g tr) (some (.int ((vR n q dn g) 2 j + bcI (PIF q (vR n q dn g) j)))) (wR g (tr + 100001)) := by
  have hb := hc.b
  have hv2 : (vR n q dn g) 2 j = g 3 (4 * j + 2) := cut_lt (f := fun t => g 3 (4 * t + 2)) hj
  have hv1 : (vR n q dn g) 1 j = g 7 (6 + j) := cut_lt (f := fun t => g 7 (6 + t)) hj
  have hv3 : (vR n q dn g) 3 j = g 3 (4 * j + 3) := cut_lt (f := fun t => g 3 (4 * t + 3)) hj
  refine Ev.sn e_X9_rate 2 (i' := 2) (ls' := [_, _, _, _, _, _]) (st' := [_, _]) rfl ?_
  refine Ev.put e_X9_rate rfl rfl rfl rfl rfl rfl (w1 := wR g tr) rfl ?_
  refine Ev.sn e_X9_rate 3 (i' := 6) (ls' := [_, _, _, _, _, _]) (st' := [_, _, _]) rfl ?_
  refine Ev.clS e_X9_rate rfl rfl rfl (as := [_, _, _]) rfl rfl rfl rfl rfl (c_X9_in _ _ _ _ _) rfl ?_
  refine Ev.brF (i1 := 12) (i2 := 8) e_X9_rate rfl rfl ((by decide)) ?_
  refine Ev.sn e_X9_rate 2 (i' := 10) (ls' := [_, _, _, _, _, _]) (st' := [_, _]) rfl ?_
  refine Ev.clV e_X9_rate rfl rfl (as := [_]) rfl rfl rfl kl_X9_isThingThere rfl rfl rfl (c_X9_isThingThere _ _ _ hc _) rfl ?_
  refine Ev.brF (i1 := 12) (i2 := 14) e_X9_rate rfl rfl (bF (g_ok hj (by omega))) ?_
  refine Ev.sn e_X9_rate 7 (i' := 21) (ls' := [_, _, _, _, _, _]) (st' := [_, _]) rfl ?_
  refine Ev.ialdE e_X9_rate rfl rfl rfl rfl (ixm 4 2 j) (by omega) ?_
  refine Ev.sn e_X9_rate 7 (i' := 29) (ls' := [_, _, _, _, _, _]) (st' := [_, _, _]) rfl ?_
  refine Ev.ialdE e_X9_rate rfl rfl rfl rfl (nI_add 6 j) (by omega) ?_
  refine Ev.sn e_X9_rate 10 (i' := 40) (ls' := [_, _, _, _, _, _]) (st' := [_, _, _]) rfl ?_
  refine Ev.ialdE e_X9_rate rfl rfl rfl rfl (ixm 4 3 j) (by omega) ?_
  refine Ev.sn e_X9_rate 6 (i' := 47) (ls' := [_, _, _, _, _, _]) (st' := [_, _, _]) rfl ?_
  refine Ev.brF (i1 := 48) (i2 := 50) e_X9_rate rfl rfl ((by decide)) ?_
  refine Ev.sn e_X9_rate 2 (i' := 52) (ls' := [_, _, _, _, _, _]) (st' := [_, _, _, _]) rfl ?_
  refine Ev.brF (i1 := 53) (i2 := 55) e_X9_rate rfl rfl ((by decide)) ?_
  refine Ev.sn e_X9_rate 2 (i' := 57) (ls' := [_, _, _, _, _, _]) (st' := [_, _, _, _]) rfl ?_
  refine Ev.brF (i1 := 58) (i2 := 60) e_X9_rate rfl rfl ((by decide)) ?_
  refine Ev.sn e_X9_rate 2 (i' := 62) (ls' := [_, _, _, _, _, _]) (st' := [_, _, _, _]) rfl ?_
  refine Ev.brF (i1 := 63) (i2 := 65) e_X9_rate rfl rfl ((by decide)) ?_
  refine Ev.sn e_X9_rate 2 (i' := 67) (ls' := [_, _, _, _, _, _]) (st' := [_, _, _, _]) rfl ?_
  refine Ev.brF (i1 := 68) (i2 := 70) e_X9_rate rfl rfl ((by decide)) ?_
  refine Ev.sn e_X9_rate 2 (i' := 72) (ls' := [_, _, _, _, _, _]) (st' := [_, _]) rfl ?_
  refine Ev.put e_X9_rate rfl rfl rfl rfl rfl rfl (w1 := wR g (tr + 100001)) rfl ?_
  refine Ev.sn e_X9_rate 1 (i' := 74) (ls' := [_, _, _, _, _, _]) (st' := [_]) rfl ?_
  refine Ev.brF (i1 := 75) (i2 := 77) e_X9_rate rfl rfl ((by decide)) ?_
  refine Ev.sn e_X9_rate 2 (i' := 79) (ls' := [_, _, _, _, _, _]) (st' := [_, _]) rfl ?_
  refine Ev.brF (i1 := 80) (i2 := 82) e_X9_rate rfl rfl ((by decide)) ?_
  refine Ev.sn e_X9_rate 2 (i' := 84) (ls' := [_, _, _, _, _, _]) (st' := [_, _]) rfl ?_
  refine Ev.brF (i1 := 85) (i2 := 87) e_X9_rate rfl rfl ((by decide)) ?_
  refine Ev.sn e_X9_rate 2 (i' := 89) (ls' := [_, _, _, _, _, _]) (st' := [_, _]) rfl ?_
  refine Ev.brF (i1 := 90) (i2 := 94) e_X9_rate rfl rfl ((by decide)) ?_
  refine Ev.sn e_X9_rate 2 (i' := 96) (ls' := [_, _, _, _, _, _]) (st' := [_, _]) rfl ?_
  refine Ev.brF (i1 := 97) (i2 := 101) e_X9_rate rfl rfl ((by decide)) ?_
  refine Ev.sn e_X9_rate 3 (i' := 104) (ls' := [_, _, _, _, _, _]) (st' := [_, _, _]) rfl ?_
  refine Ev.clV e_X9_rate rfl rfl (as := [_]) rfl rfl rfl kl_X9_fitsOf rfl rfl rfl (c_X9_fitsOf _ _ _ hc hj) rfl ?_
  refine Ev.clS e_X9_rate rfl rfl rfl (as := [_]) rfl rfl rfl rfl rfl (c_X9_ones _ _ _) rfl ?_
  refine Ev.sn e_X9_rate 1 (i' := 107) (ls' := [_, _, _, _, _, _]) (st' := [_]) rfl ?_
  refine Ev.iret e_X9_rate rfl rfl rfl ?_ rfl
  rw [hv2, ← ONE_of (PIF_m (by omega) (vR n q dn g) j)]
set_option maxRecDepth 20000 in
set_option maxHeartbeats 200000 in
theorem c_X9_rate (d : Nat) (g : Nat → Nat → Int32) (tr : Int64) {n q dn : Nat} (hc : RI n q dn g) (x t : Int32) : Ev (d + 4) 179 0 [.ref 0, .int x, .int t, .null, .null, .null] [] (wR g tr) (some (.int (S_rate n q (vR n q dn g) x t))) (wR g (S_trc n tr x t)) := by
  have hb := hc.b
  by_cases hg : (decide (0 ≤ t) && decide (t < nI n)) = true
  · obtain ⟨j, hj, rfl⟩ := ixB (n := n) (by omega) hg
    have hcl : (nI j).toNatClampNeg = j := nI_clamp (by omega)
    by_cases x0 : x = 0
    · subst x0
      rw [show S_rate n q (vR n q dn g) 0 (nI j) = (vR n q dn g) 2 j by simp [S_rate, hg, hcl], show S_trc n tr 0 (nI j) = tr + 1 by simp [S_trc, hg]]
      exact c_X9_rate_0 _ _ _ hc hj
    by_cases x1 : x = 1
    · subst x1
      rw [show S_rate n q (vR n q dn g) 1 (nI j) = (vR n q dn g) 2 j + (vR n q dn g) 1 j by simp [S_rate, hg, hcl], show S_trc n tr 1 (nI j) = tr + 11 by simp [S_trc, hg]]
      exact c_X9_rate_1 _ _ _ hc hj
    by_cases x2 : x = 2
    · subst x2
      rw [show S_rate n q (vR n q dn g) 2 (nI j) = (vR n q dn g) 2 j - (vR n q dn g) 3 j by simp [S_rate, hg, hcl], show S_trc n tr 2 (nI j) = tr + 101 by simp [S_trc, hg]]
      exact c_X9_rate_2 _ _ _ hc hj
    by_cases x3 : x = 3
    · subst x3
      rw [show S_rate n q (vR n q dn g) 3 (nI j) = 2 * ((vR n q dn g) 2 j + (vR n q dn g) 1 j) by simp [S_rate, hg, hcl], show S_trc n tr 3 (nI j) = tr + 1011 by simp [S_trc, hg]]
      exact c_X9_rate_3 _ _ _ hc hj
    by_cases x4 : x = 4
    · subst x4
      rw [show S_rate n q (vR n q dn g) 4 (nI j) = (vR n q dn g) 2 j - (vR n q dn g) 3 j + nI j by simp [S_rate, hg, hcl], show S_trc n tr 4 (nI j) = tr + 10101 by simp [S_trc, hg]]
      exact c_X9_rate_4 _ _ _ hc hj
    by_cases x5 : x = 5
    · subst x5
      rw [show S_rate n q (vR n q dn g) 5 (nI j) = (vR n q dn g) 2 j + bcI (PIF q (vR n q dn g) j) by simp [S_rate, hg, hcl], show S_trc n tr 5 (nI j) = tr + 100001 by simp [S_trc, hg]]
      exact c_X9_rate_5 _ _ _ hc hj
    rw [show S_rate n q (vR n q dn g) x (nI j) = -1000000 by simp [S_rate, hg, x0, x1, x2, x3, x4, x5], show S_trc n tr x (nI j) = tr by simp [S_trc, hg, x0, x1, x2, x3, x4, x5]]
    have hx : (decide (0 ≤ x) && decide (x ≤ nI 5)) = false := rngF (by omega) (fun j hj => by
      match j, hj with
      | 0, _ => exact x0
      | 1, _ => exact x1
      | 2, _ => exact x2
      | 3, _ => exact x3
      | 4, _ => exact x4
      | 5, _ => exact x5)
    refine Ev.sn e_X9_rate 2 (i' := 2) (ls' := [_, _, _, _, _, _]) (st' := [_, _]) rfl ?_
    refine Ev.put e_X9_rate rfl rfl rfl rfl rfl rfl (w1 := wR g tr) rfl ?_
    refine Ev.sn e_X9_rate 3 (i' := 6) (ls' := [_, _, _, _, _, _]) (st' := [_, _, _]) rfl ?_
    refine Ev.clS e_X9_rate rfl rfl rfl (as := [_, _, _]) rfl rfl rfl rfl rfl (c_X9_in _ _ _ _ _) rfl ?_
    refine Ev.brT (i1 := 12) (i2 := 8) e_X9_rate rfl rfl (bT hx) ?_
    refine Ev.sn e_X9_rate 1 (i' := 13) (ls' := [_, _, _, _, _, _]) (st' := [_]) rfl ?_
    refine Ev.iret e_X9_rate rfl rfl rfl ?_ rfl
    rfl
  · rw [show S_rate n q (vR n q dn g) x t = -1000000 by simp [S_rate, hg], show S_trc n tr x t = tr by simp [S_trc, hg]]
    have hg2 : (decide (0 ≤ t) && decide (t < nI n)) = false := by simpa using hg
    refine Ev.sn e_X9_rate 2 (i' := 2) (ls' := [_, _, _, _, _, _]) (st' := [_, _]) rfl ?_
    refine Ev.put e_X9_rate rfl rfl rfl rfl rfl rfl (w1 := wR g tr) rfl ?_
    refine Ev.sn e_X9_rate 3 (i' := 6) (ls' := [_, _, _, _, _, _]) (st' := [_, _, _]) rfl ?_
    refine Ev.clS e_X9_rate rfl rfl rfl (as := [_, _, _]) rfl rfl rfl rfl rfl (c_X9_in _ _ _ _ _) rfl ?_
    refine Ev.brB (i1 := 12) (i2 := 8) e_X9_rate rfl rfl (fun h0 => ?_) (fun h0 => ?_)
    · refine Ev.sn e_X9_rate 1 (i' := 13) (ls' := [_, _, _, _, _, _]) (st' := [_]) rfl ?_
      refine Ev.iret e_X9_rate rfl rfl rfl ?_ rfl
      rfl
    · refine Ev.sn e_X9_rate 2 (i' := 10) (ls' := [_, _, _, _, _, _]) (st' := [_, _]) rfl ?_
      refine Ev.clV e_X9_rate rfl rfl (as := [_]) rfl rfl rfl kl_X9_isThingThere rfl rfl rfl (c_X9_isThingThere _ _ _ hc _) rfl ?_
      refine Ev.brT (i1 := 12) (i2 := 14) e_X9_rate rfl rfl (bT hg2) ?_
      refine Ev.sn e_X9_rate 1 (i' := 13) (ls' := [_, _, _, _, _, _]) (st' := [_]) rfl ?_
      refine Ev.iret e_X9_rate rfl rfl rfl ?_ rfl
      rfl
def shF (k p : Nat) (f : Nat → Int32) : Nat → Int32 := fo (fun j f => upd f j (f (j + 17))) k p f
theorem shF_at (k : Nat) : ∀ (p : Nat) (f : Nat → Int32) (i : Nat), shF k p f i = if p ≤ i ∧ i < p + k then f (i + 17) else f i := by
  induction k with
  | zero => intro p f i; rw [if_neg (by omega)]; rfl
  | succ k ih =>
    intro p f i
    show shF k (p + 1) (upd f p (f (p + 17))) i = _
    rw [ih]
    by_cases h : i = p
    · subst h; rw [if_neg (by omega), if_pos (by omega), pk_us]
    · by_cases h2 : p + 1 ≤ i ∧ i < p + 1 + k
      · rw [if_pos h2, if_pos (by omega), pk_un (by omega)]
      · rw [if_neg h2, if_neg (by omega), pk_un h]
def wrF (s : Nat → Int32) (b k p : Nat) (f : Nat → Int32) : Nat → Int32 := fo (fun t f => upd f (b + t) (s t)) k p f
theorem wrF_at {s : Nat → Int32} {b : Nat} (k : Nat) : ∀ (p : Nat) (f : Nat → Int32) (i : Nat), wrF s b k p f i = if b + p ≤ i ∧ i < b + p + k then s (i - b) else f i := by
  induction k with
  | zero => intro p f i; rw [if_neg (by omega)]; rfl
  | succ k ih =>
    intro p f i
    show wrF s b k (p + 1) (upd f (b + p) (s p)) i = _
    rw [ih]
    by_cases h : i = b + p
    · subst h; rw [if_neg (by omega), if_pos (by omega), pk_us, show b + p - b = p by omega]
    · by_cases h2 : b + (p + 1) ≤ i ∧ i < b + (p + 1) + k
      · rw [if_pos h2, if_pos (by omega)]
      · rw [if_neg h2, if_neg (by omega), pk_un h]
/-- what notes does -/
def NOT (g g' : Nat → Nat → Int32) (k : Nat) : Prop := ∃ k', k' < 10 ∧ ((k < 10 ∧ k' = k ∧ ∀ i, i < 17 * k' → g' 10 i = g 10 i) ∨ (k = 10 ∧ k' = 9 ∧ ∀ i, i < 17 * k' → g' 10 i = g 10 (i + 17))) ∧ g' 0 6 = nI (k' + 1) ∧ (∀ t, t < 17 → g' 10 (17 * k' + t) = g 7 t) ∧ (∀ x, x ≠ 0 → x ≠ 10 → g' x = g x) ∧ (∀ i, i ≠ 6 → g' 0 i = g 0 i)
set_option maxRecDepth 20000 in
set_option maxHeartbeats 200000 in
theorem lt_X9_notes (d : Nat) (g : Nat → Nat → Int32) (tr : Int64) {k : Nat} (hk : g 0 6 = nI k) (hk10 : k < 10) : ∀ (j p : Nat) (f : Nat → Int32), p + j = 17 → Ev d 149 26 [.ref 0, .int (nI p)] [] (wR (va_up g 10 f) tr) none (wR (va_up (va_up g 10 (wrF (g 7) (17 * k) j p f)) 0 (upd (g 0) 6 (nI (k + 1)))) tr) := by
  intro j
  induction j with
  | zero =>
    intro p f hp
    refine Ev.sn e_X9_notes 2 (i' := 28) (ls' := [_, _]) (st' := [_, _]) rfl ?_
    refine Ev.brT (i1 := 44) (i2 := 29) e_X9_notes rfl rfl (ge_t (n := 17) rfl (by omega) (by omega)) ?_
    refine Ev.sn e_X9_notes 5 (i' := 49) (ls' := [_, _]) (st' := [_, _]) rfl ?_
    refine Ev.put e_X9_notes rfl rfl rfl rfl rfl rfl (w1 := wR (va_up (va_up g 10 f) 0 (upd (g 0) 6 (g 0 6 + 1))) tr) rfl ?_
    exact Ev.vret e_X9_notes rfl rfl (by rw [hk, nI_1]; rfl)
  | succ j ih =>
    intro p f hp
    refine Ev.sn e_X9_notes 2 (i' := 28) (ls' := [_, _]) (st' := [_, _]) rfl ?_
    refine Ev.brF (i1 := 44) (i2 := 29) e_X9_notes rfl rfl (ge_f (n := 17) rfl (by omega) (by omega)) ?_
    refine Ev.sn e_X9_notes 11 (i' := 40) (ls' := [_, _]) (st' := [_, _, _, _]) rfl ?_
    refine Ev.ialdE e_X9_notes rfl rfl rfl rfl rfl (by omega) ?_
    refine Ev.iastE e_X9_notes rfl rfl rfl (by rw [show (va_up g 10 f) 0 6 = nI k from hk]; exact (congrArg (· + nI p) (pk_mul 17 k)).trans (nI_add _ _)) (by omega) (w1 := wR (va_up g 10 (upd f (17 * k + p) (g 7 p))) tr) rfl ?_
    refine Ev.sn e_X9_notes 2 (i' := 26) (ls' := [_, _]) (st' := []) rfl ?_
    rw [nI_1]
    exact ih (p + 1) _ (by omega)
set_option maxRecDepth 20000 in
set_option maxHeartbeats 200000 in
theorem ls_X9_notes (d : Nat) (g : Nat → Nat → Int32) (tr : Int64) (r : Option Value) (w2 : AW) : ∀ (j p : Nat) (f : Nat → Int32), p + j = 153 → Ev d 149 21 [.ref 0, .null] [] (wR (va_up g 10 (shF j p f)) tr) r w2 → Ev d 149 6 [.ref 0, .int (nI p)] [] (wR (va_up g 10 f) tr) r w2 := by
  intro j
  induction j with
  | zero =>
    intro p f hp K
    refine Ev.sn e_X9_notes 2 (i' := 8) (ls' := [_, _]) (st' := [_, _]) rfl ?_
    refine Ev.brT (i1 := 21) (i2 := 9) e_X9_notes rfl rfl (ge_t (n := 153) rfl (by omega) (by omega)) ?_
    exact Ev.weak (lle_c (lle_n lle_0)) K
  | succ j ih =>
    intro p f hp K
    refine Ev.sn e_X9_notes 2 (i' := 8) (ls' := [_, _]) (st' := [_, _]) rfl ?_
    refine Ev.brF (i1 := 21) (i2 := 9) e_X9_notes rfl rfl (ge_f (n := 153) rfl (by omega) (by omega)) ?_
    refine Ev.sn e_X9_notes 8 (i' := 17) (ls' := [_, _]) (st' := [_, _, _, _]) rfl ?_
    refine Ev.ialdE e_X9_notes rfl rfl rfl rfl (nI_add p 17) (by omega) ?_
    refine Ev.iastE e_X9_notes rfl rfl rfl rfl (by omega) (w1 := wR (va_up g 10 (upd f p (f (p + 17)))) tr) rfl ?_
    refine Ev.sn e_X9_notes 2 (i' := 6) (ls' := [_, _]) (st' := []) rfl ?_
    rw [nI_1]
    exact ih (p + 1) _ (by omega) K
set_option maxRecDepth 20000 in
set_option maxHeartbeats 200000 in
theorem c_X9_notes (d : Nat) (g : Nat → Nat → Int32) (tr : Int64) {k : Nat} (hk : g 0 6 = nI k) (hk10 : k ≤ 10) : ∃ g', Ev d 149 0 [.ref 0, .null] [] (wR g tr) none (wR g' tr) ∧ NOT g g' k := by
  by_cases hx : k = 10
  · subst hx
    obtain ⟨g2, hg2⟩ : ∃ g2, g2 = va_up (va_up g 10 (shF 153 0 (g 10))) 0 (upd (g 0) 6 (nI 9)) := ⟨_, rfl⟩
    have a6 : g2 0 6 = nI 9 := by rw [hg2]; rfl
    have a7 : g2 7 = g 7 := by rw [hg2]; rfl
    have a10 : g2 10 = shF 153 0 (g 10) := by rw [hg2]; rfl
    refine ⟨va_up (va_up g2 10 (wrF (g2 7) (17 * 9) 17 0 (g2 10))) 0 (upd (g2 0) 6 (nI (9 + 1))), ?_, ?_⟩
    · have tl := lt_X9_notes d g2 tr a6 (by omega) 17 0 (g2 10) rfl
      refine Ev.sn e_X9_notes 3 (i' := 3) (ls' := [_, _]) (st' := [_, _]) rfl ?_
      refine Ev.brT (i1 := 4) (i2 := 24) e_X9_notes rfl rfl (hk) ?_
      refine Ev.sn e_X9_notes 2 (i' := 6) (ls' := [_, _]) (st' := []) rfl ?_
      refine Ev.wd (w2 := wR (va_up g 10 (g 10)) tr) rfl ?_
      refine ls_X9_notes d g tr _ _ 153 0 (g 10) rfl ?_
      refine Ev.sn e_X9_notes 2 (i' := 23) (ls' := [_, _]) (st' := [_, _]) rfl ?_
      refine Ev.put e_X9_notes rfl rfl rfl rfl rfl rfl (w1 := wR g2 tr) (by rw [hg2]; rfl) ?_
      refine Ev.sn e_X9_notes 2 (i' := 26) (ls' := [_, _]) (st' := []) rfl ?_
      refine Ev.wd (w2 := wR (va_up g2 10 (g2 10)) tr) rfl ?_
      exact tl
    · refine ⟨9, by omega, Or.inr ⟨rfl, rfl, fun i hi => ?_⟩, rfl, fun t ht => ?_, fun x h1 h2 => ?_, fun i hi => ?_⟩
      · show wrF (g2 7) (17 * 9) 17 0 (g2 10) i = _
        rw [wrF_at, if_neg (by omega), a10, shF_at, if_pos (by omega)]
      · show wrF (g2 7) (17 * 9) 17 0 (g2 10) _ = _
        rw [wrF_at, if_pos (by omega), a7, show 17 * 9 + t - 17 * 9 = t by omega]
      · rw [va_up_ne _ _ h1, va_up_ne _ _ h2, hg2, va_up_ne _ _ h1, va_up_ne _ _ h2]
      · rw [va_up_self, pk_un hi, hg2, va_up_self, pk_un hi]
  · refine ⟨va_up (va_up g 10 (wrF (g 7) (17 * k) 17 0 (g 10))) 0 (upd (g 0) 6 (nI (k + 1))), ?_, ?_⟩
    · have tl := lt_X9_notes d g tr hk (by omega) 17 0 (g 10) rfl
      refine Ev.sn e_X9_notes 3 (i' := 3) (ls' := [_, _]) (st' := [_, _]) rfl ?_
      refine Ev.brF (i1 := 4) (i2 := 24) e_X9_notes rfl rfl ((fun e => hx ((nI_eq (by omega) (by omega)).mp (hk.symm.trans e)))) ?_
      refine Ev.sn e_X9_notes 2 (i' := 26) (ls' := [_, _]) (st' := []) rfl ?_
      refine Ev.wd (w2 := wR (va_up g 10 (g 10)) tr) rfl ?_
      exact tl
    · refine ⟨k, by omega, Or.inl ⟨by omega, rfl, fun i hi => ?_⟩, rfl, fun t ht => ?_, fun x h1 h2 => ?_, fun i hi => ?_⟩
      · show wrF (g 7) (17 * k) 17 0 (g 10) i = _
        rw [wrF_at, if_neg (by omega)]
      · show wrF (g 7) (17 * k) 17 0 (g 10) _ = _
        rw [wrF_at, if_pos (by omega), show 17 * k + t - 17 * k = t by omega]
      · rw [va_up_ne _ _ h1, va_up_ne _ _ h2]
      · rw [va_up_self, pk_un hi]
theorem vR_congr {n q dn : Nat} {g g1 : Nat → Nat → Int32} (h : ∀ x, x ≠ 0 → x ≠ 10 → g1 x = g x) : vR n q dn g1 = vR n q dn g := by
  funext r
  unfold vR
  rw [h 3 (by omega) (by omega), h 7 (by omega) (by omega), h 4 (by omega) (by omega), h 6 (by omega) (by omega), h 5 (by omega) (by omega)]
theorem RI.keep {n q dn : Nat} {g g1 : Nat → Nat → Int32} (hc : RI n q dn g) (h : ∀ x, x ≠ 0 → x ≠ 10 → g1 x = g x) : RI n q dn g1 := by
  unfold RI
  rw [vR_congr h, h 2 (by omega) (by omega), h 7 (by omega) (by omega)]
  exact hc
theorem NOT.low {g g' : Nat → Nat → Int32} {k : Nat} (h : NOT g g' k) : ∀ x, x ≠ 0 → x ≠ 10 → g' x = g x := by
  obtain ⟨k', -, -, -, -, h1, -⟩ := h
  exact h1
theorem vR_7 {n q dn : Nat} {g : Nat → Nat → Int32} (f : Nat → Int32) : vR n q dn (va_up g 7 f) = va_up (va_up (va_up (vR n q dn g) 12 (cut n (fun t => if f t = 0 then -9 else f t - 1))) 1 (cut n (fun t => f (6 + t)))) 4 (cut q (fun t => f (12 + t))) := by
  funext r
  by_cases h4 : r = 4
  · subst h4; rfl
  · rw [va_up_ne _ _ h4]
    by_cases h1 : r = 1
    · subst h1; rfl
    · rw [va_up_ne _ _ h1]
      by_cases h12 : r = 12
      · subst h12; rfl
      · rw [va_up_ne _ _ h12]
        unfold vR
        split <;> first | rfl | exact absurd rfl h12 | exact absurd rfl h1 | exact absurd rfl h4
theorem RI.up7 {n q dn : Nat} {g : Nat → Nat → Int32} {f : Nat → Int32} (hc : RI n q dn g) (h1 : ∀ t, t < n → f t = 0 ∨ ∃ p, p < q ∧ f t = nI (p + 1)) (h2 : ∀ t, t < n → btw 1 48 (f (6 + t))) (h3 : ∀ p, p < q → btw 1 48 (f (12 + p))) : RI n q dn (va_up g 7 f) := by
  refine ⟨hc.1, hc.2.1, hc.2.2.1, ?_, h1⟩
  rw [vR_7]
  refine ((hc.w.ow (f := cut n (fun t => if f t = 0 then -9 else f t - 1)) (fun t ht => ?_)).ts (fun t ht => ?_)).ps (fun p hp => ?_)
  · rw [cut_lt ht]
    have hb := hc.b
    rcases h1 t ht with h | ⟨p, h, h'⟩
    · exact Or.inl (if_pos h)
    · refine Or.inr ⟨p, h, ?_⟩
      show (if f t = 0 then -9 else f t - 1) = nI p
      rw [h', if_neg (nI_ne0 (by omega) (by omega)), nI_pred]
  · rw [cut_lt ht]; exact h2 t ht
  · rw [cut_lt hp]; exact h3 p hp
theorem RI.s1 {n q dn : Nat} {g : Nat → Nat → Int32} (hc : RI n q dn g) : ∀ t, t < n → btw 1 48 (g 7 (6 + t)) := fun t ht => by
  have := (hc.w.2.1 t ht).2.1
  rw [show vR n q dn g 1 t = g 7 (6 + t) from cut_lt (f := fun t => g 7 (6 + t)) ht] at this
  exact this
theorem RI.s4 {n q dn : Nat} {g : Nat → Nat → Int32} (hc : RI n q dn g) : ∀ t, t < q → btw 1 48 (g 7 (12 + t)) := fun t ht => by
  have := (hc.w.2.2.1 t ht).1
  rw [show vR n q dn g 4 t = g 7 (12 + t) from cut_lt (f := fun t => g 7 (12 + t)) ht] at this
  exact this
theorem RI.o7 {n q dn : Nat} {g : Nat → Nat → Int32} (hc : RI n q dn g) {j : Nat} (hj : j < n) {x : Int32} (hx : x = 0 ∨ ∃ p, p < q ∧ x = nI (p + 1)) : RI n q dn (va_up g 7 (upd (g 7) j x)) := by
  have hb := hc.b
  refine hc.up7 (fun t ht => ?_) (fun t ht => ?_) (fun p hp => ?_)
  · by_cases e : t = j
    · subst e; rw [pk_us]; exact hx
    · rw [pk_un e]; exact hc.o t ht
  · rw [pk_un (by omega)]; exact hc.s1 t ht
  · rw [pk_un (by omega)]; exact hc.s4 p hp
theorem RI.t7 {n q dn : Nat} {g : Nat → Nat → Int32} (hc : RI n q dn g) {j : Nat} (hj : j < n) {x : Int32} (hx : btw 1 48 x) : RI n q dn (va_up g 7 (upd (g 7) (6 + j) x)) := by
  have hb := hc.b
  refine hc.up7 (fun t ht => ?_) (fun t ht => ?_) (fun p hp => ?_)
  · rw [pk_un (by omega)]; exact hc.o t ht
  · by_cases e : t = j
    · subst e; rw [pk_us]; exact hx
    · rw [pk_un (by omega)]; exact hc.s1 t ht
  · rw [pk_un (by omega)]; exact hc.s4 p hp
theorem RI.p7 {n q dn : Nat} {g : Nat → Nat → Int32} (hc : RI n q dn g) {j : Nat} (hj : j < q) {x : Int32} (hx : btw 1 48 x) : RI n q dn (va_up g 7 (upd (g 7) (12 + j) x)) := by
  have hb := hc.b
  refine hc.up7 (fun t ht => ?_) (fun t ht => ?_) (fun p hp => ?_)
  · rw [pk_un (by omega)]; exact hc.o t ht
  · rw [pk_un (by omega)]; exact hc.s1 t ht
  · by_cases e : p = j
    · subst e; rw [pk_us]; exact hx
    · rw [pk_un (by omega)]; exact hc.s4 p hp
/-- what does not fit is nobody's (the reference's numbers) -/
def stRR (v : VW) (t : Nat) (f : Nat → Int32) : Nat → Int32 := if f t ≤ 0 then f else if fpB v t (f t - 1).toNatClampNeg = true then f else upd f t 0
def FRR (n : Nat) (v : VW) (f : Nat → Int32) : Nat → Int32 := fo (stRR v) n 0 f
set_option maxRecDepth 20000 in
set_option maxHeartbeats 200000 in
theorem c_X9_lays_b (d : Nat) (g : Nat → Nat → Int32) (tr : Int64) {n q dn : Nat} (hc : RI n q dn g) (t p : Int32) (h : ((decide (0 ≤ t) && decide (t < nI n)) && (decide (0 ≤ p) && decide (p < nI q))) = false) : Ev (d + 3) 151 0 [.ref 0, .int t, .int p] [] (wR g tr) (some (.int (-1))) (wR g tr) := by
  have hb := hc.b
  refine Ev.sn e_X9_lays 2 (i' := 2) (ls' := [_, _, _]) (st' := [_, _]) rfl ?_
  refine Ev.put e_X9_lays rfl rfl rfl rfl rfl rfl (w1 := wR g tr) rfl ?_
  refine Ev.sn e_X9_lays 2 (i' := 5) (ls' := [_, _, _]) (st' := [_, _]) rfl ?_
  refine Ev.clV e_X9_lays rfl rfl (as := [_]) rfl rfl rfl kl_X9_isThingThere rfl rfl rfl (c_X9_isThingThere _ _ _ hc _) rfl ?_
  refine Ev.brB (i1 := 11) (i2 := 7) e_X9_lays rfl rfl (fun h0 => ?_) (fun h0 => ?_)
  · refine Ev.sn e_X9_lays 1 (i' := 12) (ls' := [_, _, _]) (st' := [_]) rfl ?_
    refine Ev.iret e_X9_lays rfl rfl rfl ?_ rfl
    rfl
  · refine Ev.sn e_X9_lays 2 (i' := 9) (ls' := [_, _, _]) (st' := [_, _]) rfl ?_
    refine Ev.clV e_X9_lays rfl rfl (as := [_]) rfl rfl rfl kl_X9_isPerson rfl rfl rfl (c_X9_isPerson _ _ _ hc _) rfl ?_
    refine Ev.brB (i1 := 11) (i2 := 13) e_X9_lays rfl rfl (fun h1 => ?_) (fun h1 => ?_)
    · refine Ev.sn e_X9_lays 1 (i' := 12) (ls' := [_, _, _]) (st' := [_]) rfl ?_
      refine Ev.iret e_X9_lays rfl rfl rfl ?_ rfl
      rfl
    · exact absurd h (by rw [h0, h1]; decide)
set_option maxRecDepth 20000 in
set_option maxHeartbeats 200000 in
theorem c_X9_lays_f (d : Nat) (g : Nat → Nat → Int32) (tr : Int64) {n q dn : Nat} (hc : RI n q dn g) {t p : Nat} (ht : t < n) (hp : p < q) (h : (decide ((vR n q dn g) 12 t = -9) && (fpB (vR n q dn g) t p && !HOO n (vR n q dn g) (nI p) ((vR n q dn g) 0 t))) = false) : Ev (d + 3) 151 0 [.ref 0, .int (nI t), .int (nI p)] [] (wR g tr) (some (.int (-2))) (wR g tr) := by
  have hb := hc.b
  have hle := own_le hc ht
  refine Ev.sn e_X9_lays 2 (i' := 2) (ls' := [_, _, _]) (st' := [_, _]) rfl ?_
  refine Ev.put e_X9_lays rfl rfl rfl rfl rfl rfl (w1 := wR g tr) rfl ?_
  refine Ev.sn e_X9_lays 2 (i' := 5) (ls' := [_, _, _]) (st' := [_, _]) rfl ?_
  refine Ev.clV e_X9_lays rfl rfl (as := [_]) rfl rfl rfl kl_X9_isThingThere rfl rfl rfl (c_X9_isThingThere _ _ _ hc _) rfl ?_
  refine Ev.brF (i1 := 11) (i2 := 7) e_X9_lays rfl rfl (bF (g_ok ht (by omega))) ?_
  refine Ev.sn e_X9_lays 2 (i' := 9) (ls' := [_, _, _]) (st' := [_, _]) rfl ?_
  refine Ev.clV e_X9_lays rfl rfl (as := [_]) rfl rfl rfl kl_X9_isPerson rfl rfl rfl (c_X9_isPerson _ _ _ hc _) rfl ?_
  refine Ev.brF (i1 := 11) (i2 := 13) e_X9_lays rfl rfl (bF (g_ok hp (by omega))) ?_
  refine Ev.sn e_X9_lays 3 (i' := 16) (ls' := [_, _, _]) (st' := [_, _, _]) rfl ?_
  refine Ev.clV e_X9_lays rfl rfl (as := [_, _]) rfl rfl rfl kl_X9_isFit rfl rfl rfl (c_X9_isFit _ _ _ hc ht hp) rfl ?_
  refine Ev.brB (i1 := 32) (i2 := 18) e_X9_lays rfl rfl (fun h0 => ?_) (fun h0 => ?_)
  · refine Ev.sn e_X9_lays 1 (i' := 33) (ls' := [_, _, _]) (st' := [_]) rfl ?_
    refine Ev.iret e_X9_lays rfl rfl rfl ?_ rfl
    rfl
  · refine Ev.sn e_X9_lays 4 (i' := 22) (ls' := [_, _, _]) (st' := [_, _, _, _]) rfl ?_
    refine Ev.clV e_X9_lays rfl rfl (as := [_]) rfl rfl rfl kl_X9_useOf rfl rfl rfl (c_X9_useOf _ _ _ hc ht) rfl ?_
    refine Ev.clV e_X9_lays rfl rfl (as := [_, _]) rfl rfl rfl kl_X9_hasOne rfl rfl rfl (c_X9_hasOne _ _ _ hc (by omega) _) rfl ?_
    refine Ev.brB (i1 := 25) (i2 := 32) e_X9_lays rfl rfl (fun h1 => ?_) (fun h1 => ?_)
    · refine Ev.sn e_X9_lays 5 (i' := 30) (ls' := [_, _, _]) (st' := [_, _]) rfl ?_
      refine Ev.ialdE e_X9_lays rfl rfl rfl rfl (z_add _) (by omega) ?_
      refine Ev.br (i1 := 34) (i2 := 32) e_X9_lays rfl rfl (fun h2 => ?_) (fun h2 => ?_)
      · exact absurd h (by rw [h0, h1, decide_eq_true (hle.mp h2)]; decide)
      · refine Ev.sn e_X9_lays 1 (i' := 33) (ls' := [_, _, _]) (st' := [_]) rfl ?_
        refine Ev.iret e_X9_lays rfl rfl rfl ?_ rfl
        rfl
    · refine Ev.sn e_X9_lays 1 (i' := 33) (ls' := [_, _, _]) (st' := [_]) rfl ?_
      refine Ev.iret e_X9_lays rfl rfl rfl ?_ rfl
      rfl
set_option maxRecDepth 20000 in
set_option maxHeartbeats 200000 in
theorem c_X9_lays_s (d : Nat) (g : Nat → Nat → Int32) (tr : Int64) {n q dn : Nat} (hc : RI n q dn g) {k : Nat} (hk : g 0 6 = nI k) (hk10 : k ≤ 10) {t p : Nat} (ht : t < n) (hp : p < q) (h : (decide ((vR n q dn g) 12 t = -9) && (fpB (vR n q dn g) t p && !HOO n (vR n q dn g) (nI p) ((vR n q dn g) 0 t))) = true) : ∃ g1, NOT g g1 k ∧ Ev (d + 3) 151 0 [.ref 0, .int (nI t), .int (nI p)] [] (wR g tr) (some (.int (bcI (TOF n (vR n q dn (va_up g1 7 (upd (g1 7) t (nI p + 1)))) (nI p))))) (wR (va_up g1 7 (upd (g1 7) t (nI p + 1))) tr) := by
  have hb := hc.b
  obtain ⟨g1, hr1, hr2⟩ := c_X9_notes (d + 2) g tr hk hk10
  have hlow := hr2.low
  have hc1 := hc.keep hlow
  have hle := own_le hc ht
  simp only [Bool.and_eq_true, decide_eq_true_eq, Bool.not_eq_true'] at h
  have hc2 : RI n q dn (va_up g1 7 (upd (g1 7) t (nI p + 1))) := hc1.o7 ht (Or.inr ⟨p, hp, nI_1 p⟩)
  refine ⟨g1, hr2, ?_⟩
  refine Ev.sn e_X9_lays 2 (i' := 2) (ls' := [_, _, _]) (st' := [_, _]) rfl ?_
  refine Ev.put e_X9_lays rfl rfl rfl rfl rfl rfl (w1 := wR g tr) rfl ?_
  refine Ev.sn e_X9_lays 2 (i' := 5) (ls' := [_, _, _]) (st' := [_, _]) rfl ?_
  refine Ev.clV e_X9_lays rfl rfl (as := [_]) rfl rfl rfl kl_X9_isThingThere rfl rfl rfl (c_X9_isThingThere _ _ _ hc _) rfl ?_
  refine Ev.brF (i1 := 11) (i2 := 7) e_X9_lays rfl rfl (bF (g_ok ht (by omega))) ?_
  refine Ev.sn e_X9_lays 2 (i' := 9) (ls' := [_, _, _]) (st' := [_, _]) rfl ?_
  refine Ev.clV e_X9_lays rfl rfl (as := [_]) rfl rfl rfl kl_X9_isPerson rfl rfl rfl (c_X9_isPerson _ _ _ hc _) rfl ?_
  refine Ev.brF (i1 := 11) (i2 := 13) e_X9_lays rfl rfl (bF (g_ok hp (by omega))) ?_
  refine Ev.sn e_X9_lays 3 (i' := 16) (ls' := [_, _, _]) (st' := [_, _, _]) rfl ?_
  refine Ev.clV e_X9_lays rfl rfl (as := [_, _]) rfl rfl rfl kl_X9_isFit rfl rfl rfl (c_X9_isFit _ _ _ hc ht hp) rfl ?_
  refine Ev.brF (i1 := 32) (i2 := 18) e_X9_lays rfl rfl (bF h.2.1) ?_
  refine Ev.sn e_X9_lays 4 (i' := 22) (ls' := [_, _, _]) (st' := [_, _, _, _]) rfl ?_
  refine Ev.clV e_X9_lays rfl rfl (as := [_]) rfl rfl rfl kl_X9_useOf rfl rfl rfl (c_X9_useOf _ _ _ hc ht) rfl ?_
  refine Ev.clV e_X9_lays rfl rfl (as := [_, _]) rfl rfl rfl kl_X9_hasOne rfl rfl rfl (c_X9_hasOne _ _ _ hc (by omega) _) rfl ?_
  refine Ev.brT (i1 := 25) (i2 := 32) e_X9_lays rfl rfl (bT h.2.2) ?_
  refine Ev.sn e_X9_lays 5 (i' := 30) (ls' := [_, _, _]) (st' := [_, _]) rfl ?_
  refine Ev.ialdE e_X9_lays rfl rfl rfl rfl (z_add _) (by omega) ?_
  refine Ev.brT (i1 := 34) (i2 := 32) e_X9_lays rfl rfl (hle.mpr h.1) ?_
  refine Ev.sn e_X9_lays 1 (i' := 35) (ls' := [_, _, _]) (st' := [_]) rfl ?_
  refine Ev.clV e_X9_lays rfl rfl (as := []) rfl rfl rfl kl_X9_notes rfl rfl rfl (hr1) rfl ?_
  refine Ev.sn e_X9_lays 8 (i' := 44) (ls' := [_, _, _]) (st' := [_, _, _]) rfl ?_
  refine Ev.iastE e_X9_lays rfl rfl rfl (z_add _) (by omega) (w1 := wR (va_up g1 7 (upd (g1 7) t (nI p + 1))) tr) rfl ?_
  refine Ev.sn e_X9_lays 2 (i' := 47) (ls' := [_, _, _]) (st' := [_, _]) rfl ?_
  refine Ev.clV e_X9_lays rfl rfl (as := [_]) rfl rfl rfl kl_X9_thingsOf rfl rfl rfl (c_X9_thingsOf _ _ _ hc2 (by omega)) rfl ?_
  refine Ev.clS e_X9_lays rfl rfl rfl (as := [_]) rfl rfl rfl rfl rfl (c_X9_ones _ _ _) rfl ?_
  refine Ev.iret e_X9_lays rfl rfl rfl ?_ rfl
  exact ONE_of (TOF_m (by omega) _ _)
set_option maxRecDepth 20000 in
set_option maxHeartbeats 200000 in
theorem c_X9_takes__b (d : Nat) (g : Nat → Nat → Int32) (tr : Int64) {n q dn : Nat} (hc : RI n q dn g) (t : Int32) (h : (decide (0 ≤ t) && decide (t < nI n)) = false) : Ev (d + 2) 152 0 [.ref 0, .int t, .null] [] (wR g tr) (some (.int (-1))) (wR g tr) := by
  have hb := hc.b
  refine Ev.sn e_X9_takes_ 2 (i' := 2) (ls' := [_, _, _]) (st' := [_, _]) rfl ?_
  refine Ev.put e_X9_takes_ rfl rfl rfl rfl rfl rfl (w1 := wR g tr) rfl ?_
  refine Ev.sn e_X9_takes_ 2 (i' := 5) (ls' := [_, _, _]) (st' := [_, _]) rfl ?_
  refine Ev.clV e_X9_takes_ rfl rfl (as := [_]) rfl rfl rfl kl_X9_isThingThere rfl rfl rfl (c_X9_isThingThere _ _ _ hc _) rfl ?_
  refine Ev.brT (i1 := 7) (i2 := 9) e_X9_takes_ rfl rfl (bT h) ?_
  refine Ev.sn e_X9_takes_ 1 (i' := 8) (ls' := [_, _, _]) (st' := [_]) rfl ?_
  refine Ev.iret e_X9_takes_ rfl rfl rfl ?_ rfl
  rfl
set_option maxRecDepth 20000 in
set_option maxHeartbeats 200000 in
theorem c_X9_takes__f (d : Nat) (g : Nat → Nat → Int32) (tr : Int64) {n q dn : Nat} (hc : RI n q dn g) {t : Nat} (ht : t < n) (h : (vR n q dn g) 12 t = -9) : Ev (d + 2) 152 0 [.ref 0, .int (nI t), .null] [] (wR g tr) (some (.int (-2))) (wR g tr) := by
  have hb := hc.b
  have h0 : g 7 t = 0 := by
    rcases own_cases hc ht with ⟨a, _⟩ | ⟨p, _, _, e⟩
    · exact a
    · exact absurd (e.symm.trans h) (nI_n9 (by omega))
  refine Ev.sn e_X9_takes_ 2 (i' := 2) (ls' := [_, _, _]) (st' := [_, _]) rfl ?_
  refine Ev.put e_X9_takes_ rfl rfl rfl rfl rfl rfl (w1 := wR g tr) rfl ?_
  refine Ev.sn e_X9_takes_ 2 (i' := 5) (ls' := [_, _, _]) (st' := [_, _]) rfl ?_
  refine Ev.clV e_X9_takes_ rfl rfl (as := [_]) rfl rfl rfl kl_X9_isThingThere rfl rfl rfl (c_X9_isThingThere _ _ _ hc _) rfl ?_
  refine Ev.brF (i1 := 7) (i2 := 9) e_X9_takes_ rfl rfl (bF (g_ok ht (by omega))) ?_
  refine Ev.sn e_X9_takes_ 5 (i' := 14) (ls' := [_, _, _]) (st' := [_, _]) rfl ?_
  refine Ev.ialdE e_X9_takes_ rfl rfl rfl rfl (z_add _) (by omega) ?_
  refine Ev.sn e_X9_takes_ 4 (i' := 19) (ls' := [_, _, _]) (st' := [_]) rfl ?_
  refine Ev.brF (i1 := 22) (i2 := 20) e_X9_takes_ rfl rfl ((by rw [h0]; decide)) ?_
  refine Ev.sn e_X9_takes_ 1 (i' := 21) (ls' := [_, _, _]) (st' := [_]) rfl ?_
  refine Ev.iret e_X9_takes_ rfl rfl rfl ?_ rfl
  rfl
set_option maxRecDepth 20000 in
set_option maxHeartbeats 200000 in
theorem c_X9_takes__s (d : Nat) (g : Nat → Nat → Int32) (tr : Int64) {n q dn : Nat} (hc : RI n q dn g) {k : Nat} (hk : g 0 6 = nI k) (hk10 : k ≤ 10) {t p : Nat} (ht : t < n) (hp : p < q) (h : (vR n q dn g) 12 t = nI p) : ∃ g1, NOT g g1 k ∧ Ev (d + 2) 152 0 [.ref 0, .int (nI t), .null] [] (wR g tr) (some (.int (nI p))) (wR (va_up g1 7 (upd (g1 7) t 0)) tr) := by
  have hb := hc.b
  obtain ⟨g1, hr1, hr2⟩ := c_X9_notes (d + 1) g tr hk hk10
  have hlow := hr2.low
  have hc1 := hc.keep hlow
  have h7 : g 7 t - 1 = nI p := by rw [(own_R hc ht (by omega)).mp h, Int32.add_sub_cancel]
  refine ⟨g1, hr2, ?_⟩
  refine Ev.sn e_X9_takes_ 2 (i' := 2) (ls' := [_, _, _]) (st' := [_, _]) rfl ?_
  refine Ev.put e_X9_takes_ rfl rfl rfl rfl rfl rfl (w1 := wR g tr) rfl ?_
  refine Ev.sn e_X9_takes_ 2 (i' := 5) (ls' := [_, _, _]) (st' := [_, _]) rfl ?_
  refine Ev.clV e_X9_takes_ rfl rfl (as := [_]) rfl rfl rfl kl_X9_isThingThere rfl rfl rfl (c_X9_isThingThere _ _ _ hc _) rfl ?_
  refine Ev.brF (i1 := 7) (i2 := 9) e_X9_takes_ rfl rfl (bF (g_ok ht (by omega))) ?_
  refine Ev.sn e_X9_takes_ 5 (i' := 14) (ls' := [_, _, _]) (st' := [_, _]) rfl ?_
  refine Ev.ialdE e_X9_takes_ rfl rfl rfl rfl (z_add _) (by omega) ?_
  refine Ev.sn e_X9_takes_ 4 (i' := 19) (ls' := [_, _, _]) (st' := [_]) rfl ?_
  refine Ev.brT (i1 := 22) (i2 := 20) e_X9_takes_ rfl rfl ((by rw [h7]; exact nI_pos' (by omega))) ?_
  refine Ev.sn e_X9_takes_ 1 (i' := 23) (ls' := [_, _, _]) (st' := [_]) rfl ?_
  refine Ev.clV e_X9_takes_ rfl rfl (as := []) rfl rfl rfl kl_X9_notes rfl rfl rfl (hr1) rfl ?_
  refine Ev.sn e_X9_takes_ 6 (i' := 30) (ls' := [_, _, _]) (st' := [_, _, _]) rfl ?_
  refine Ev.iastE e_X9_takes_ rfl rfl rfl (z_add _) (by omega) (w1 := wR (va_up g1 7 (upd (g1 7) t 0)) tr) rfl ?_
  refine Ev.sn e_X9_takes_ 1 (i' := 32) (ls' := [_, _, _]) (st' := [_]) rfl ?_
  refine Ev.iret e_X9_takes_ rfl rfl rfl ?_ rfl
  exact h7
set_option maxRecDepth 20000 in
set_option maxHeartbeats 200000 in
theorem c_X9_undo_f (d : Nat) (g : Nat → Nat → Int32) (tr : Int64) (h : g 0 6 = 0) : Ev d 154 0 [.ref 0, .null] [] (wR g tr) (some (.int (-2))) (wR g tr) := by
  refine Ev.sn e_X9_undo 2 (i' := 2) (ls' := [_, _]) (st' := [_, _]) rfl ?_
  refine Ev.put e_X9_undo rfl rfl rfl rfl rfl rfl (w1 := wR g tr) rfl ?_
  refine Ev.sn e_X9_undo 2 (i' := 5) (ls' := [_, _]) (st' := [_]) rfl ?_
  refine Ev.brT (i1 := 6) (i2 := 8) e_X9_undo rfl rfl (h) ?_
  refine Ev.sn e_X9_undo 1 (i' := 7) (ls' := [_, _]) (st' := [_]) rfl ?_
  refine Ev.iret e_X9_undo rfl rfl rfl ?_ rfl
  rfl
def unF (u : Nat → Int32) (b k p : Nat) (f : Nat → Int32) : Nat → Int32 := fo (fun t f => upd f t (u (b + t))) k p f
theorem unF_at {u : Nat → Int32} {b : Nat} (k : Nat) : ∀ (p : Nat) (f : Nat → Int32) (i : Nat), unF u b k p f i = if p ≤ i ∧ i < p + k then u (b + i) else f i := by
  induction k with
  | zero => intro p f i; rw [if_neg (by omega)]; rfl
  | succ k ih =>
    intro p f i
    show unF u b k (p + 1) (upd f p (u (b + p))) i = _
    rw [ih]
    by_cases h : i = p
    · subst h; rw [if_neg (by omega), if_pos (by omega), pk_us]
    · by_cases h2 : p + 1 ≤ i ∧ i < p + 1 + k
      · rw [if_pos h2, if_pos (by omega)]
      · rw [if_neg h2, if_neg (by omega), pk_un h]
set_option maxRecDepth 20000 in
set_option maxHeartbeats 200000 in
theorem lp_X9_undo (d : Nat) (g : Nat → Nat → Int32) (tr : Int64) {k : Nat} (hk10 : k < 10) : ∀ (j p : Nat) (f : Nat → Int32), p + j = 17 → Ev d 154 16 [.ref 0, .int (nI p)] [] (wR (va_up (va_up g 0 (upd (g 0) 6 (nI k))) 7 f) tr) (some (.int (nI k))) (wR (va_up (va_up g 0 (upd (g 0) 6 (nI k))) 7 (unF (g 10) (17 * k) j p f)) tr) := by
  intro j
  induction j with
  | zero =>
    intro p f hp
    refine Ev.sn e_X9_undo 2 (i' := 18) (ls' := [_, _]) (st' := [_, _]) rfl ?_
    refine Ev.brT (i1 := 34) (i2 := 19) e_X9_undo rfl rfl (ge_t (n := 17) rfl (by omega) (by omega)) ?_
    refine Ev.sn e_X9_undo 2 (i' := 36) (ls' := [_, _]) (st' := [_]) rfl ?_
    refine Ev.iret e_X9_undo rfl rfl rfl ?_ rfl
    rfl
  | succ j ih =>
    intro p f hp
    refine Ev.sn e_X9_undo 2 (i' := 18) (ls' := [_, _]) (st' := [_, _]) rfl ?_
    refine Ev.brF (i1 := 34) (i2 := 19) e_X9_undo rfl rfl (ge_f (n := 17) rfl (by omega) (by omega)) ?_
    refine Ev.sn e_X9_undo 11 (i' := 30) (ls' := [_, _]) (st' := [_, _, _, _]) rfl ?_
    refine Ev.ialdE e_X9_undo rfl rfl rfl rfl ((congrArg (· + nI p) (pk_mul 17 k)).trans (nI_add _ _)) (by omega) ?_
    refine Ev.iastE e_X9_undo rfl rfl rfl rfl (by omega) (w1 := wR (va_up (va_up g 0 (upd (g 0) 6 (nI k))) 7 (upd f p (g 10 (17 * k + p)))) tr) rfl ?_
    refine Ev.sn e_X9_undo 2 (i' := 16) (ls' := [_, _]) (st' := []) rfl ?_
    rw [nI_1]
    exact ih (p + 1) _ (by omega)
set_option maxRecDepth 20000 in
set_option maxHeartbeats 200000 in
theorem c_X9_undo_s (d : Nat) (g : Nat → Nat → Int32) (tr : Int64) {k : Nat} (hk : g 0 6 = nI (k + 1)) (hk10 : k < 10) : Ev d 154 0 [.ref 0, .null] [] (wR g tr) (some (.int (nI k))) (wR (va_up (va_up g 0 (upd (g 0) 6 (nI k))) 7 (unF (g 10) (17 * k) 17 0 (g 7))) tr) := by
  refine Ev.sn e_X9_undo 2 (i' := 2) (ls' := [_, _]) (st' := [_, _]) rfl ?_
  refine Ev.put e_X9_undo rfl rfl rfl rfl rfl rfl (w1 := wR g tr) rfl ?_
  refine Ev.sn e_X9_undo 2 (i' := 5) (ls' := [_, _]) (st' := [_]) rfl ?_
  refine Ev.brF (i1 := 6) (i2 := 8) e_X9_undo rfl rfl ((by rw [hk]; exact nI_ne0 (by omega) (by omega))) ?_
  refine Ev.sn e_X9_undo 5 (i' := 13) (ls' := [_, _]) (st' := [_, _]) rfl ?_
  refine Ev.put e_X9_undo rfl rfl rfl rfl rfl rfl (w1 := wR (va_up g 0 (upd (g 0) 6 (g 0 6 - 1))) tr) rfl ?_
  refine Ev.sn e_X9_undo 2 (i' := 16) (ls' := [_, _]) (st' := []) rfl ?_
  rw [hk, nI_pred]
  refine Ev.wd (w2 := wR (va_up (va_up g 0 (upd (g 0) 6 (nI k))) 7 (g 7)) tr) rfl ?_
  exact lp_X9_undo d g tr hk10 17 0 (g 7) rfl
set_option maxRecDepth 20000 in
set_option maxHeartbeats 200000 in
theorem c_X9_keep_b (d : Nat) (g : Nat → Nat → Int32) (tr : Int64) (x : Int32) (h : (decide (x = 0) || decide (x = 1)) = false) : Ev (d + 1) 180 0 [.ref 0, .int x, .null] [] (wR g tr) (some (.int (-1))) (wR g tr) := by
  refine Ev.sn e_X9_keep 2 (i' := 2) (ls' := [_, _, _]) (st' := [_, _]) rfl ?_
  refine Ev.put e_X9_keep rfl rfl rfl rfl rfl rfl (w1 := wR g tr) rfl ?_
  refine Ev.sn e_X9_keep 3 (i' := 6) (ls' := [_, _, _]) (st' := [_, _, _]) rfl ?_
  refine Ev.clS e_X9_keep rfl rfl rfl (as := [_, _, _]) rfl rfl rfl rfl rfl (c_X9_in _ _ _ _ _) rfl ?_
  refine Ev.brT (i1 := 8) (i2 := 10) e_X9_keep rfl rfl ((by rw [r01]; exact bT h)) ?_
  refine Ev.sn e_X9_keep 1 (i' := 9) (ls' := [_, _, _]) (st' := [_]) rfl ?_
  refine Ev.iret e_X9_keep rfl rfl rfl ?_ rfl
  rfl
set_option maxRecDepth 20000 in
set_option maxHeartbeats 200000 in
theorem lp_X9_keep (d : Nat) (g : Nat → Nat → Int32) (tr : Int64) {n q dn : Nat} (hc : RI n q dn g) {x : Nat} (hx : x < 2) : ∀ (j p : Nat) (f : Nat → Int32), p + j = 17 → Ev (d + 1) 180 12 [.ref 0, .int (nI x), .int (nI p)] [] (wR (va_up g 8 f) tr) (some (.int (bcI (OWN n (vR n q dn g))))) (wR (va_up (va_up g 8 (wrF (g 7) (17 * x) j p f)) 9 (upd (g 9) x 1)) tr) := by
  intro j
  induction j with
  | zero =>
    intro p f hp
    have hb := hc.b
    have hc2 : RI n q dn (va_up (va_up g 8 f) 9 (upd (g 9) x 1)) := hc
    refine Ev.sn e_X9_keep 2 (i' := 14) (ls' := [_, _, _]) (st' := [_, _]) rfl ?_
    refine Ev.brT (i1 := 29) (i2 := 15) e_X9_keep rfl rfl (ge_t (n := 17) rfl (by omega) (by omega)) ?_
    refine Ev.sn e_X9_keep 4 (i' := 33) (ls' := [_, _, _]) (st' := [_, _, _]) rfl ?_
    refine Ev.bastE e_X9_keep rfl rfl rfl rfl hx (Or.inr rfl) (w1 := wR (va_up (va_up g 8 f) 9 (upd (g 9) x 1)) tr) rfl ?_
    refine Ev.sn e_X9_keep 1 (i' := 35) (ls' := [_, _, _]) (st' := [_]) rfl ?_
    refine Ev.clV e_X9_keep rfl rfl (as := []) rfl rfl rfl kl_X9_owned rfl rfl rfl (c_X9_owned _ _ _ hc2) rfl ?_
    refine Ev.clS e_X9_keep rfl rfl rfl (as := [_]) rfl rfl rfl rfl rfl (c_X9_ones _ _ _) rfl ?_
    refine Ev.iret e_X9_keep rfl rfl rfl ?_ rfl
    exact ONE_of (OWN_m (by omega) _)
  | succ j ih =>
    intro p f hp
    refine Ev.sn e_X9_keep 2 (i' := 14) (ls' := [_, _, _]) (st' := [_, _]) rfl ?_
    refine Ev.brF (i1 := 29) (i2 := 15) e_X9_keep rfl rfl (ge_f (n := 17) rfl (by omega) (by omega)) ?_
    refine Ev.sn e_X9_keep 10 (i' := 25) (ls' := [_, _, _]) (st' := [_, _, _, _]) rfl ?_
    refine Ev.ialdE e_X9_keep rfl rfl rfl rfl rfl (by omega) ?_
    refine Ev.iastE e_X9_keep rfl rfl rfl ((congrArg (· + nI p) (pk_mul 17 x)).trans (nI_add _ _)) (by omega) (w1 := wR (va_up g 8 (upd f (17 * x + p) (g 7 p))) tr) rfl ?_
    refine Ev.sn e_X9_keep 2 (i' := 12) (ls' := [_, _, _]) (st' := []) rfl ?_
    rw [nI_1]
    exact ih (p + 1) _ (by omega)
set_option maxRecDepth 20000 in
set_option maxHeartbeats 200000 in
theorem c_X9_keep_0 (d : Nat) (g : Nat → Nat → Int32) (tr : Int64) {n q dn : Nat} (hc : RI n q dn g) : Ev (d + 1) 180 0 [.ref 0, .int 0, .null] [] (wR g tr) (some (.int (bcI (OWN n (vR n q dn g))))) (wR (va_up (va_up g 8 (wrF (g 7) (17 * 0) 17 0 (g 8))) 9 (upd (g 9) 0 1)) tr) := by
  have hb := hc.b
  refine Ev.sn e_X9_keep 2 (i' := 2) (ls' := [_, _, _]) (st' := [_, _]) rfl ?_
  refine Ev.put e_X9_keep rfl rfl rfl rfl rfl rfl (w1 := wR g tr) rfl ?_
  refine Ev.sn e_X9_keep 3 (i' := 6) (ls' := [_, _, _]) (st' := [_, _, _]) rfl ?_
  refine Ev.clS e_X9_keep rfl rfl rfl (as := [_, _, _]) rfl rfl rfl rfl rfl (c_X9_in _ _ _ _ _) rfl ?_
  refine Ev.brF (i1 := 8) (i2 := 10) e_X9_keep rfl rfl ((by decide)) ?_
  refine Ev.sn e_X9_keep 2 (i' := 12) (ls' := [_, _, _]) (st' := []) rfl ?_
  refine Ev.wd (w2 := wR (va_up g 8 (g 8)) tr) rfl ?_
  exact lp_X9_keep d g tr hc (x := 0) (by omega) 17 0 (g 8) rfl
set_option maxRecDepth 20000 in
set_option maxHeartbeats 200000 in
theorem c_X9_keep_1 (d : Nat) (g : Nat → Nat → Int32) (tr : Int64) {n q dn : Nat} (hc : RI n q dn g) : Ev (d + 1) 180 0 [.ref 0, .int 1, .null] [] (wR g tr) (some (.int (bcI (OWN n (vR n q dn g))))) (wR (va_up (va_up g 8 (wrF (g 7) (17 * 1) 17 0 (g 8))) 9 (upd (g 9) 1 1)) tr) := by
  have hb := hc.b
  refine Ev.sn e_X9_keep 2 (i' := 2) (ls' := [_, _, _]) (st' := [_, _]) rfl ?_
  refine Ev.put e_X9_keep rfl rfl rfl rfl rfl rfl (w1 := wR g tr) rfl ?_
  refine Ev.sn e_X9_keep 3 (i' := 6) (ls' := [_, _, _]) (st' := [_, _, _]) rfl ?_
  refine Ev.clS e_X9_keep rfl rfl rfl (as := [_, _, _]) rfl rfl rfl rfl rfl (c_X9_in _ _ _ _ _) rfl ?_
  refine Ev.brF (i1 := 8) (i2 := 10) e_X9_keep rfl rfl ((by decide)) ?_
  refine Ev.sn e_X9_keep 2 (i' := 12) (ls' := [_, _, _]) (st' := []) rfl ?_
  refine Ev.wd (w2 := wR (va_up g 8 (g 8)) tr) rfl ?_
  exact lp_X9_keep d g tr hc (x := 1) (by omega) 17 0 (g 8) rfl
set_option maxRecDepth 20000 in
set_option maxHeartbeats 200000 in
theorem c_X9_back_b (d : Nat) (g : Nat → Nat → Int32) (tr : Int64) (x : Int32) (h : (decide (x = 0) || decide (x = 1)) = false) : Ev (d + 1) 181 0 [.ref 0, .int x, .null] [] (wR g tr) (some (.int (-1))) (wR g tr) := by
  refine Ev.sn e_X9_back 2 (i' := 2) (ls' := [_, _, _]) (st' := [_, _]) rfl ?_
  refine Ev.put e_X9_back rfl rfl rfl rfl rfl rfl (w1 := wR g tr) rfl ?_
  refine Ev.sn e_X9_back 3 (i' := 6) (ls' := [_, _, _]) (st' := [_, _, _]) rfl ?_
  refine Ev.clS e_X9_back rfl rfl rfl (as := [_, _, _]) rfl rfl rfl rfl rfl (c_X9_in _ _ _ _ _) rfl ?_
  refine Ev.brT (i1 := 8) (i2 := 10) e_X9_back rfl rfl ((by rw [r01]; exact bT h)) ?_
  refine Ev.sn e_X9_back 1 (i' := 9) (ls' := [_, _, _]) (st' := [_]) rfl ?_
  refine Ev.iret e_X9_back rfl rfl rfl ?_ rfl
  rfl
set_option maxRecDepth 20000 in
set_option maxHeartbeats 200000 in
theorem lp_X9_back (d : Nat) (g : Nat → Nat → Int32) (tr : Int64) {n q dn : Nat} {x : Nat} (hx : x < 2) : ∀ (j p : Nat) (f : Nat → Int32), p + j = 17 → RI n q dn (va_up (va_up g 7 (unF (g 8) (17 * x) j p f)) 0 (upd (g 0) 6 0)) → Ev (d + 1) 181 19 [.ref 0, .int (nI x), .int (nI p)] [] (wR (va_up g 7 f) tr) (some (.int (bcI (OWN n (vR n q dn (va_up (va_up g 7 (unF (g 8) (17 * x) j p f)) 0 (upd (g 0) 6 0))))))) (wR (va_up (va_up g 7 (unF (g 8) (17 * x) j p f)) 0 (upd (g 0) 6 0)) tr) := by
  intro j
  induction j with
  | zero =>
    intro p f hp hc2
    have hb := hc2.b
    have hc3 : RI n q dn (va_up (va_up g 7 f) 0 (upd (g 0) 6 0)) := hc2
    refine Ev.sn e_X9_back 2 (i' := 21) (ls' := [_, _, _]) (st' := [_, _]) rfl ?_
    refine Ev.brT (i1 := 36) (i2 := 22) e_X9_back rfl rfl (ge_t (n := 17) rfl (by omega) (by omega)) ?_
    refine Ev.sn e_X9_back 2 (i' := 38) (ls' := [_, _, _]) (st' := [_, _]) rfl ?_
    refine Ev.put e_X9_back rfl rfl rfl rfl rfl rfl (w1 := wR (va_up (va_up g 7 f) 0 (upd (g 0) 6 0)) tr) rfl ?_
    refine Ev.sn e_X9_back 1 (i' := 40) (ls' := [_, _, _]) (st' := [_]) rfl ?_
    refine Ev.clV e_X9_back rfl rfl (as := []) rfl rfl rfl kl_X9_owned rfl rfl rfl (c_X9_owned _ _ _ hc3) rfl ?_
    refine Ev.clS e_X9_back rfl rfl rfl (as := [_]) rfl rfl rfl rfl rfl (c_X9_ones _ _ _) rfl ?_
    refine Ev.iret e_X9_back rfl rfl rfl ?_ rfl
    exact ONE_of (OWN_m (by omega) _)
  | succ j ih =>
    intro p f hp hc2
    refine Ev.sn e_X9_back 2 (i' := 21) (ls' := [_, _, _]) (st' := [_, _]) rfl ?_
    refine Ev.brF (i1 := 36) (i2 := 22) e_X9_back rfl rfl (ge_f (n := 17) rfl (by omega) (by omega)) ?_
    refine Ev.sn e_X9_back 10 (i' := 32) (ls' := [_, _, _]) (st' := [_, _, _, _]) rfl ?_
    refine Ev.ialdE e_X9_back rfl rfl rfl rfl ((congrArg (· + nI p) (pk_mul 17 x)).trans (nI_add _ _)) (by omega) ?_
    refine Ev.iastE e_X9_back rfl rfl rfl rfl (by omega) (w1 := wR (va_up g 7 (upd f p (g 8 (17 * x + p)))) tr) rfl ?_
    refine Ev.sn e_X9_back 2 (i' := 19) (ls' := [_, _, _]) (st' := []) rfl ?_
    rw [nI_1]
    exact ih (p + 1) _ (by omega) hc2
set_option maxRecDepth 20000 in
set_option maxHeartbeats 200000 in
theorem c_X9_back_f0 (d : Nat) (g : Nat → Nat → Int32) (tr : Int64) (h : g 9 0 = 0) : Ev (d + 1) 181 0 [.ref 0, .int 0, .null] [] (wR g tr) (some (.int (-2))) (wR g tr) := by
  refine Ev.sn e_X9_back 2 (i' := 2) (ls' := [_, _, _]) (st' := [_, _]) rfl ?_
  refine Ev.put e_X9_back rfl rfl rfl rfl rfl rfl (w1 := wR g tr) rfl ?_
  refine Ev.sn e_X9_back 3 (i' := 6) (ls' := [_, _, _]) (st' := [_, _, _]) rfl ?_
  refine Ev.clS e_X9_back rfl rfl rfl (as := [_, _, _]) rfl rfl rfl rfl rfl (c_X9_in _ _ _ _ _) rfl ?_
  refine Ev.brF (i1 := 8) (i2 := 10) e_X9_back rfl rfl ((by decide)) ?_
  refine Ev.sn e_X9_back 3 (i' := 13) (ls' := [_, _, _]) (st' := [_, _]) rfl ?_
  refine Ev.baldE e_X9_back rfl rfl rfl (m := 0) rfl (by decide) ?_
  refine Ev.brT (i1 := 15) (i2 := 17) e_X9_back rfl rfl (h) ?_
  refine Ev.sn e_X9_back 1 (i' := 16) (ls' := [_, _, _]) (st' := [_]) rfl ?_
  refine Ev.iret e_X9_back rfl rfl rfl ?_ rfl
  rfl
set_option maxRecDepth 20000 in
set_option maxHeartbeats 200000 in
theorem c_X9_back_s0 (d : Nat) (g : Nat → Nat → Int32) (tr : Int64) {n q dn : Nat} (hc2 : RI n q dn (va_up (va_up g 7 (unF (g 8) (17 * 0) 17 0 (g 7))) 0 (upd (g 0) 6 0))) (h : ¬ g 9 0 = 0) : Ev (d + 1) 181 0 [.ref 0, .int 0, .null] [] (wR g tr) (some (.int (bcI (OWN n (vR n q dn (va_up (va_up g 7 (unF (g 8) (17 * 0) 17 0 (g 7))) 0 (upd (g 0) 6 0))))))) (wR (va_up (va_up g 7 (unF (g 8) (17 * 0) 17 0 (g 7))) 0 (upd (g 0) 6 0)) tr) := by
  refine Ev.sn e_X9_back 2 (i' := 2) (ls' := [_, _, _]) (st' := [_, _]) rfl ?_
  refine Ev.put e_X9_back rfl rfl rfl rfl rfl rfl (w1 := wR g tr) rfl ?_
  refine Ev.sn e_X9_back 3 (i' := 6) (ls' := [_, _, _]) (st' := [_, _, _]) rfl ?_
  refine Ev.clS e_X9_back rfl rfl rfl (as := [_, _, _]) rfl rfl rfl rfl rfl (c_X9_in _ _ _ _ _) rfl ?_
  refine Ev.brF (i1 := 8) (i2 := 10) e_X9_back rfl rfl ((by decide)) ?_
  refine Ev.sn e_X9_back 3 (i' := 13) (ls' := [_, _, _]) (st' := [_, _]) rfl ?_
  refine Ev.baldE e_X9_back rfl rfl rfl (m := 0) rfl (by decide) ?_
  refine Ev.brF (i1 := 15) (i2 := 17) e_X9_back rfl rfl (h) ?_
  refine Ev.sn e_X9_back 2 (i' := 19) (ls' := [_, _, _]) (st' := []) rfl ?_
  refine Ev.wd (w2 := wR (va_up g 7 (g 7)) tr) rfl ?_
  exact lp_X9_back d g tr (x := 0) (by omega) 17 0 (g 7) rfl hc2
set_option maxRecDepth 20000 in
set_option maxHeartbeats 200000 in
theorem c_X9_back_f1 (d : Nat) (g : Nat → Nat → Int32) (tr : Int64) (h : g 9 1 = 0) : Ev (d + 1) 181 0 [.ref 0, .int 1, .null] [] (wR g tr) (some (.int (-2))) (wR g tr) := by
  refine Ev.sn e_X9_back 2 (i' := 2) (ls' := [_, _, _]) (st' := [_, _]) rfl ?_
  refine Ev.put e_X9_back rfl rfl rfl rfl rfl rfl (w1 := wR g tr) rfl ?_
  refine Ev.sn e_X9_back 3 (i' := 6) (ls' := [_, _, _]) (st' := [_, _, _]) rfl ?_
  refine Ev.clS e_X9_back rfl rfl rfl (as := [_, _, _]) rfl rfl rfl rfl rfl (c_X9_in _ _ _ _ _) rfl ?_
  refine Ev.brF (i1 := 8) (i2 := 10) e_X9_back rfl rfl ((by decide)) ?_
  refine Ev.sn e_X9_back 3 (i' := 13) (ls' := [_, _, _]) (st' := [_, _]) rfl ?_
  refine Ev.baldE e_X9_back rfl rfl rfl (m := 1) rfl (by decide) ?_
  refine Ev.brT (i1 := 15) (i2 := 17) e_X9_back rfl rfl (h) ?_
  refine Ev.sn e_X9_back 1 (i' := 16) (ls' := [_, _, _]) (st' := [_]) rfl ?_
  refine Ev.iret e_X9_back rfl rfl rfl ?_ rfl
  rfl
set_option maxRecDepth 20000 in
set_option maxHeartbeats 200000 in
theorem c_X9_back_s1 (d : Nat) (g : Nat → Nat → Int32) (tr : Int64) {n q dn : Nat} (hc2 : RI n q dn (va_up (va_up g 7 (unF (g 8) (17 * 1) 17 0 (g 7))) 0 (upd (g 0) 6 0))) (h : ¬ g 9 1 = 0) : Ev (d + 1) 181 0 [.ref 0, .int 1, .null] [] (wR g tr) (some (.int (bcI (OWN n (vR n q dn (va_up (va_up g 7 (unF (g 8) (17 * 1) 17 0 (g 7))) 0 (upd (g 0) 6 0))))))) (wR (va_up (va_up g 7 (unF (g 8) (17 * 1) 17 0 (g 7))) 0 (upd (g 0) 6 0)) tr) := by
  refine Ev.sn e_X9_back 2 (i' := 2) (ls' := [_, _, _]) (st' := [_, _]) rfl ?_
  refine Ev.put e_X9_back rfl rfl rfl rfl rfl rfl (w1 := wR g tr) rfl ?_
  refine Ev.sn e_X9_back 3 (i' := 6) (ls' := [_, _, _]) (st' := [_, _, _]) rfl ?_
  refine Ev.clS e_X9_back rfl rfl rfl (as := [_, _, _]) rfl rfl rfl rfl rfl (c_X9_in _ _ _ _ _) rfl ?_
  refine Ev.brF (i1 := 8) (i2 := 10) e_X9_back rfl rfl ((by decide)) ?_
  refine Ev.sn e_X9_back 3 (i' := 13) (ls' := [_, _, _]) (st' := [_, _]) rfl ?_
  refine Ev.baldE e_X9_back rfl rfl rfl (m := 1) rfl (by decide) ?_
  refine Ev.brF (i1 := 15) (i2 := 17) e_X9_back rfl rfl (h) ?_
  refine Ev.sn e_X9_back 2 (i' := 19) (ls' := [_, _, _]) (st' := []) rfl ?_
  refine Ev.wd (w2 := wR (va_up g 7 (g 7)) tr) rfl ?_
  exact lp_X9_back d g tr (x := 1) (by omega) 17 0 (g 7) rfl hc2
set_option maxRecDepth 20000 in
set_option maxHeartbeats 200000 in
theorem c_X9_rescales_b (d : Nat) (g : Nat → Nat → Int32) (tr : Int64) {n q dn : Nat} (hc : RI n q dn g) (a i s : Int32) (h : gRS n q a i s = false) : Ev (d + 3) 153 0 [.ref 0, .int a, .int i, .int s, .null, .null, .null] [] (wR g tr) (some (.int (-1))) (wR g tr) := by
  have hb := hc.b
  refine Ev.sn e_X9_rescales 2 (i' := 2) (ls' := [_, _, _, _, _, _, _]) (st' := [_, _]) rfl ?_
  refine Ev.put e_X9_rescales rfl rfl rfl rfl rfl rfl (w1 := wR g tr) rfl ?_
  refine Ev.sn e_X9_rescales 3 (i' := 6) (ls' := [_, _, _, _, _, _, _]) (st' := [_, _, _]) rfl ?_
  refine Ev.clS e_X9_rescales rfl rfl rfl (as := [_, _, _]) rfl rfl rfl rfl rfl (c_X9_in _ _ _ _ _) rfl ?_
  refine Ev.brB (i1 := 25) (i2 := 8) e_X9_rescales rfl rfl (fun h0 => ?_) (fun h0 => ?_)
  · refine Ev.sn e_X9_rescales 1 (i' := 26) (ls' := [_, _, _, _, _, _, _]) (st' := [_]) rfl ?_
    refine Ev.iret e_X9_rescales rfl rfl rfl ?_ rfl
    rfl
  · refine Ev.sn e_X9_rescales 2 (i' := 10) (ls' := [_, _, _, _, _, _, _]) (st' := [_, _]) rfl ?_
    refine Ev.br (i1 := 11) (i2 := 16) e_X9_rescales rfl rfl (fun h1 => ?_) (fun h1 => ?_)
    · refine Ev.sn e_X9_rescales 2 (i' := 13) (ls' := [_, _, _, _, _, _, _]) (st' := [_, _]) rfl ?_
      refine Ev.clV e_X9_rescales rfl rfl (as := [_]) rfl rfl rfl kl_X9_isThingThere rfl rfl rfl (c_X9_isThingThere _ _ _ hc _) rfl ?_
      refine Ev.brB (i1 := 25) (i2 := 15) e_X9_rescales rfl rfl (fun h2 => ?_) (fun h2 => ?_)
      · refine Ev.sn e_X9_rescales 1 (i' := 26) (ls' := [_, _, _, _, _, _, _]) (st' := [_]) rfl ?_
        refine Ev.iret e_X9_rescales rfl rfl rfl ?_ rfl
        rfl
      · refine Ev.sn e_X9_rescales 4 (i' := 23) (ls' := [_, _, _, _, _, _, _]) (st' := [_, _, _]) rfl ?_
        refine Ev.clS e_X9_rescales rfl rfl rfl (as := [_, _, _]) rfl rfl rfl rfl rfl (c_X9_in _ _ _ _ _) rfl ?_
        refine Ev.brB (i1 := 25) (i2 := 27) e_X9_rescales rfl rfl (fun h3 => ?_) (fun h3 => ?_)
        · refine Ev.sn e_X9_rescales 1 (i' := 26) (ls' := [_, _, _, _, _, _, _]) (st' := [_]) rfl ?_
          refine Ev.iret e_X9_rescales rfl rfl rfl ?_ rfl
          rfl
        · exfalso
          rw [r01] at h0
          simp_all [gRS]
    · refine Ev.sn e_X9_rescales 2 (i' := 18) (ls' := [_, _, _, _, _, _, _]) (st' := [_, _]) rfl ?_
      refine Ev.clV e_X9_rescales rfl rfl (as := [_]) rfl rfl rfl kl_X9_isPerson rfl rfl rfl (c_X9_isPerson _ _ _ hc _) rfl ?_
      refine Ev.brB (i1 := 25) (i2 := 20) e_X9_rescales rfl rfl (fun h4 => ?_) (fun h4 => ?_)
      · refine Ev.sn e_X9_rescales 1 (i' := 26) (ls' := [_, _, _, _, _, _, _]) (st' := [_]) rfl ?_
        refine Ev.iret e_X9_rescales rfl rfl rfl ?_ rfl
        rfl
      · refine Ev.sn e_X9_rescales 3 (i' := 23) (ls' := [_, _, _, _, _, _, _]) (st' := [_, _, _]) rfl ?_
        refine Ev.clS e_X9_rescales rfl rfl rfl (as := [_, _, _]) rfl rfl rfl rfl rfl (c_X9_in _ _ _ _ _) rfl ?_
        refine Ev.brB (i1 := 25) (i2 := 27) e_X9_rescales rfl rfl (fun h5 => ?_) (fun h5 => ?_)
        · refine Ev.sn e_X9_rescales 1 (i' := 26) (ls' := [_, _, _, _, _, _, _]) (st' := [_]) rfl ?_
          refine Ev.iret e_X9_rescales rfl rfl rfl ?_ rfl
          rfl
        · exfalso
          rw [r01] at h0
          simp_all [gRS]
set_option maxRecDepth 20000 in
set_option maxHeartbeats 200000 in
theorem lp_X9_rescales (d : Nat) (g : Nat → Nat → Int32) (tr : Int64) {n q dn : Nat} (hc : RI n q dn g) (x1 x2 x3 x4 : Value) (y : Int32) : ∀ (j p : Nat) (f : Nat → Int32), p + j = n → RI n q dn (va_up g 7 f) → vR n q dn (va_up g 7 f) 1 = (vR n q dn g) 1 → vR n q dn (va_up g 7 f) 4 = (vR n q dn g) 4 → Ev (d + 3) 153 50 [.ref 0, x1, x2, x3, x4, .int y, .int (nI p)] [] (wR (va_up g 7 f) tr) (some (.int (y))) (wR (va_up g 7 (fo (stRR (vR n q dn g)) j p f)) tr) := by
  intro j
  induction j with
  | zero =>
    intro p f hp hc2 e1 e4
    have hb := hc.b
    refine Ev.sn e_X9_rescales 4 (i' := 54) (ls' := [_, _, _, _, _, _, _]) (st' := [_, _, _]) rfl ?_
    refine Ev.ialdE e_X9_rescales rfl rfl rfl rfl (m := 0) rfl (by decide) ?_
    refine Ev.brT (i1 := 84) (i2 := 56) e_X9_rescales rfl rfl (ge_t hc.hn (by omega) (by omega)) ?_
    refine Ev.sn e_X9_rescales 1 (i' := 85) (ls' := [_, _, _, _, _, _, _]) (st' := [_]) rfl ?_
    refine Ev.iret e_X9_rescales rfl rfl rfl ?_ rfl
    rfl
  | succ j ih =>
    intro p f hp hc2 e1 e4
    rw [fo_s (k := j)]
    have hb := hc.b
    have hpn : p < n := by omega
    have hfp : ∀ x, fpB (vR n q dn (va_up g 7 f)) p x = fpB (vR n q dn g) p x := fun x => by
      unfold fpB fitB ux
      rw [e1, e4]
      rfl
    refine Ev.sn e_X9_rescales 4 (i' := 54) (ls' := [_, _, _, _, _, _, _]) (st' := [_, _, _]) rfl ?_
    refine Ev.ialdE e_X9_rescales rfl rfl rfl rfl (m := 0) rfl (by decide) ?_
    refine Ev.brF (i1 := 84) (i2 := 56) e_X9_rescales rfl rfl (ge_f hc.hn (by omega) (by omega)) ?_
    refine Ev.sn e_X9_rescales 5 (i' := 61) (ls' := [_, _, _, _, _, _, _]) (st' := [_, _]) rfl ?_
    refine Ev.ialdE e_X9_rescales rfl rfl rfl rfl (z_add _) (by omega) ?_
    refine Ev.br (i1 := 82) (i2 := 63) e_X9_rescales rfl rfl (fun h0 => ?_) (fun h0 => ?_)
    · refine Ev.sn e_X9_rescales 2 (i' := 50) (ls' := [_, _, _, _, _, _, _]) (st' := []) rfl ?_
      rw [nI_1, show stRR (vR n q dn g) p f = f from if_pos h0]
      exact ih (p + 1) f (by omega) hc2 e1 e4
    · obtain ⟨x, hx, ex⟩ := (hc2.o p hpn).resolve_left (fun e => h0 (by rw [show (va_up g 7 f) 7 p = 0 from e]; decide))
      have ex : f p = nI (x + 1) := ex
      have exc : (f p - 1).toNatClampNeg = x := by rw [ex, nI_pred]; exact nI_clamp (by omega)
      refine Ev.sn e_X9_rescales 7 (i' := 70) (ls' := [_, _, _, _, _, _, _]) (st' := [_, _, _, _]) rfl ?_
      refine Ev.ialdE e_X9_rescales rfl rfl rfl rfl (z_add _) (by omega) ?_
      refine Ev.sn e_X9_rescales 2 (i' := 73) (ls' := [_, _, _, _, _, _, _]) (st' := [_, _, _]) rfl ?_
      refine Ev.clV e_X9_rescales rfl rfl (as := [_, _]) rfl rfl rfl kl_X9_isFit rfl rfl rfl (by rw [show (va_up g 7 f) 7 p - 1 = nI x by show f p - 1 = nI x; rw [ex, nI_pred]]; exact c_X9_isFit _ _ _ hc2 hpn hx) rfl ?_
      refine Ev.brB (i1 := 75) (i2 := 82) e_X9_rescales rfl rfl (fun h1 => ?_) (fun h1 => ?_)
      · refine Ev.sn e_X9_rescales 6 (i' := 81) (ls' := [_, _, _, _, _, _, _]) (st' := [_, _, _]) rfl ?_
        refine Ev.iastE e_X9_rescales rfl rfl rfl (z_add _) (by omega) (w1 := wR (va_up g 7 (upd f p 0)) tr) rfl ?_
        refine Ev.sn e_X9_rescales 2 (i' := 50) (ls' := [_, _, _, _, _, _, _]) (st' := []) rfl ?_
        rw [nI_1, show stRR (vR n q dn g) p f = upd f p 0 by unfold stRR; rw [if_neg (show ¬ f p ≤ 0 from h0), exc, if_neg (by rw [← hfp, h1]; decide)]]
        refine ih (p + 1) _ (by omega) (hc2.o7 hpn (Or.inl rfl)) ?_ ?_
        · rw [← e1, vR_7, vR_7]
          funext t
          show cut n (fun t => upd f p 0 (6 + t)) t = cut n (fun t => f (6 + t)) t
          by_cases ht : t < n
          · rw [cut_lt ht, cut_lt ht, pk_un (by omega)]
          · simp [cut, ht]
        · rw [← e4, vR_7, vR_7]
          funext t
          show cut q (fun t => upd f p 0 (12 + t)) t = cut q (fun t => f (12 + t)) t
          by_cases ht : t < q
          · rw [cut_lt ht, cut_lt ht, pk_un (by omega)]
          · simp [cut, ht]
      · refine Ev.sn e_X9_rescales 2 (i' := 50) (ls' := [_, _, _, _, _, _, _]) (st' := []) rfl ?_
        rw [nI_1, show stRR (vR n q dn g) p f = f by unfold stRR; rw [if_neg (show ¬ f p ≤ 0 from h0), exc, if_pos (by rw [← hfp]; exact h1)]]
        exact ih (p + 1) f (by omega) hc2 e1 e4
set_option maxRecDepth 20000 in
set_option maxHeartbeats 200000 in
theorem c_X9_rescales_t (d : Nat) (g : Nat → Nat → Int32) (tr : Int64) {n q dn : Nat} (hc : RI n q dn g) {k : Nat} (hk : g 0 6 = nI k) (hk10 : k ≤ 10) {i s : Nat} (hi : i < n) (hs : 1 ≤ s ∧ s ≤ 48) : ∃ g1, NOT g g1 k ∧ Ev (d + 3) 153 0 [.ref 0, .int 1, .int (nI i), .int (nI s), .null, .null, .null] [] (wR g tr) (some (.int (g 7 (6 + i)))) (wR (va_up g1 7 (FRR n (vR n q dn (va_up g1 7 (upd (g1 7) (6 + i) (nI s)))) (upd (g1 7) (6 + i) (nI s)))) tr) := by
  have hb := hc.b
  obtain ⟨g1, hr1, hr2⟩ := c_X9_notes (d + 2) g tr hk hk10
  have hlow := hr2.low
  have hc1 := hc.keep hlow
  have hc2 : RI n q dn (va_up g1 7 (upd (g1 7) (6 + i) (nI s))) := hc1.t7 hi ⟨s, hs.1, hs.2, rfl⟩
  refine ⟨g1, hr2, ?_⟩
  rw [show g 7 (6 + i) = g1 7 (6 + i) from (congrFun (hlow 7 (by omega) (by omega)) _).symm]
  refine Ev.sn e_X9_rescales 2 (i' := 2) (ls' := [_, _, _, _, _, _, _]) (st' := [_, _]) rfl ?_
  refine Ev.put e_X9_rescales rfl rfl rfl rfl rfl rfl (w1 := wR g tr) rfl ?_
  refine Ev.sn e_X9_rescales 3 (i' := 6) (ls' := [_, _, _, _, _, _, _]) (st' := [_, _, _]) rfl ?_
  refine Ev.clS e_X9_rescales rfl rfl rfl (as := [_, _, _]) rfl rfl rfl rfl rfl (c_X9_in _ _ _ _ _) rfl ?_
  refine Ev.brF (i1 := 25) (i2 := 8) e_X9_rescales rfl rfl ((by decide)) ?_
  refine Ev.sn e_X9_rescales 2 (i' := 10) (ls' := [_, _, _, _, _, _, _]) (st' := [_, _]) rfl ?_
  refine Ev.brT (i1 := 11) (i2 := 16) e_X9_rescales rfl rfl ((by decide)) ?_
  refine Ev.sn e_X9_rescales 2 (i' := 13) (ls' := [_, _, _, _, _, _, _]) (st' := [_, _]) rfl ?_
  refine Ev.clV e_X9_rescales rfl rfl (as := [_]) rfl rfl rfl kl_X9_isThingThere rfl rfl rfl (c_X9_isThingThere _ _ _ hc _) rfl ?_
  refine Ev.brF (i1 := 25) (i2 := 15) e_X9_rescales rfl rfl (bF (g_ok hi (by omega))) ?_
  refine Ev.sn e_X9_rescales 4 (i' := 23) (ls' := [_, _, _, _, _, _, _]) (st' := [_, _, _]) rfl ?_
  refine Ev.clS e_X9_rescales rfl rfl rfl (as := [_, _, _]) rfl rfl rfl rfl rfl (c_X9_in _ _ _ _ _) rfl ?_
  refine Ev.brF (i1 := 25) (i2 := 27) e_X9_rescales rfl rfl (bF (by have a1 : (1 : Int32) ≤ nI s := nI_le (a := 1) hs.1 (by omega); have a2 : nI s ≤ 48 := nI_le (b := 48) hs.2 (by omega); simp [a1, a2])) ?_
  refine Ev.sn e_X9_rescales 1 (i' := 28) (ls' := [_, _, _, _, _, _, _]) (st' := [_]) rfl ?_
  refine Ev.clV e_X9_rescales rfl rfl (as := []) rfl rfl rfl kl_X9_notes rfl rfl rfl (hr1) rfl ?_
  refine Ev.sn e_X9_rescales 2 (i' := 31) (ls' := [_, _, _, _, _, _, _]) (st' := [_, _]) rfl ?_
  refine Ev.brT (i1 := 32) (i2 := 34) e_X9_rescales rfl rfl ((by decide)) ?_
  refine Ev.sn e_X9_rescales 8 (i' := 41) (ls' := [_, _, _, _, _, _, _]) (st' := [_, _]) rfl ?_
  refine Ev.ialdE e_X9_rescales rfl rfl rfl rfl (nI_add 6 i) (by omega) ?_
  refine Ev.sn e_X9_rescales 5 (i' := 47) (ls' := [_, _, _, _, _, _, _]) (st' := [_, _, _]) rfl ?_
  refine Ev.iastE e_X9_rescales rfl rfl rfl (nI_add 6 i) (by omega) (w1 := wR (va_up g1 7 (upd (g1 7) (6 + i) (nI s))) tr) rfl ?_
  refine Ev.sn e_X9_rescales 2 (i' := 50) (ls' := [_, _, _, _, _, _, _]) (st' := []) rfl ?_
  have key := lp_X9_rescales d (va_up g1 7 (upd (g1 7) (6 + i) (nI s))) tr hc2 (.int 1) (.int (nI i)) (.int (nI s)) (.int (6 + nI i)) (g1 7 (6 + i)) n 0 (upd (g1 7) (6 + i) (nI s)) (by omega) hc2 rfl rfl
  exact key
set_option maxRecDepth 20000 in
set_option maxHeartbeats 200000 in
theorem c_X9_rescales_p (d : Nat) (g : Nat → Nat → Int32) (tr : Int64) {n q dn : Nat} (hc : RI n q dn g) {k : Nat} (hk : g 0 6 = nI k) (hk10 : k ≤ 10) {i s : Nat} (hi : i < q) (hs : 1 ≤ s ∧ s ≤ 48) : ∃ g1, NOT g g1 k ∧ Ev (d + 3) 153 0 [.ref 0, .int 0, .int (nI i), .int (nI s), .null, .null, .null] [] (wR g tr) (some (.int (g 7 (12 + i)))) (wR (va_up g1 7 (FRR n (vR n q dn (va_up g1 7 (upd (g1 7) (12 + i) (nI s)))) (upd (g1 7) (12 + i) (nI s)))) tr) := by
  have hb := hc.b
  obtain ⟨g1, hr1, hr2⟩ := c_X9_notes (d + 2) g tr hk hk10
  have hlow := hr2.low
  have hc1 := hc.keep hlow
  have hc2 : RI n q dn (va_up g1 7 (upd (g1 7) (12 + i) (nI s))) := hc1.p7 hi ⟨s, hs.1, hs.2, rfl⟩
  refine ⟨g1, hr2, ?_⟩
  rw [show g 7 (12 + i) = g1 7 (12 + i) from (congrFun (hlow 7 (by omega) (by omega)) _).symm]
  refine Ev.sn e_X9_rescales 2 (i' := 2) (ls' := [_, _, _, _, _, _, _]) (st' := [_, _]) rfl ?_
  refine Ev.put e_X9_rescales rfl rfl rfl rfl rfl rfl (w1 := wR g tr) rfl ?_
  refine Ev.sn e_X9_rescales 3 (i' := 6) (ls' := [_, _, _, _, _, _, _]) (st' := [_, _, _]) rfl ?_
  refine Ev.clS e_X9_rescales rfl rfl rfl (as := [_, _, _]) rfl rfl rfl rfl rfl (c_X9_in _ _ _ _ _) rfl ?_
  refine Ev.brF (i1 := 25) (i2 := 8) e_X9_rescales rfl rfl ((by decide)) ?_
  refine Ev.sn e_X9_rescales 2 (i' := 10) (ls' := [_, _, _, _, _, _, _]) (st' := [_, _]) rfl ?_
  refine Ev.brF (i1 := 11) (i2 := 16) e_X9_rescales rfl rfl ((by decide)) ?_
  refine Ev.sn e_X9_rescales 2 (i' := 18) (ls' := [_, _, _, _, _, _, _]) (st' := [_, _]) rfl ?_
  refine Ev.clV e_X9_rescales rfl rfl (as := [_]) rfl rfl rfl kl_X9_isPerson rfl rfl rfl (c_X9_isPerson _ _ _ hc _) rfl ?_
  refine Ev.brF (i1 := 25) (i2 := 20) e_X9_rescales rfl rfl (bF (g_ok hi (by omega))) ?_
  refine Ev.sn e_X9_rescales 3 (i' := 23) (ls' := [_, _, _, _, _, _, _]) (st' := [_, _, _]) rfl ?_
  refine Ev.clS e_X9_rescales rfl rfl rfl (as := [_, _, _]) rfl rfl rfl rfl rfl (c_X9_in _ _ _ _ _) rfl ?_
  refine Ev.brF (i1 := 25) (i2 := 27) e_X9_rescales rfl rfl (bF (by have a1 : (1 : Int32) ≤ nI s := nI_le (a := 1) hs.1 (by omega); have a2 : nI s ≤ 48 := nI_le (b := 48) hs.2 (by omega); simp [a1, a2])) ?_
  refine Ev.sn e_X9_rescales 1 (i' := 28) (ls' := [_, _, _, _, _, _, _]) (st' := [_]) rfl ?_
  refine Ev.clV e_X9_rescales rfl rfl (as := []) rfl rfl rfl kl_X9_notes rfl rfl rfl (hr1) rfl ?_
  refine Ev.sn e_X9_rescales 2 (i' := 31) (ls' := [_, _, _, _, _, _, _]) (st' := [_, _]) rfl ?_
  refine Ev.brF (i1 := 32) (i2 := 34) e_X9_rescales rfl rfl ((by decide)) ?_
  refine Ev.sn e_X9_rescales 7 (i' := 41) (ls' := [_, _, _, _, _, _, _]) (st' := [_, _]) rfl ?_
  refine Ev.ialdE e_X9_rescales rfl rfl rfl rfl (nI_add 12 i) (by omega) ?_
  refine Ev.sn e_X9_rescales 5 (i' := 47) (ls' := [_, _, _, _, _, _, _]) (st' := [_, _, _]) rfl ?_
  refine Ev.iastE e_X9_rescales rfl rfl rfl (nI_add 12 i) (by omega) (w1 := wR (va_up g1 7 (upd (g1 7) (12 + i) (nI s))) tr) rfl ?_
  refine Ev.sn e_X9_rescales 2 (i' := 50) (ls' := [_, _, _, _, _, _, _]) (st' := []) rfl ?_
  have key := lp_X9_rescales d (va_up g1 7 (upd (g1 7) (12 + i) (nI s))) tr hc2 (.int 0) (.int (nI i)) (.int (nI s)) (.int (12 + nI i)) (g1 7 (12 + i)) n 0 (upd (g1 7) (12 + i) (nI s)) (by omega) hc2 rfl rfl
  exact key
