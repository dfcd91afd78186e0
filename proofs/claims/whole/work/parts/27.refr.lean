/-! the reference: rates, what is done -/
theorem ONE_bc : ∀ m, m < 64 → ONE (nI m) = bcI (nI m) := by decide +kernel
theorem ONE_of {x : Int32} (h : ∃ m, m < 64 ∧ x = nI m) : ONE x = bcI x := by
  obtain ⟨m, h1, rfl⟩ := h
  exact ONE_bc m h1
set_option maxRecDepth 20000 in
set_option maxHeartbeats 200000 in
theorem c_X9_rate_0 (d : Nat) (g : Nat → Nat → Int32) (tr : Int64) {n q dn : Nat} (hc : RI n q dn g) {j : Nat} (hj : j < n) : Ev (d + 4) 179 0 [.ref 0, .int 0, .int (nI j), .null, .null, .null] [] (wR g tr) (some (.int ((vR n q dn g) 2 j))) (wR g (tr + 1)) := by
  have hb := hc.b
  have hv2 : (vR n q dn g) 2 j = g 3 (4 * j + 2) := cut_lt (f := fun t => g 3 (4 * t + 2)) hj
  have hv1 : (vR n q dn g) 1 j = g 7 (6 + j) := cut_lt (f := fun t => g 7 (6 + t)) hj
  have hv3 : (vR n q dn g) 3 j = g 3 (4 * j + 3) := cut_lt (f := fun t => g 3 (4 * t + 3)) hj
  refine Ev.sn e_X9_rate 2 (i' := 2) (ls' := [_, _, _, _, _, _]) (st' := [_, _]) rfl ?_
  refine Ev.put e_X9_rate rfl rfl rfl rfl rfl rfl (w1 := wR g tr) rfl ?_
  refine Ev.sn e_X9_rate 3 (i' := 6) (ls' := [_, _, _, _, _, _]) (st' := [_, _, _]) rfl ?_
  refine Ev.clS e_X9_rate rfl rfl rfl (as := [_, _, _]) rfl rfl rfl rfl rfl (c_X9_in _ _ _ _ _) rfl ?_
  refine Ev.brF (i1 := 12) (i2 := 8) e_X9_rate rfl rfl ((by decide)) ?_
  refine Ev.sn e_X9_rate 2 (i' := 10) (ls' := [_, _, _, _, _, _]) (st' := [_, _]) rfl ?_
  refine Ev.clV e_X9_rate rfl rfl (as := [_]) rfl rfl rfl kl_X9_isThingThere rfl rfl rfl (c_X9_isThingThere _ _ _ hc _) rfl ?_
  refine Ev.brF (i1 := 12) (i2 := 14) e_X9_rate rfl rfl (bF (g_ok hj (by omega))) ?_
  refine Ev.sn e_X9_rate 7 (i' := 21) (ls' := [_, _, _, _, _, _]) (st' := [_, _]) rfl ?_
  refine Ev.ialdE e_X9_rate rfl rfl rfl rfl (ixm 4 2 j) (by omega) ?_
  refine Ev.sn e_X9_rate 7 (i' := 29) (ls' := [_, _, _, _, _, _]) (st' := [_, _, _]) rfl ?_
  refine Ev.ialdE e_X9_rate rfl rfl rfl rfl (nI_add 6 j) (by omega) ?_
  refine Ev.sn e_X9_rate 10 (i' := 40) (ls' := [_, _, _, _, _, _]) (st' := [_, _, _]) rfl ?_
  refine Ev.ialdE e_X9_rate rfl rfl rfl rfl (ixm 4 3 j) (by omega) ?_
  refine Ev.sn e_X9_rate 6 (i' := 47) (ls' := [_, _, _, _, _, _]) (st' := [_, _, _]) rfl ?_
  refine Ev.brT (i1 := 48) (i2 := 50) e_X9_rate rfl rfl ((by decide)) ?_
  refine Ev.sn e_X9_rate 3 (i' := 72) (ls' := [_, _, _, _, _, _]) (st' := [_, _]) rfl ?_
  refine Ev.put e_X9_rate rfl rfl rfl rfl rfl rfl (w1 := wR g (tr + 1)) rfl ?_
  refine Ev.sn e_X9_rate 1 (i' := 74) (ls' := [_, _, _, _, _, _]) (st' := [_]) rfl ?_
  refine Ev.brT (i1 := 75) (i2 := 77) e_X9_rate rfl rfl ((by decide)) ?_
  refine Ev.sn e_X9_rate 2 (i' := 107) (ls' := [_, _, _, _, _, _]) (st' := [_]) rfl ?_
  refine Ev.iret e_X9_rate rfl rfl rfl ?_ rfl
  simp only [hv1, hv2, hv3]
set_option maxRecDepth 20000 in
set_option maxHeartbeats 200000 in
theorem c_X9_rate_1 (d : Nat) (g : Nat → Nat → Int32) (tr : Int64) {n q dn : Nat} (hc : RI n q dn g) {j : Nat} (hj : j < n) : Ev (d + 4) 179 0 [.ref 0, .int 1, .int (nI j), .null, .null, .null] [] (wR g tr) (some (.int ((vR n q dn g) 2 j + (vR n q dn g) 1 j))) (wR g (tr + 11)) := by
  have hb := hc.b
  have hv2 : (vR n q dn g) 2 j = g 3 (4 * j + 2) := cut_lt (f := fun t => g 3 (4 * t + 2)) hj
  have hv1 : (vR n q dn g) 1 j = g 7 (6 + j) := cut_lt (f := fun t => g 7 (6 + t)) hj
  have hv3 : (vR n q dn g) 3 j = g 3 (4 * j + 3) := cut_lt (f := fun t => g 3 (4 * t + 3)) hj
  refine Ev.sn e_X9_rate 2 (i' := 2) (ls' := [_, _, _, _, _, _]) (st' := [_, _]) rfl ?_
  refine Ev.put e_X9_rate rfl rfl rfl rfl rfl rfl (w1 := wR g tr) rfl ?_
  refine Ev.sn e_X9_rate 3 (i' := 6) (ls' := [_, _, _, _, _, _]) (st' := [_, _, _]) rfl ?_
  refine Ev.clS e_X9_rate rfl rfl rfl (as := [_, _, _]) rfl rfl rfl rfl rfl (c_X9_in _ _ _ _ _) rfl ?_
  refine Ev.brF (i1 := 12) (i2 := 8) e_X9_rate rfl rfl ((by decide)) ?_
  refine Ev.sn e_X9_rate 2 (i' := 10) (ls' := [_, _, _, _, _, _]) (st' := [_, _]) rfl ?_
  refine Ev.clV e_X9_rate rfl rfl (as := [_]) rfl rfl rfl kl_X9_isThingThere rfl rfl rfl (c_X9_isThingThere _ _ _ hc _) rfl ?_
  refine Ev.brF (i1 := 12) (i2 := 14) e_X9_rate rfl rfl (bF (g_ok hj (by omega))) ?_
  refine Ev.sn e_X9_rate 7 (i' := 21) (ls' := [_, _, _, _, _, _]) (st' := [_, _]) rfl ?_
  refine Ev.ialdE e_X9_rate rfl rfl rfl rfl (ixm 4 2 j) (by omega) ?_
  refine Ev.sn e_X9_rate 7 (i' := 29) (ls' := [_, _, _, _, _, _]) (st' := [_, _, _]) rfl ?_
  refine Ev.ialdE e_X9_rate rfl rfl rfl rfl (nI_add 6 j) (by omega) ?_
  refine Ev.sn e_X9_rate 10 (i' := 40) (ls' := [_, _, _, _, _, _]) (st' := [_, _, _]) rfl ?_
  refine Ev.ialdE e_X9_rate rfl rfl rfl rfl (ixm 4 3 j) (by omega) ?_
  refine Ev.sn e_X9_rate 6 (i' := 47) (ls' := [_, _, _, _, _, _]) (st' := [_, _, _]) rfl ?_
  refine Ev.brF (i1 := 48) (i2 := 50) e_X9_rate rfl rfl ((by decide)) ?_
  refine Ev.sn e_X9_rate 2 (i' := 52) (ls' := [_, _, _, _, _, _]) (st' := [_, _, _, _]) rfl ?_
  refine Ev.brT (i1 := 53) (i2 := 55) e_X9_rate rfl rfl ((by decide)) ?_
  refine Ev.sn e_X9_rate 3 (i' := 72) (ls' := [_, _, _, _, _, _]) (st' := [_, _]) rfl ?_
  refine Ev.put e_X9_rate rfl rfl rfl rfl rfl rfl (w1 := wR g (tr + 11)) rfl ?_
  refine Ev.sn e_X9_rate 1 (i' := 74) (ls' := [_, _, _, _, _, _]) (st' := [_]) rfl ?_
  refine Ev.brF (i1 := 75) (i2 := 77) e_X9_rate rfl rfl ((by decide)) ?_
  refine Ev.sn e_X9_rate 2 (i' := 79) (ls' := [_, _, _, _, _, _]) (st' := [_, _]) rfl ?_
  refine Ev.brT (i1 := 80) (i2 := 82) e_X9_rate rfl rfl ((by decide)) ?_
  refine Ev.sn e_X9_rate 2 (i' := 107) (ls' := [_, _, _, _, _, _]) (st' := [_]) rfl ?_
  refine Ev.iret e_X9_rate rfl rfl rfl ?_ rfl
  simp only [hv1, hv2, hv3]
set_option maxRecDepth 20000 in
set_option maxHeartbeats 200000 in
theorem c_X9_rate_2 (d : Nat) (g : Nat → Nat → Int32) (tr : Int64) {n q dn : Nat} (hc : RI n q dn g) {j : Nat} (hj : j < n) : Ev (d + 4) 179 0 [.ref 0, .int 2, .int (nI j), .null, .null, .null] [] (wR g tr) (some (.int ((vR n q dn g) 2 j - (vR n q dn g) 3 j))) (wR g (tr + 101)) := by
  have hb := hc.b
  have hv2 : (vR n q dn g) 2 j = g 3 (4 * j + 2) := cut_lt (f := fun t => g 3 (4 * t + 2)) hj
  have hv1 : (vR n q dn g) 1 j = g 7 (6 + j) := cut_lt (f := fun t => g 7 (6 + t)) hj
  have hv3 : (vR n q dn g) 3 j = g 3 (4 * j + 3) := cut_lt (f := fun t => g 3 (4 * t + 3)) hj
  refine Ev.sn e_X9_rate 2 (i' := 2) (ls' := [_, _, _, _, _, _]) (st' := [_, _]) rfl ?_
  refine Ev.put e_X9_rate rfl rfl rfl rfl rfl rfl (w1 := wR g tr) rfl ?_
  refine Ev.sn e_X9_rate 3 (i' := 6) (ls' := [_, _, _, _, _, _]) (st' := [_, _, _]) rfl ?_
  refine Ev.clS e_X9_rate rfl rfl rfl (as := [_, _, _]) rfl rfl rfl rfl rfl (c_X9_in _ _ _ _ _) rfl ?_
  refine Ev.brF (i1 := 12) (i2 := 8) e_X9_rate rfl rfl ((by decide)) ?_
  refine Ev.sn e_X9_rate 2 (i' := 10) (ls' := [_, _, _, _, _, _]) (st' := [_, _]) rfl ?_
  refine Ev.clV e_X9_rate rfl rfl (as := [_]) rfl rfl rfl kl_X9_isThingThere rfl rfl rfl (c_X9_isThingThere _ _ _ hc _) rfl ?_
  refine Ev.brF (i1 := 12) (i2 := 14) e_X9_rate rfl rfl (bF (g_ok hj (by omega))) ?_
  refine Ev.sn e_X9_rate 7 (i' := 21) (ls' := [_, _, _, _, _, _]) (st' := [_, _]) rfl ?_
  refine Ev.ialdE e_X9_rate rfl rfl rfl rfl (ixm 4 2 j) (by omega) ?_
  refine Ev.sn e_X9_rate 7 (i' := 29) (ls' := [_, _, _, _, _, _]) (st' := [_, _, _]) rfl ?_
  refine Ev.ialdE e_X9_rate rfl rfl rfl rfl (nI_add 6 j) (by omega) ?_
  refine Ev.sn e_X9_rate 10 (i' := 40) (ls' := [_, _, _, _, _, _]) (st' := [_, _, _]) rfl ?_
  refine Ev.ialdE e_X9_rate rfl rfl rfl rfl (ixm 4 3 j) (by omega) ?_
  refine Ev.sn e_X9_rate 6 (i' := 47) (ls' := [_, _, _, _, _, _]) (st' := [_, _, _]) rfl ?_
  refine Ev.brF (i1 := 48) (i2 := 50) e_X9_rate rfl rfl ((by decide)) ?_
  refine Ev.sn e_X9_rate 2 (i' := 52) (ls' := [_, _, _, _, _, _]) (st' := [_, _, _, _]) rfl ?_
  refine Ev.brF (i1 := 53) (i2 := 55) e_X9_rate rfl rfl ((by decide)) ?_
  refine Ev.sn e_X9_rate 2 (i' := 57) (ls' := [_, _, _, _, _, _]) (st' := [_, _, _, _]) rfl ?_
  refine Ev.brT (i1 := 58) (i2 := 60) e_X9_rate rfl rfl ((by decide)) ?_
  refine Ev.sn e_X9_rate 3 (i' := 72) (ls' := [_, _, _, _, _, _]) (st' := [_, _]) rfl ?_
  refine Ev.put e_X9_rate rfl rfl rfl rfl rfl rfl (w1 := wR g (tr + 101)) rfl ?_
  refine Ev.sn e_X9_rate 1 (i' := 74) (ls' := [_, _, _, _, _, _]) (st' := [_]) rfl ?_
  refine Ev.brF (i1 := 75) (i2 := 77) e_X9_rate rfl rfl ((by decide)) ?_
  refine Ev.sn e_X9_rate 2 (i' := 79) (ls' := [_, _, _, _, _, _]) (st' := [_, _]) rfl ?_
  refine Ev.brF (i1 := 80) (i2 := 82) e_X9_rate rfl rfl ((by decide)) ?_
  refine Ev.sn e_X9_rate 2 (i' := 84) (ls' := [_, _, _, _, _, _]) (st' := [_, _]) rfl ?_
  refine Ev.brT (i1 := 85) (i2 := 87) e_X9_rate rfl rfl ((by decide)) ?_
  refine Ev.sn e_X9_rate 2 (i' := 107) (ls' := [_, _, _, _, _, _]) (st' := [_]) rfl ?_
  refine Ev.iret e_X9_rate rfl rfl rfl ?_ rfl
  simp only [hv1, hv2, hv3]
set_option maxRecDepth 20000 in
set_option maxHeartbeats 200000 in
theorem c_X9_rate_3 (d : Nat) (g : Nat → Nat → Int32) (tr : Int64) {n q dn : Nat} (hc : RI n q dn g) {j : Nat} (hj : j < n) : Ev (d + 4) 179 0 [.ref 0, .int 3, .int (nI j), .null, .null, .null] [] (wR g tr) (some (.int (2 * ((vR n q dn g) 2 j + (vR n q dn g) 1 j)))) (wR g (tr + 1011)) := by
  have hb := hc.b
  have hv2 : (vR n q dn g) 2 j = g 3 (4 * j + 2) := cut_lt (f := fun t => g 3 (4 * t + 2)) hj
  have hv1 : (vR n q dn g) 1 j = g 7 (6 + j) := cut_lt (f := fun t => g 7 (6 + t)) hj
  have hv3 : (vR n q dn g) 3 j = g 3 (4 * j + 3) := cut_lt (f := fun t => g 3 (4 * t + 3)) hj
  refine Ev.sn e_X9_rate 2 (i' := 2) (ls' := [_, _, _, _, _, _]) (st' := [_, _]) rfl ?_
  refine Ev.put e_X9_rate rfl rfl rfl rfl rfl rfl (w1 := wR g tr) rfl ?_
  refine Ev.sn e_X9_rate 3 (i' := 6) (ls' := [_, _, _, _, _, _]) (st' := [_, _, _]) rfl ?_
  refine Ev.clS e_X9_rate rfl rfl rfl (as := [_, _, _]) rfl rfl rfl rfl rfl (c_X9_in _ _ _ _ _) rfl ?_
  refine Ev.brF (i1 := 12) (i2 := 8) e_X9_rate rfl rfl ((by decide)) ?_
  refine Ev.sn e_X9_rate 2 (i' := 10) (ls' := [_, _, _, _, _, _]) (st' := [_, _]) rfl ?_
  refine Ev.clV e_X9_rate rfl rfl (as := [_]) rfl rfl rfl kl_X9_isThingThere rfl rfl rfl (c_X9_isThingThere _ _ _ hc _) rfl ?_
  refine Ev.brF (i1 := 12) (i2 := 14) e_X9_rate rfl rfl (bF (g_ok hj (by omega))) ?_
  refine Ev.sn e_X9_rate 7 (i' := 21) (ls' := [_, _, _, _, _, _]) (st' := [_, _]) rfl ?_
  refine Ev.ialdE e_X9_rate rfl rfl rfl rfl (ixm 4 2 j) (by omega) ?_
  refine Ev.sn e_X9_rate 7 (i' := 29) (ls' := [_, _, _, _, _, _]) (st' := [_, _, _]) rfl ?_
  refine Ev.ialdE e_X9_rate rfl rfl rfl rfl (nI_add 6 j) (by omega) ?_
  refine Ev.sn e_X9_rate 10 (i' := 40) (ls' := [_, _, _, _, _, _]) (st' := [_, _, _]) rfl ?_
  refine Ev.ialdE e_X9_rate rfl rfl rfl rfl (ixm 4 3 j) (by omega) ?_
  refine Ev.sn e_X9_rate 6 (i' := 47) (ls' := [_, _, _, _, _, _]) (st' := [_, _, _]) rfl ?_
  refine Ev.brF (i1 := 48) (i2 := 50) e_X9_rate rfl rfl ((by decide)) ?_
  refine Ev.sn e_X9_rate 2 (i' := 52) (ls' := [_, _, _, _, _, _]) (st' := [_, _, _, _]) rfl ?_
  refine Ev.brF (i1 := 53) (i2 := 55) e_X9_rate rfl rfl ((by decide)) ?_
  refine Ev.sn e_X9_rate 2 (i' := 57) (ls' := [_, _, _, _, _, _]) (st' := [_, _, _, _]) rfl ?_
  refine Ev.brF (i1 := 58) (i2 := 60) e_X9_rate rfl rfl ((by decide)) ?_
  refine Ev.sn e_X9_rate 2 (i' := 62) (ls' := [_, _, _, _, _, _]) (st' := [_, _, _, _]) rfl ?_
  refine Ev.brT (i1 := 63) (i2 := 65) e_X9_rate rfl rfl ((by decide)) ?_
  refine Ev.sn e_X9_rate 3 (i' := 72) (ls' := [_, _, _, _, _, _]) (st' := [_, _]) rfl ?_
  refine Ev.put e_X9_rate rfl rfl rfl rfl rfl rfl (w1 := wR g (tr + 1011)) rfl ?_
  refine Ev.sn e_X9_rate 1 (i' := 74) (ls' := [_, _, _, _, _, _]) (st' := [_]) rfl ?_
  refine Ev.brF (i1 := 75) (i2 := 77) e_X9_rate rfl rfl ((by decide)) ?_
  refine Ev.sn e_X9_rate 2 (i' := 79) (ls' := [_, _, _, _, _, _]) (st' := [_, _]) rfl ?_
  refine Ev.brF (i1 := 80) (i2 := 82) e_X9_rate rfl rfl ((by decide)) ?_
  refine Ev.sn e_X9_rate 2 (i' := 84) (ls' := [_, _, _, _, _, _]) (st' := [_, _]) rfl ?_
  refine Ev.brF (i1 := 85) (i2 := 87) e_X9_rate rfl rfl ((by decide)) ?_
  refine Ev.sn e_X9_rate 2 (i' := 89) (ls' := [_, _, _, _, _, _]) (st' := [_, _]) rfl ?_
  refine Ev.brT (i1 := 90) (i2 := 94) e_X9_rate rfl rfl ((by decide)) ?_
  refine Ev.sn e_X9_rate 4 (i' := 107) (ls' := [_, _, _, _, _, _]) (st' := [_]) rfl ?_
  refine Ev.iret e_X9_rate rfl rfl rfl ?_ rfl
  simp only [hv1, hv2, hv3]
set_option maxRecDepth 20000 in
set_option maxHeartbeats 200000 in
theorem c_X9_rate_4 (d : Nat) (g : Nat → Nat → Int32) (tr : Int64) {n q dn : Nat} (hc : RI n q dn g) {j : Nat} (hj : j < n) : Ev (d + 4) 179 0 [.ref 0, .int 4, .int (nI j), .null, .null, .null] [] (wR g tr) (some (.int ((vR n q dn g) 2 j - (vR n q dn g) 3 j + nI j))) (wR g (tr + 10101)) := by
  have hb := hc.b
  have hv2 : (vR n q dn g) 2 j = g 3 (4 * j + 2) := cut_lt (f := fun t => g 3 (4 * t + 2)) hj
  have hv1 : (vR n q dn g) 1 j = g 7 (6 + j) := cut_lt (f := fun t => g 7 (6 + t)) hj
  have hv3 : (vR n q dn g) 3 j = g 3 (4 * j + 3) := cut_lt (f := fun t => g 3 (4 * t + 3)) hj
  refine Ev.sn e_X9_rate 2 (i' := 2) (ls' := [_, _, _, _, _, _]) (st' := [_, _]) rfl ?_
  refine Ev.put e_X9_rate rfl rfl rfl rfl rfl rfl (w1 := wR g tr) rfl ?_
  refine Ev.sn e_X9_rate 3 (i' := 6) (ls' := [_, _, _, _, _, _]) (st' := [_, _, _]) rfl ?_
  refine Ev.clS e_X9_rate rfl rfl rfl (as := [_, _, _]) rfl rfl rfl rfl rfl (c_X9_in _ _ _ _ _) rfl ?_
  refine Ev.brF (i1 := 12) (i2 := 8) e_X9_rate rfl rfl ((by decide)) ?_
  refine Ev.sn e_X9_rate 2 (i' := 10) (ls' := [_, _, _, _, _, _]) (st' := [_, _]) rfl ?_
  refine Ev.clV e_X9_rate rfl rfl (as := [_]) rfl rfl rfl kl_X9_isThingThere rfl rfl rfl (c_X9_isThingThere _ _ _ hc _) rfl ?_
  refine Ev.brF (i1 := 12) (i2 := 14) e_X9_rate rfl rfl (bF (g_ok hj (by omega))) ?_
  refine Ev.sn e_X9_rate 7 (i' := 21) (ls' := [_, _, _, _, _, _]) (st' := [_, _]) rfl ?_
  refine Ev.ialdE e_X9_rate rfl rfl rfl rfl (ixm 4 2 j) (by omega) ?_
  refine Ev.sn e_X9_rate 7 (i' := 29) (ls' := [_, _, _, _, _, _]) (st' := [_, _, _]) rfl ?_
  refine Ev.ialdE e_X9_rate rfl rfl rfl rfl (nI_add 6 j) (by omega) ?_
  refine Ev.sn e_X9_rate 10 (i' := 40) (ls' := [_, _, _, _, _, _]) (st' := [_, _, _]) rfl ?_
  refine Ev.ialdE e_X9_rate rfl rfl rfl rfl (ixm 4 3 j) (by omega) ?_
  refine Ev.sn e_X9_rate 6 (i' := 47) (ls' := [_, _, _, _, _, _]) (st' := [_, _, _]) rfl ?_
  refine Ev.brF (i1 := 48) (i2 := 50) e_X9_rate rfl rfl ((by decide)) ?_
  refine Ev.sn e_X9_rate 2 (i' := 52) (ls' := [_, _, _, _, _, _]) (st' := [_, _, _, _]) rfl ?_
  refine Ev.brF (i1 := 53) (i2 := 55) e_X9_rate rfl rfl ((by decide)) ?_
  refine Ev.sn e_X9_rate 2 (i' := 57) (ls' := [_, _, _, _, _, _]) (st' := [_, _, _, _]) rfl ?_
  refine Ev.brF (i1 := 58) (i2 := 60) e_X9_rate rfl rfl ((by decide)) ?_
  refine Ev.sn e_X9_rate 2 (i' := 62) (ls' := [_, _, _, _, _, _]) (st' := [_, _, _, _]) rfl ?_
  refine Ev.brF (i1 := 63) (i2 := 65) e_X9_rate rfl rfl ((by decide)) ?_
  refine Ev.sn e_X9_rate 2 (i' := 67) (ls' := [_, _, _, _, _, _]) (st' := [_, _, _, _]) rfl ?_
  refine Ev.brT (i1 := 68) (i2 := 70) e_X9_rate rfl rfl ((by decide)) ?_
  refine Ev.sn e_X9_rate 3 (i' := 72) (ls' := [_, _, _, _, _, _]) (st' := [_, _]) rfl ?_
  refine Ev.put e_X9_rate rfl rfl rfl rfl rfl rfl (w1 := wR g (tr + 10101)) rfl ?_
  refine Ev.sn e_X9_rate 1 (i' := 74) (ls' := [_, _, _, _, _, _]) (st' := [_]) rfl ?_
  refine Ev.brF (i1 := 75) (i2 := 77) e_X9_rate rfl rfl ((by decide)) ?_
  refine Ev.sn e_X9_rate 2 (i' := 79) (ls' := [_, _, _, _, _, _]) (st' := [_, _]) rfl ?_
  refine Ev.brF (i1 := 80) (i2 := 82) e_X9_rate rfl rfl ((by decide)) ?_
  refine Ev.sn e_X9_rate 2 (i' := 84) (ls' := [_, _, _, _, _, _]) (st' := [_, _]) rfl ?_
  refine Ev.brF (i1 := 85) (i2 := 87) e_X9_rate rfl rfl ((by decide)) ?_
  refine Ev.sn e_X9_rate 2 (i' := 89) (ls' := [_, _, _, _, _, _]) (st' := [_, _]) rfl ?_
  refine Ev.brF (i1 := 90) (i2 := 94) e_X9_rate rfl rfl ((by decide)) ?_
  refine Ev.sn e_X9_rate 2 (i' := 96) (ls' := [_, _, _, _, _, _]) (st' := [_, _]) rfl ?_
  refine Ev.brT (i1 := 97) (i2 := 101) e_X9_rate rfl rfl ((by decide)) ?_
  refine Ev.sn e_X9_rate 4 (i' := 107) (ls' := [_, _, _, _, _, _]) (st' := [_]) rfl ?_
  refine Ev.iret e_X9_rate rfl rfl rfl ?_ rfl
  simp only [hv1, hv2, hv3]
set_option maxRecDepth 20000 in
set_option maxHeartbeats 200000 in
theorem c_X9_rate_5 (d : Nat) (g : Nat → Nat → Int32) (tr : Int64) {n q dn : Nat} (hc : RI n q dn g) {j : Nat} (hj : j < n) : Ev (d + 4) 179 0 [.ref 0, .int 5, .int (nI j), .null, .null, .null] [] (wR g tr) (some (.int ((vR n q dn g) 2 j + bcI (PIF q (vR n q dn g) j)))) (wR g (tr + 100001)) := by
  have hb := hc.b
  have hv2 : (vR n q dn g) 2 j = g 3 (4 * j + 2) := cut_lt (f := fun t => g 3 (4 * t + 2)) hj
  have hv1 : (vR n q dn g) 1 j = g 7 (6 + j) := cut_lt (f := fun t => g 7 (6 + t)) hj
  have hv3 : (vR n q dn g) 3 j = g 3 (4 * j + 3) := cut_lt (f := fun t => g 3 (4 * t + 3)) hj
  refine Ev.sn e_X9_rate 2 (i' := 2) (ls' := [_, _, _, _, _, _]) (st' := [_, _]) rfl ?_
  refine Ev.put e_X9_rate rfl rfl rfl rfl rfl rfl (w1 := wR g tr) rfl ?_
  refine Ev.sn e_X9_rate 3 (i' := 6) (ls' := [_, _, _, _, _, _]) (st' := [_, _, _]) rfl ?_
  refine Ev.clS e_X9_rate rfl rfl rfl (as := [_, _, _]) rfl rfl rfl rfl rfl (c_X9_in _ _ _ _ _) rfl ?_
  refine Ev.brF (i1 := 12) (i2 := 8) e_X9_rate rfl rfl ((by decide)) ?_
  refine Ev.sn e_X9_rate 2 (i' := 10) (ls' := [_, _, _, _, _, _]) (st' := [_, _]) rfl ?_
  refine Ev.clV e_X9_rate rfl rfl (as := [_]) rfl rfl rfl kl_X9_isThingThere rfl rfl rfl (c_X9_isThingThere _ _ _ hc _) rfl ?_
  refine Ev.brF (i1 := 12) (i2 := 14) e_X9_rate rfl rfl (bF (g_ok hj (by omega))) ?_
  refine Ev.sn e_X9_rate 7 (i' := 21) (ls' := [_, _, _, _, _, _]) (st' := [_, _]) rfl ?_
  refine Ev.ialdE e_X9_rate rfl rfl rfl rfl (ixm 4 2 j) (by omega) ?_
  refine Ev.sn e_X9_rate 7 (i' := 29) (ls' := [_, _, _, _, _, _]) (st' := [_, _, _]) rfl ?_
  refine Ev.ialdE e_X9_rate rfl rfl rfl rfl (nI_add 6 j) (by omega) ?_
  refine Ev.sn e_X9_rate 10 (i' := 40) (ls' := [_, _, _, _, _, _]) (st' := [_, _, _]) rfl ?_
  refine Ev.ialdE e_X9_rate rfl rfl rfl rfl (ixm 4 3 j) (by omega) ?_
  refine Ev.sn e_X9_rate 6 (i' := 47) (ls' := [_, _, _, _, _, _]) (st' := [_, _, _]) rfl ?_
  refine Ev.brF (i1 := 48) (i2 := 50) e_X9_rate rfl rfl ((by decide)) ?_
  refine Ev.sn e_X9_rate 2 (i' := 52) (ls' := [_, _, _, _, _, _]) (st' := [_, _, _, _]) rfl ?_
  refine Ev.brF (i1 := 53) (i2 := 55) e_X9_rate rfl rfl ((by decide)) ?_
  refine Ev.sn e_X9_rate 2 (i' := 57) (ls' := [_, _, _, _, _, _]) (st' := [_, _, _, _]) rfl ?_
  refine Ev.brF (i1 := 58) (i2 := 60) e_X9_rate rfl rfl ((by decide)) ?_
  refine Ev.sn e_X9_rate 2 (i' := 62) (ls' := [_, _, _, _, _, _]) (st' := [_, _, _, _]) rfl ?_
  refine Ev.brF (i1 := 63) (i2 := 65) e_X9_rate rfl rfl ((by decide)) ?_
  refine Ev.sn e_X9_rate 2 (i' := 67) (ls' := [_, _, _, _, _, _]) (st' := [_, _, _, _]) rfl ?_
  refine Ev.brF (i1 := 68) (i2 := 70) e_X9_rate rfl rfl ((by decide)) ?_
  refine Ev.sn e_X9_rate 2 (i' := 72) (ls' := [_, _, _, _, _, _]) (st' := [_, _]) rfl ?_
  refine Ev.put e_X9_rate rfl rfl rfl rfl rfl rfl (w1 := wR g (tr + 100001)) rfl ?_
  refine Ev.sn e_X9_rate 1 (i' := 74) (ls' := [_, _, _, _, _, _]) (st' := [_]) rfl ?_
  refine Ev.brF (i1 := 75) (i2 := 77) e_X9_rate rfl rfl ((by decide)) ?_
  refine Ev.sn e_X9_rate 2 (i' := 79) (ls' := [_, _, _, _, _, _]) (st' := [_, _]) rfl ?_
  refine Ev.brF (i1 := 80) (i2 := 82) e_X9_rate rfl rfl ((by decide)) ?_
  refine Ev.sn e_X9_rate 2 (i' := 84) (ls' := [_, _, _, _, _, _]) (st' := [_, _]) rfl ?_
  refine Ev.brF (i1 := 85) (i2 := 87) e_X9_rate rfl rfl ((by decide)) ?_
  refine Ev.sn e_X9_rate 2 (i' := 89) (ls' := [_, _, _, _, _, _]) (st' := [_, _]) rfl ?_
  refine Ev.brF (i1 := 90) (i2 := 94) e_X9_rate rfl rfl ((by decide)) ?_
  refine Ev.sn e_X9_rate 2 (i' := 96) (ls' := [_, _, _, _, _, _]) (st' := [_, _]) rfl ?_
  refine Ev.brF (i1 := 97) (i2 := 101) e_X9_rate rfl rfl ((by decide)) ?_
  refine Ev.sn e_X9_rate 3 (i' := 104) (ls' := [_, _, _, _, _, _]) (st' := [_, _, _]) rfl ?_
  refine Ev.clV e_X9_rate rfl rfl (as := [_]) rfl rfl rfl kl_X9_fitsOf rfl rfl rfl (c_X9_fitsOf _ _ _ hc hj) rfl ?_
  refine Ev.clS e_X9_rate rfl rfl rfl (as := [_]) rfl rfl rfl rfl rfl (c_X9_ones _ _ _) rfl ?_
  refine Ev.sn e_X9_rate 1 (i' := 107) (ls' := [_, _, _, _, _, _]) (st' := [_]) rfl ?_
  refine Ev.iret e_X9_rate rfl rfl rfl ?_ rfl
  rw [hv2, ← ONE_of (PIF_m (by omega) (vR n q dn g) j)]
set_option maxRecDepth 20000 in
set_option maxHeartbeats 200000 in
theorem c_X9_rate (d : Nat) (g : Nat → Nat → Int32) (tr : Int64) {n q dn : Nat} (hc : RI n q dn g) (x t : Int32) : Ev (d + 4) 179 0 [.ref 0, .int x, .int t, .null, .null, .null] [] (wR g tr) (some (.int (S_rate n q (vR n q dn g) x t))) (wR g (S_trc n tr x t)) := by
  have hb := hc.b
  by_cases hg : (decide (0 ≤ t) && decide (t < nI n)) = true
  · obtain ⟨j, hj, rfl⟩ := ixB (n := n) (by omega) hg
    have hcl : (nI j).toNatClampNeg = j := nI_clamp (by omega)
    by_cases x0 : x = 0
    · subst x0
      rw [show S_rate n q (vR n q dn g) 0 (nI j) = (vR n q dn g) 2 j by simp [S_rate, hg, hcl], show S_trc n tr 0 (nI j) = tr + 1 by simp [S_trc, hg]]
      exact c_X9_rate_0 _ _ _ hc hj
    by_cases x1 : x = 1
    · subst x1
      rw [show S_rate n q (vR n q dn g) 1 (nI j) = (vR n q dn g) 2 j + (vR n q dn g) 1 j by simp [S_rate, hg, hcl], show S_trc n tr 1 (nI j) = tr + 11 by simp [S_trc, hg]]
      exact c_X9_rate_1 _ _ _ hc hj
    by_cases x2 : x = 2
    · subst x2
      rw [show S_rate n q (vR n q dn g) 2 (nI j) = (vR n q dn g) 2 j - (vR n q dn g) 3 j by simp [S_rate, hg, hcl], show S_trc n tr 2 (nI j) = tr + 101 by simp [S_trc, hg]]
      exact c_X9_rate_2 _ _ _ hc hj
    by_cases x3 : x = 3
    · subst x3
      rw [show S_rate n q (vR n q dn g) 3 (nI j) = 2 * ((vR n q dn g) 2 j + (vR n q dn g) 1 j) by simp [S_rate, hg, hcl], show S_trc n tr 3 (nI j) = tr + 1011 by simp [S_trc, hg]]
      exact c_X9_rate_3 _ _ _ hc hj
    by_cases x4 : x = 4
    · subst x4
      rw [show S_rate n q (vR n q dn g) 4 (nI j) = (vR n q dn g) 2 j - (vR n q dn g) 3 j + nI j by simp [S_rate, hg, hcl], show S_trc n tr 4 (nI j) = tr + 10101 by simp [S_trc, hg]]
      exact c_X9_rate_4 _ _ _ hc hj
    by_cases x5 : x = 5
    · subst x5
      rw [show S_rate n q (vR n q dn g) 5 (nI j) = (vR n q dn g) 2 j + bcI (PIF q (vR n q dn g) j) by simp [S_rate, hg, hcl], show S_trc n tr 5 (nI j) = tr + 100001 by simp [S_trc, hg]]
      exact c_X9_rate_5 _ _ _ hc hj
    rw [show S_rate n q (vR n q dn g) x (nI j) = -1000000 by simp [S_rate, hg, x0, x1, x2, x3, x4, x5], show S_trc n tr x (nI j) = tr by simp [S_trc, hg, x0, x1, x2, x3, x4, x5]]
    have hx : (decide (0 ≤ x) && decide (x ≤ nI 5)) = false := rngF (by omega) (fun j hj => by
      match j, hj with
      | 0, _ => exact x0
      | 1, _ => exact x1
      | 2, _ => exact x2
      | 3, _ => exact x3
      | 4, _ => exact x4
      | 5, _ => exact x5)
    refine Ev.sn e_X9_rate 2 (i' := 2) (ls' := [_, _, _, _, _, _]) (st' := [_, _]) rfl ?_
    refine Ev.put e_X9_rate rfl rfl rfl rfl rfl rfl (w1 := wR g tr) rfl ?_
    refine Ev.sn e_X9_rate 3 (i' := 6) (ls' := [_, _, _, _, _, _]) (st' := [_, _, _]) rfl ?_
    refine Ev.clS e_X9_rate rfl rfl rfl (as := [_, _, _]) rfl rfl rfl rfl rfl (c_X9_in _ _ _ _ _) rfl ?_
    refine Ev.brT (i1 := 12) (i2 := 8) e_X9_rate rfl rfl (bT hx) ?_
    refine Ev.sn e_X9_rate 1 (i' := 13) (ls' := [_, _, _, _, _, _]) (st' := [_]) rfl ?_
    refine Ev.iret e_X9_rate rfl rfl rfl ?_ rfl
    rfl
  · rw [show S_rate n q (vR n q dn g) x t = -1000000 by simp [S_rate, hg], show S_trc n tr x t = tr by simp [S_trc, hg]]
    have hg2 : (decide (0 ≤ t) && decide (t < nI n)) = false := by simpa using hg
    refine Ev.sn e_X9_rate 2 (i' := 2) (ls' := [_, _, _, _, _, _]) (st' := [_, _]) rfl ?_
    refine Ev.put e_X9_rate rfl rfl rfl rfl rfl rfl (w1 := wR g tr) rfl ?_
    refine Ev.sn e_X9_rate 3 (i' := 6) (ls' := [_, _, _, _, _, _]) (st' := [_, _, _]) rfl ?_
    refine Ev.clS e_X9_rate rfl rfl rfl (as := [_, _, _]) rfl rfl rfl rfl rfl (c_X9_in _ _ _ _ _) rfl ?_
    refine Ev.brB (i1 := 12) (i2 := 8) e_X9_rate rfl rfl (fun h0 => ?_) (fun h0 => ?_)
    · refine Ev.sn e_X9_rate 1 (i' := 13) (ls' := [_, _, _, _, _, _]) (st' := [_]) rfl ?_
      refine Ev.iret e_X9_rate rfl rfl rfl ?_ rfl
      rfl
    · refine Ev.sn e_X9_rate 2 (i' := 10) (ls' := [_, _, _, _, _, _]) (st' := [_, _]) rfl ?_
      refine Ev.clV e_X9_rate rfl rfl (as := [_]) rfl rfl rfl kl_X9_isThingThere rfl rfl rfl (c_X9_isThingThere _ _ _ hc _) rfl ?_
      refine Ev.brT (i1 := 12) (i2 := 14) e_X9_rate rfl rfl (bT hg2) ?_
      refine Ev.sn e_X9_rate 1 (i' := 13) (ls' := [_, _, _, _, _, _]) (st' := [_]) rfl ?_
      refine Ev.iret e_X9_rate rfl rfl rfl ?_ rfl
      rfl
def shF (k p : Nat) (f : Nat → Int32) : Nat → Int32 := fo (fun j f => upd f j (f (j + 17))) k p f
theorem shF_at (k : Nat) : ∀ (p : Nat) (f : Nat → Int32) (i : Nat), shF k p f i = if p ≤ i ∧ i < p + k then f (i + 17) else f i := by
  induction k with
  | zero => intro p f i; rw [if_neg (by omega)]; rfl
  | succ k ih =>
    intro p f i
    show shF k (p + 1) (upd f p (f (p + 17))) i = _
    rw [ih]
    by_cases h : i = p
    · subst h; rw [if_neg (by omega), if_pos (by omega), pk_us]
    · by_cases h2 : p + 1 ≤ i ∧ i < p + 1 + k
      · rw [if_pos h2, if_pos (by omega), pk_un (by omega)]
      · rw [if_neg h2, if_neg (by omega), pk_un h]
def wrF (s : Nat → Int32) (b k p : Nat) (f : Nat → Int32) : Nat → Int32 := fo (fun t f => upd f (b + t) (s t)) k p f
theorem wrF_at {s : Nat → Int32} {b : Nat} (k : Nat) : ∀ (p : Nat) (f : Nat → Int32) (i : Nat), wrF s b k p f i = if b + p ≤ i ∧ i < b + p + k then s (i - b) else f i := by
  induction k with
  | zero => intro p f i; rw [if_neg (by omega)]; rfl
  | succ k ih =>
    intro p f i
    show wrF s b k (p + 1) (upd f (b + p) (s p)) i = _
    rw [ih]
    by_cases h : i = b + p
    · subst h; rw [if_neg (by omega), if_pos (by omega), pk_us, show b + p - b = p by omega]
    · by_cases h2 : b + (p + 1) ≤ i ∧ i < b + (p + 1) + k
      · rw [if_pos h2, if_pos (by omega)]
      · rw [if_neg h2, if_neg (by omega), pk_un h]
/-- what notes does -/
def NOT (g g' : Nat → Nat → Int32) (k : Nat) : Prop := ∃ k', k' < 10 ∧ ((k < 10 ∧ k' = k ∧ ∀ i, i < 17 * k' → g' 10 i = g 10 i) ∨ (k = 10 ∧ k' = 9 ∧ ∀ i, i < 17 * k' → g' 10 i = g 10 (i + 17))) ∧ g' 0 6 = nI (k' + 1) ∧ (∀ t, t < 17 → g' 10 (17 * k' + t) = g 7 t) ∧ (∀ x, x ≠ 0 → x ≠ 10 → g' x = g x) ∧ (∀ i, i ≠ 6 → g' 0 i = g 0 i)
set_option maxRecDepth 20000 in
set_option maxHeartbeats 200000 in
theorem lt_X9_notes (d : Nat) (g : Nat → Nat → Int32) (tr : Int64) {k : Nat} (hk : g 0 6 = nI k) (hk10 : k < 10) : ∀ (j p : Nat) (f : Nat → Int32), p + j = 17 → Ev d 149 26 [.ref 0, .int (nI p)] [] (wR (va_up g 10 f) tr) none (wR (va_up (va_up g 10 (wrF (g 7) (17 * k) j p f)) 0 (upd (g 0) 6 (nI (k + 1)))) tr) := by
  intro j
  induction j with
  | zero =>
    intro p f hp
    refine Ev.sn e_X9_notes 2 (i' := 28) (ls' := [_, _]) (st' := [_, _]) rfl ?_
    refine Ev.brT (i1 := 44) (i2 := 29) e_X9_notes rfl rfl (ge_t (n := 17) rfl (by omega) (by omega)) ?_
    refine Ev.sn e_X9_notes 5 (i' := 49) (ls' := [_, _]) (st' := [_, _]) rfl ?_
    refine Ev.put e_X9_notes rfl rfl rfl rfl rfl rfl (w1 := wR (va_up (va_up g 10 f) 0 (upd (g 0) 6 (g 0 6 + 1))) tr) rfl ?_
    exact Ev.vret e_X9_notes rfl rfl (by rw [hk, nI_1]; rfl)
  | succ j ih =>
    intro p f hp
    refine Ev.sn e_X9_notes 2 (i' := 28) (ls' := [_, _]) (st' := [_, _]) rfl ?_
    refine Ev.brF (i1 := 44) (i2 := 29) e_X9_notes rfl rfl (ge_f (n := 17) rfl (by omega) (by omega)) ?_
    refine Ev.sn e_X9_notes 11 (i' := 40) (ls' := [_, _]) (st' := [_, _, _, _]) rfl ?_
    refine Ev.ialdE e_X9_notes rfl rfl rfl rfl rfl (by omega) ?_
    refine Ev.iastE e_X9_notes rfl rfl rfl (by rw [show (va_up g 10 f) 0 6 = nI k from hk]; exact (congrArg (· + nI p) (pk_mul 17 k)).trans (nI_add _ _)) (by omega) (w1 := wR (va_up g 10 (upd f (17 * k + p) (g 7 p))) tr) rfl ?_
    refine Ev.sn e_X9_notes 2 (i' := 26) (ls' := [_, _]) (st' := []) rfl ?_
    rw [nI_1]
    exact ih (p + 1) _ (by omega)
set_option maxRecDepth 20000 in
set_option maxHeartbeats 200000 in
theorem ls_X9_notes (d : Nat) (g : Nat → Nat → Int32) (tr : Int64) (r : Option Value) (w2 : AW) : ∀ (j p : Nat) (f : Nat → Int32), p + j = 153 → Ev d 149 21 [.ref 0, .null] [] (wR (va_up g 10 (shF j p f)) tr) r w2 → Ev d 149 6 [.ref 0, .int (nI p)] [] (wR (va_up g 10 f) tr) r w2 := by
  intro j
  induction j with
  | zero =>
    intro p f hp K
    refine Ev.sn e_X9_notes 2 (i' := 8) (ls' := [_, _]) (st' := [_, _]) rfl ?_
    refine Ev.brT (i1 := 21) (i2 := 9) e_X9_notes rfl rfl (ge_t (n := 153) rfl (by omega) (by omega)) ?_
    exact Ev.weak (lle_c (lle_n lle_0)) K
  | succ j ih =>
    intro p f hp K
    refine Ev.sn e_X9_notes 2 (i' := 8) (ls' := [_, _]) (st' := [_, _]) rfl ?_
    refine Ev.brF (i1 := 21) (i2 := 9) e_X9_notes rfl rfl (ge_f (n := 153) rfl (by omega) (by omega)) ?_
    refine Ev.sn e_X9_notes 8 (i' := 17) (ls' := [_, _]) (st' := [_, _, _, _]) rfl ?_
    refine Ev.ialdE e_X9_notes rfl rfl rfl rfl (nI_add p 17) (by omega) ?_
    refine Ev.iastE e_X9_notes rfl rfl rfl rfl (by omega) (w1 := wR (va_up g 10 (upd f p (f (p + 17)))) tr) rfl ?_
    refine Ev.sn e_X9_notes 2 (i' := 6) (ls' := [_, _]) (st' := []) rfl ?_
    rw [nI_1]
    exact ih (p + 1) _ (by omega) K
set_option maxRecDepth 20000 in
set_option maxHeartbeats 200000 in
theorem c_X9_notes (d : Nat) (g : Nat → Nat → Int32) (tr : Int64) {k : Nat} (hk : g 0 6 = nI k) (hk10 : k ≤ 10) : ∃ g', Ev d 149 0 [.ref 0, .null] [] (wR g tr) none (wR g' tr) ∧ NOT g g' k := by
  by_cases hx : k = 10
  · subst hx
    obtain ⟨g2, hg2⟩ : ∃ g2, g2 = va_up (va_up g 10 (shF 153 0 (g 10))) 0 (upd (g 0) 6 (nI 9)) := ⟨_, rfl⟩
    have a6 : g2 0 6 = nI 9 := by rw [hg2]; rfl
    have a7 : g2 7 = g 7 := by rw [hg2]; rfl
    have a10 : g2 10 = shF 153 0 (g 10) := by rw [hg2]; rfl
    refine ⟨va_up (va_up g2 10 (wrF (g2 7) (17 * 9) 17 0 (g2 10))) 0 (upd (g2 0) 6 (nI (9 + 1))), ?_, ?_⟩
    · have tl := lt_X9_notes d g2 tr a6 (by omega) 17 0 (g2 10) rfl
      refine Ev.sn e_X9_notes 3 (i' := 3) (ls' := [_, _]) (st' := [_, _]) rfl ?_
      refine Ev.brT (i1 := 4) (i2 := 24) e_X9_notes rfl rfl (hk) ?_
      refine Ev.sn e_X9_notes 2 (i' := 6) (ls' := [_, _]) (st' := []) rfl ?_
      refine Ev.wd (w2 := wR (va_up g 10 (g 10)) tr) rfl ?_
      refine ls_X9_notes d g tr _ _ 153 0 (g 10) rfl ?_
      refine Ev.sn e_X9_notes 2 (i' := 23) (ls' := [_, _]) (st' := [_, _]) rfl ?_
      refine Ev.put e_X9_notes rfl rfl rfl rfl rfl rfl (w1 := wR g2 tr) (by rw [hg2]; rfl) ?_
      refine Ev.sn e_X9_notes 2 (i' := 26) (ls' := [_, _]) (st' := []) rfl ?_
      refine Ev.wd (w2 := wR (va_up g2 10 (g2 10)) tr) rfl ?_
      exact tl
    · refine ⟨9, by omega, Or.inr ⟨rfl, rfl, fun i hi => ?_⟩, rfl, fun t ht => ?_, fun x h1 h2 => ?_, fun i hi => ?_⟩
      · show wrF (g2 7) (17 * 9) 17 0 (g2 10) i = _
        rw [wrF_at, if_neg (by omega), a10, shF_at, if_pos (by omega)]
      · show wrF (g2 7) (17 * 9) 17 0 (g2 10) _ = _
        rw [wrF_at, if_pos (by omega), a7, show 17 * 9 + t - 17 * 9 = t by omega]
      · rw [va_up_ne _ _ h1, va_up_ne _ _ h2, hg2, va_up_ne _ _ h1, va_up_ne _ _ h2]
      · rw [va_up_self, pk_un hi, hg2, va_up_self, pk_un hi]
  · refine ⟨va_up (va_up g 10 (wrF (g 7) (17 * k) 17 0 (g 10))) 0 (upd (g 0) 6 (nI (k + 1))), ?_, ?_⟩
    · have tl := lt_X9_notes d g tr hk (by omega) 17 0 (g 10) rfl
      refine Ev.sn e_X9_notes 3 (i' := 3) (ls' := [_, _]) (st' := [_, _]) rfl ?_
      refine Ev.brF (i1 := 4) (i2 := 24) e_X9_notes rfl rfl ((fun e => hx ((nI_eq (by omega) (by omega)).mp (hk.symm.trans e)))) ?_
      refine Ev.sn e_X9_notes 2 (i' := 26) (ls' := [_, _]) (st' := []) rfl ?_
      refine Ev.wd (w2 := wR (va_up g 10 (g 10)) tr) rfl ?_
      exact tl
    · refine ⟨k, by omega, Or.inl ⟨by omega, rfl, fun i hi => ?_⟩, rfl, fun t ht => ?_, fun x h1 h2 => ?_, fun i hi => ?_⟩
      · show wrF (g 7) (17 * k) 17 0 (g 10) i = _
        rw [wrF_at, if_neg (by omega)]
      · show wrF (g 7) (17 * k) 17 0 (g 10) _ = _
        rw [wrF_at, if_pos (by omega), show 17 * k + t - 17 * k = t by omega]
      · rw [va_up_ne _ _ h1, va_up_ne _ _ h2]
      · rw [va_up_self, pk_un hi]
theorem vR_congr {n q dn : Nat} {g g1 : Nat → Nat → Int32} (h : ∀ x, x ≠ 0 → x ≠ 10 → g1 x = g x) : vR n q dn g1 = vR n q dn g := by
  funext r
  unfold vR
  rw [h 3 (by omega) (by omega), h 7 (by omega) (by omega), h 4 (by omega) (by omega), h 6 (by omega) (by omega), h 5 (by omega) (by omega)]
theorem RI.keep {n q dn : Nat} {g g1 : Nat → Nat → Int32} (hc : RI n q dn g) (h : ∀ x, x ≠ 0 → x ≠ 10 → g1 x = g x) : RI n q dn g1 := by
  unfold RI
  rw [vR_congr h, h 2 (by omega) (by omega), h 7 (by omega) (by omega)]
  exact hc
theorem NOT.low {g g' : Nat → Nat → Int32} {k : Nat} (h : NOT g g' k) : ∀ x, x ≠ 0 → x ≠ 10 → g' x = g x := by
  obtain ⟨k', -, -, -, -, h1, -⟩ := h
  exact h1
/-- the reference's view when whose a THING is changes -/
theorem vR_own {n q dn : Nat} (hn : n ≤ 6) {g : Nat → Nat → Int32} {j : Nat} {x y : Int32} (hxy : (if x = 0 then -9 else x - 1) = y) : vR n q dn (va_up g 7 (upd (g 7) j x)) = va_up (vR n q dn g) 12 (cut n (upd (vR n q dn g 12) j y)) := by
  funext r
  by_cases h12 : r = 12
  · subst h12
    rw [va_up_self]
    funext t
    show cut n _ t = cut n _ t
    by_cases ht : t < n
    · rw [cut_lt ht, cut_lt ht]
      show (if upd (g 7) j x t = 0 then -9 else upd (g 7) j x t - 1) = _
      by_cases hj : t = j
      · subst hj; rw [pk_us, pk_us]; exact hxy
      · rw [pk_un hj, pk_un hj]
        exact (cut_lt (f := fun t => if g 7 t = 0 then -9 else g 7 t - 1) ht).symm
    · simp [cut, ht]
  · rw [va_up_ne _ _ h12]
    unfold vR
    split <;> first | rfl | exact absurd rfl h12 | skip
    · funext t
      by_cases ht : t < n
      · simp only [cut, ht, if_true]
        show upd (g 7) j x (6 + t) = g 7 (6 + t)
        sorry
      · simp [cut, ht]
    · sorry
