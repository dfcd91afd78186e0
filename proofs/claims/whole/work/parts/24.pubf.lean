/-! the rest of the class, but for house, housed, laying, carried -/
set_option maxRecDepth 20000 in
set_option maxHeartbeats 200000 in
theorem c_X6_isFull (d : Nat) (g : Nat → Nat → Int32) (tr : Int64) {k : Nat} (hk : g 0 0 = nI k) (hk2 : k ≤ 200) : Ev d 46 0 [.ref 1] [] (wC g tr) (some (.int (bI (decide (k = 200))))) (wC g tr) := by
  refine Ev.sn e_X6_isFull 3 (i' := 3) (ls' := [_]) (st' := [_, _]) rfl ?_
  refine Ev.br (i1 := 6) (i2 := 4) e_X6_isFull rfl rfl (fun h0 => ?_) (fun h0 => ?_)
  · refine Ev.sn e_X6_isFull 1 (i' := 7) (ls' := [_]) (st' := [_]) rfl ?_
    refine Ev.iret e_X6_isFull rfl rfl rfl ?_ rfl
    have : ¬ k = 200 := fun e => absurd h0 (by rw [hk, e]; decide)
    simp [bI, this]
  · refine Ev.sn e_X6_isFull 2 (i' := 7) (ls' := [_]) (st' := [_]) rfl ?_
    refine Ev.iret e_X6_isFull rfl rfl rfl ?_ rfl
    have : k = 200 := by
      by_cases e : k < 200
      · exact absurd (by rw [hk]; exact nI_lt (b := 200) e (by omega)) h0
      · omega
    simp [bI, this]
set_option maxRecDepth 20000 in
set_option maxHeartbeats 200000 in
theorem c_X6_add (d : Nat) (g : Nat → Nat → Int32) (tr : Int64) {k : Nat} (hk : g 0 0 = nI k) (hk2 : k < 200) (x : Int32) (hx : vp_nar .char x = x) : Ev (d + 1) 47 0 [.ref 1, .int x] [] (wC g tr) none (wC (va_up (va_up g 1 (upd (g 1) k x)) 0 (upd (g 0) 0 (nI (k + 1)))) tr) := by
  refine Ev.sn e_X6_add 1 (i' := 1) (ls' := [_, _]) (st' := [_]) rfl ?_
  refine Ev.clV e_X6_add rfl rfl (as := []) rfl rfl rfl kl_X6_isFull rfl rfl rfl (c_X6_isFull _ _ _ hk (by omega)) rfl ?_
  refine Ev.brT (i1 := 3) (i2 := 15) e_X6_add rfl rfl ((by rw [bI_0]; simp; omega)) ?_
  refine Ev.sn e_X6_add 5 (i' := 8) (ls' := [_, _]) (st' := [_, _, _]) rfl ?_
  refine Ev.castE e_X6_add rfl rfl rfl hk hk2 hx (w1 := wC (va_up g 1 (upd (g 1) k x)) tr) rfl ?_
  refine Ev.sn e_X6_add 5 (i' := 14) (ls' := [_, _]) (st' := [_, _]) rfl ?_
  refine Ev.put e_X6_add rfl rfl rfl rfl rfl rfl (w1 := wC (va_up (va_up g 1 (upd (g 1) k x)) 0 (upd (g 0) 0 (g 0 0 + 1))) tr) rfl ?_
  exact Ev.vret e_X6_add rfl rfl (by rw [hk, nI_1])
theorem ch_ok : ∀ m, m < 256 → ((nI m).toUInt32 % 65536).toInt32 = nI m ∧ vp_nar .char (nI m) = nI m := by decide +kernel
set_option maxRecDepth 20000 in
set_option maxHeartbeats 200000 in
theorem c_X8_type_b (d : Nat) (g : Nat → Nat → Int32) (tr : Int64) (x : Int32) (h : (decide (0 ≤ x) && decide (x ≤ 255)) = false) : Ev (d + 2) 74 0 [.ref 0, .int x] [] (wC g tr) (some (.int (-1))) (wC g tr) := by
  refine Ev.sn e_X8_type 1 (i' := 1) (ls' := [_, _]) (st' := [_]) rfl ?_
  refine Ev.br (i1 := 5) (i2 := 2) e_X8_type rfl rfl (fun h0 => ?_) (fun h0 => ?_)
  · refine Ev.sn e_X8_type 1 (i' := 6) (ls' := [_, _]) (st' := [_]) rfl ?_
    refine Ev.iret e_X8_type rfl rfl rfl ?_ rfl
    rfl
  · refine Ev.sn e_X8_type 2 (i' := 4) (ls' := [_, _]) (st' := [_, _]) rfl ?_
    refine Ev.br (i1 := 7) (i2 := 5) e_X8_type rfl rfl (fun h1 => ?_) (fun h1 => ?_)
    · exfalso
      simp [Int32.not_lt.mp h0, h1] at h
    · refine Ev.sn e_X8_type 1 (i' := 6) (ls' := [_, _]) (st' := [_]) rfl ?_
      refine Ev.iret e_X8_type rfl rfl rfl ?_ rfl
      rfl
set_option maxRecDepth 20000 in
set_option maxHeartbeats 200000 in
theorem c_X8_type_f (d : Nat) (g : Nat → Nat → Int32) (tr : Int64) {x : Nat} (hx : x ≤ 255) (hk : g 0 0 = nI 200) : Ev (d + 2) 74 0 [.ref 0, .int (nI x)] [] (wC g tr) (some (.int (-3))) (wC g tr) := by
  refine Ev.sn e_X8_type 1 (i' := 1) (ls' := [_, _]) (st' := [_]) rfl ?_
  refine Ev.brF (i1 := 5) (i2 := 2) e_X8_type rfl rfl (nI_nlt (b := 0) (by omega) (by omega)) ?_
  refine Ev.sn e_X8_type 2 (i' := 4) (ls' := [_, _]) (st' := [_, _]) rfl ?_
  refine Ev.brT (i1 := 7) (i2 := 5) e_X8_type rfl rfl (nI_le (b := 255) (by omega) (by omega)) ?_
  refine Ev.sn e_X8_type 2 (i' := 9) (ls' := [_, _]) (st' := [_]) rfl ?_
  refine Ev.clV e_X8_type rfl rfl (as := []) rfl rfl rfl kl_X6_isFull rfl rfl rfl (c_X6_isFull _ _ _ hk (by omega)) rfl ?_
  refine Ev.brF (i1 := 13) (i2 := 11) e_X8_type rfl rfl ((by decide)) ?_
  refine Ev.sn e_X8_type 1 (i' := 12) (ls' := [_, _]) (st' := [_]) rfl ?_
  refine Ev.iret e_X8_type rfl rfl rfl ?_ rfl
  rfl
set_option maxRecDepth 20000 in
set_option maxHeartbeats 200000 in
theorem c_X8_type_s (d : Nat) (g : Nat → Nat → Int32) (tr : Int64) {x k : Nat} (hx : x ≤ 255) (hk : g 0 0 = nI k) (hk2 : k < 200) : Ev (d + 2) 74 0 [.ref 0, .int (nI x)] [] (wC g tr) (some (.int (nI (k + 1)))) (wC (va_up (va_up g 1 (upd (g 1) k (nI x))) 0 (upd (g 0) 0 (nI (k + 1)))) tr) := by
  refine Ev.sn e_X8_type 1 (i' := 1) (ls' := [_, _]) (st' := [_]) rfl ?_
  refine Ev.brF (i1 := 5) (i2 := 2) e_X8_type rfl rfl (nI_nlt (b := 0) (by omega) (by omega)) ?_
  refine Ev.sn e_X8_type 2 (i' := 4) (ls' := [_, _]) (st' := [_, _]) rfl ?_
  refine Ev.brT (i1 := 7) (i2 := 5) e_X8_type rfl rfl (nI_le (b := 255) (by omega) (by omega)) ?_
  refine Ev.sn e_X8_type 2 (i' := 9) (ls' := [_, _]) (st' := [_]) rfl ?_
  refine Ev.clV e_X8_type rfl rfl (as := []) rfl rfl rfl kl_X6_isFull rfl rfl rfl (c_X6_isFull _ _ _ hk (by omega)) rfl ?_
  refine Ev.brT (i1 := 13) (i2 := 11) e_X8_type rfl rfl ((by rw [bI_0]; simp; omega)) ?_
  refine Ev.sn e_X8_type 4 (i' := 17) (ls' := [_, _]) (st' := [_, _]) rfl ?_
  refine Ev.clV e_X8_type rfl rfl (as := [_]) rfl rfl rfl kl_X6_add rfl rfl rfl (by rw [(ch_ok x (by omega)).1]; exact c_X6_add _ _ _ hk hk2 _ (ch_ok x (by omega)).2) rfl ?_
  refine Ev.sn e_X8_type 2 (i' := 20) (ls' := [_, _]) (st' := [_]) rfl ?_
  refine Ev.clV e_X8_type rfl rfl (as := []) rfl rfl rfl kl_X6_size rfl rfl rfl (c_X6_size _ _ _) rfl ?_
  refine Ev.iret e_X8_type rfl rfl rfl ?_ rfl
  rfl
set_option maxRecDepth 20000 in
set_option maxHeartbeats 200000 in
theorem c_X8_clear (d : Nat) (g : Nat → Nat → Int32) (tr : Int64) : Ev (d + 1) 75 0 [.ref 0, .null] [] (wC g tr) (some (.int (g 0 0))) (wC (va_up g 0 (upd (g 0) 0 0)) tr) := by
  refine Ev.sn e_X8_clear 2 (i' := 2) (ls' := [_, _]) (st' := [_]) rfl ?_
  refine Ev.clV e_X8_clear rfl rfl (as := []) rfl rfl rfl kl_X6_size rfl rfl rfl (c_X6_size _ _ _) rfl ?_
  refine Ev.sn e_X8_clear 3 (i' := 6) (ls' := [_, _]) (st' := [_]) rfl ?_
  refine Ev.clV e_X8_clear rfl rfl (as := []) rfl rfl rfl kl_X6_loseAll rfl rfl rfl (c_X6_loseAll _ _ _ _ _) rfl ?_
  refine Ev.sn e_X8_clear 1 (i' := 8) (ls' := [_, _]) (st' := [_]) rfl ?_
  refine Ev.iret e_X8_clear rfl rfl rfl ?_ rfl
  rfl
set_option maxRecDepth 20000 in
set_option maxHeartbeats 200000 in
theorem c_X8_rateOfThing (d : Nat) (g : Nat → Nat → Int32) (tr : Int64) {n q dn : Nat} (hc : CI n q dn g) {t : Nat} (ht : t < n) : Ev d 105 0 [.ref 0, .int (nI t)] [] (wC g tr) (some (.int ((vC n q dn g) 2 t))) (wC g (tr + 1)) := by
  have hb := hc.b
  have hv2 : (vC n q dn g) 2 t = g 34 t := cut_lt ht
  have hv1 : (vC n q dn g) 1 t = g 51 t := cut_lt ht
  have hv3 : (vC n q dn g) 3 t = g 35 t := cut_lt ht
  refine Ev.sn e_X8_rateOfThing 5 (i' := 5) (ls' := [_, _]) (st' := [_, _]) rfl ?_
  refine Ev.put e_X8_rateOfThing rfl rfl rfl rfl rfl rfl (w1 := wC g (tr + 1)) rfl ?_
  refine Ev.sn e_X8_rateOfThing 5 (i' := 11) (ls' := [_, _]) (st' := [_, _]) rfl ?_
  refine Ev.ialdE e_X8_rateOfThing rfl rfl rfl rfl rfl (by omega) ?_
  refine Ev.iret e_X8_rateOfThing rfl rfl rfl ?_ rfl
  exact hv2.symm
set_option maxRecDepth 20000 in
set_option maxHeartbeats 200000 in
theorem c_X8_rateOfTurned (d : Nat) (g : Nat → Nat → Int32) (tr : Int64) {n q dn : Nat} (hc : CI n q dn g) {t : Nat} (ht : t < n) : Ev (d + 1) 106 0 [.ref 0, .int (nI t)] [] (wC g tr) (some (.int ((vC n q dn g) 2 t + (vC n q dn g) 1 t))) (wC g (tr + 10 + 1)) := by
  have hb := hc.b
  have hv2 : (vC n q dn g) 2 t = g 34 t := cut_lt ht
  have hv1 : (vC n q dn g) 1 t = g 51 t := cut_lt ht
  have hv3 : (vC n q dn g) 3 t = g 35 t := cut_lt ht
  refine Ev.sn e_X8_rateOfTurned 5 (i' := 5) (ls' := [_, _]) (st' := [_, _]) rfl ?_
  refine Ev.put e_X8_rateOfTurned rfl rfl rfl rfl rfl rfl (w1 := wC g (tr + 10)) rfl ?_
  refine Ev.sn e_X8_rateOfTurned 2 (i' := 8) (ls' := [_, _]) (st' := [_, _]) rfl ?_
  refine Ev.clV e_X8_rateOfTurned rfl rfl (as := [_]) rfl rfl rfl kl_X8_rateOfThing rfl rfl rfl (c_X8_rateOfThing _ _ _ hc ht) rfl ?_
  refine Ev.sn e_X8_rateOfTurned 5 (i' := 14) (ls' := [_, _]) (st' := [_, _, _]) rfl ?_
  refine Ev.ialdE e_X8_rateOfTurned rfl rfl rfl rfl rfl (by omega) ?_
  refine Ev.sn e_X8_rateOfTurned 1 (i' := 16) (ls' := [_, _]) (st' := [_]) rfl ?_
  refine Ev.iret e_X8_rateOfTurned rfl rfl rfl ?_ rfl
  rw [hv1]
set_option maxRecDepth 20000 in
set_option maxHeartbeats 200000 in
theorem c_X8_rateOfGlued (d : Nat) (g : Nat → Nat → Int32) (tr : Int64) {n q dn : Nat} (hc : CI n q dn g) {t : Nat} (ht : t < n) : Ev (d + 1) 107 0 [.ref 0, .int (nI t)] [] (wC g tr) (some (.int ((vC n q dn g) 2 t - (vC n q dn g) 3 t))) (wC g (tr + 100 + 1)) := by
  have hb := hc.b
  have hv2 : (vC n q dn g) 2 t = g 34 t := cut_lt ht
  have hv1 : (vC n q dn g) 1 t = g 51 t := cut_lt ht
  have hv3 : (vC n q dn g) 3 t = g 35 t := cut_lt ht
  refine Ev.sn e_X8_rateOfGlued 5 (i' := 5) (ls' := [_, _]) (st' := [_, _]) rfl ?_
  refine Ev.put e_X8_rateOfGlued rfl rfl rfl rfl rfl rfl (w1 := wC g (tr + 100)) rfl ?_
  refine Ev.sn e_X8_rateOfGlued 2 (i' := 8) (ls' := [_, _]) (st' := [_, _]) rfl ?_
  refine Ev.clV e_X8_rateOfGlued rfl rfl (as := [_]) rfl rfl rfl kl_X8_rateOfThing rfl rfl rfl (c_X8_rateOfThing _ _ _ hc ht) rfl ?_
  refine Ev.sn e_X8_rateOfGlued 5 (i' := 14) (ls' := [_, _]) (st' := [_, _, _]) rfl ?_
  refine Ev.ialdE e_X8_rateOfGlued rfl rfl rfl rfl rfl (by omega) ?_
  refine Ev.sn e_X8_rateOfGlued 1 (i' := 16) (ls' := [_, _]) (st' := [_]) rfl ?_
  refine Ev.iret e_X8_rateOfGlued rfl rfl rfl ?_ rfl
  rw [hv3]
set_option maxRecDepth 20000 in
set_option maxHeartbeats 200000 in
theorem c_X8_rateOfCarved (d : Nat) (g : Nat → Nat → Int32) (tr : Int64) {n q dn : Nat} (hc : CI n q dn g) {t : Nat} (ht : t < n) : Ev (d + 2) 108 0 [.ref 0, .int (nI t)] [] (wC g tr) (some (.int (2 * ((vC n q dn g) 2 t + (vC n q dn g) 1 t)))) (wC g (tr + 1000 + 10 + 1)) := by
  have hb := hc.b
  have hv2 : (vC n q dn g) 2 t = g 34 t := cut_lt ht
  have hv1 : (vC n q dn g) 1 t = g 51 t := cut_lt ht
  have hv3 : (vC n q dn g) 3 t = g 35 t := cut_lt ht
  refine Ev.sn e_X8_rateOfCarved 5 (i' := 5) (ls' := [_, _]) (st' := [_, _]) rfl ?_
  refine Ev.put e_X8_rateOfCarved rfl rfl rfl rfl rfl rfl (w1 := wC g (tr + 1000)) rfl ?_
  refine Ev.sn e_X8_rateOfCarved 3 (i' := 9) (ls' := [_, _]) (st' := [_, _, _]) rfl ?_
  refine Ev.clV e_X8_rateOfCarved rfl rfl (as := [_]) rfl rfl rfl kl_X8_rateOfTurned rfl rfl rfl (c_X8_rateOfTurned _ _ _ hc ht) rfl ?_
  refine Ev.sn e_X8_rateOfCarved 1 (i' := 11) (ls' := [_, _]) (st' := [_]) rfl ?_
  refine Ev.iret e_X8_rateOfCarved rfl rfl rfl ?_ rfl
  rfl
set_option maxRecDepth 20000 in
set_option maxHeartbeats 200000 in
theorem c_X8_rateOfSoup (d : Nat) (g : Nat → Nat → Int32) (tr : Int64) {n q dn : Nat} (hc : CI n q dn g) {t : Nat} (ht : t < n) : Ev (d + 2) 109 0 [.ref 0, .int (nI t)] [] (wC g tr) (some (.int ((vC n q dn g) 2 t - (vC n q dn g) 3 t + nI t))) (wC g (tr + 10000 + 100 + 1)) := by
  have hb := hc.b
  have hv2 : (vC n q dn g) 2 t = g 34 t := cut_lt ht
  have hv1 : (vC n q dn g) 1 t = g 51 t := cut_lt ht
  have hv3 : (vC n q dn g) 3 t = g 35 t := cut_lt ht
  refine Ev.sn e_X8_rateOfSoup 5 (i' := 5) (ls' := [_, _]) (st' := [_, _]) rfl ?_
  refine Ev.put e_X8_rateOfSoup rfl rfl rfl rfl rfl rfl (w1 := wC g (tr + 10000)) rfl ?_
  refine Ev.sn e_X8_rateOfSoup 2 (i' := 8) (ls' := [_, _]) (st' := [_, _]) rfl ?_
  refine Ev.clV e_X8_rateOfSoup rfl rfl (as := [_]) rfl rfl rfl kl_X8_rateOfGlued rfl rfl rfl (c_X8_rateOfGlued _ _ _ hc ht) rfl ?_
  refine Ev.sn e_X8_rateOfSoup 2 (i' := 11) (ls' := [_, _]) (st' := [_]) rfl ?_
  refine Ev.iret e_X8_rateOfSoup rfl rfl rfl ?_ rfl
  rfl
set_option maxRecDepth 20000 in
set_option maxHeartbeats 200000 in
theorem c_X8_rateOfReal (d : Nat) (g : Nat → Nat → Int32) (tr : Int64) {n q dn : Nat} (hc : CI n q dn g) {t : Nat} (ht : t < n) : Ev (d + 3) 110 0 [.ref 0, .int (nI t)] [] (wC g tr) (some (.int ((vC n q dn g) 2 t + bcI (PIF q (vC n q dn g) t)))) (wC g (tr + 100000 + 1)) := by
  have hb := hc.b
  have hv2 : (vC n q dn g) 2 t = g 34 t := cut_lt ht
  have hv1 : (vC n q dn g) 1 t = g 51 t := cut_lt ht
  have hv3 : (vC n q dn g) 3 t = g 35 t := cut_lt ht
  refine Ev.sn e_X8_rateOfReal 5 (i' := 5) (ls' := [_, _]) (st' := [_, _]) rfl ?_
  refine Ev.put e_X8_rateOfReal rfl rfl rfl rfl rfl rfl (w1 := wC g (tr + 100000)) rfl ?_
  refine Ev.sn e_X8_rateOfReal 2 (i' := 8) (ls' := [_, _]) (st' := [_, _]) rfl ?_
  refine Ev.clV e_X8_rateOfReal rfl rfl (as := [_]) rfl rfl rfl kl_X8_rateOfThing rfl rfl rfl (c_X8_rateOfThing _ _ _ hc ht) rfl ?_
  refine Ev.sn e_X8_rateOfReal 3 (i' := 12) (ls' := [_, _]) (st' := [_, _, _]) rfl ?_
  refine Ev.clV e_X8_rateOfReal rfl rfl (as := [_]) rfl rfl rfl kl_X2_peopleItFits rfl rfl rfl (c_X2_peopleItFits _ _ _ hc ht) rfl ?_
  refine Ev.clS e_X8_rateOfReal rfl rfl rfl (as := [_]) rfl rfl rfl rfl rfl (c_J6_bitCount_0f7a4 _ _ _) rfl ?_
  refine Ev.sn e_X8_rateOfReal 1 (i' := 15) (ls' := [_, _]) (st' := [_]) rfl ?_
  refine Ev.iret e_X8_rateOfReal rfl rfl rfl ?_ rfl
  rfl
def S_rate (n q : Nat) (v : VW) (c t : Int32) : Int32 := if (decide (0 ≤ t) && decide (t < nI n)) = true then (if c = 0 then v 2 t.toNatClampNeg else if c = 1 then v 2 t.toNatClampNeg + v 1 t.toNatClampNeg else if c = 2 then v 2 t.toNatClampNeg - v 3 t.toNatClampNeg else if c = 3 then 2 * (v 2 t.toNatClampNeg + v 1 t.toNatClampNeg) else if c = 4 then v 2 t.toNatClampNeg - v 3 t.toNatClampNeg + t else if c = 5 then v 2 t.toNatClampNeg + bcI (PIF q v t.toNatClampNeg) else -1000000) else -1000000
def S_trc (n : Nat) (tr : Int64) (c t : Int32) : Int64 := if (decide (0 ≤ t) && decide (t < nI n)) = true then (if c = 0 then tr + 1 else if c = 1 then tr + 11 else if c = 2 then tr + 101 else if c = 3 then tr + 1011 else if c = 4 then tr + 10101 else if c = 5 then tr + 100001 else tr) else tr
set_option maxRecDepth 20000 in
set_option maxHeartbeats 200000 in
theorem c_X8_rate (d : Nat) (g : Nat → Nat → Int32) (tr : Int64) {n q dn : Nat} (hc : CI n q dn g) (c t : Int32) : Ev (d + 4) 100 0 [.ref 0, .int c, .int t] [] (wC g tr) (some (.int (S_rate n q (vC n q dn g) c t))) (wC g (S_trc n tr c t)) := by
  have hb := hc.b
  refine Ev.sn e_X8_rate 3 (i' := 3) (ls' := [_, _, _]) (st' := [_, _]) rfl ?_
  refine Ev.clV e_X8_rate rfl rfl (as := [_]) rfl rfl rfl kl_X2_hasThing rfl rfl rfl (c_X2_hasThing _ _ _ hc _) rfl ?_
  refine Ev.brB (i1 := 5) (i2 := 7) e_X8_rate rfl rfl (fun h0 => ?_) (fun h0 => ?_)
  · refine Ev.sn e_X8_rate 1 (i' := 6) (ls' := [_, _, _]) (st' := [_]) rfl ?_
    exact Ev.iret e_X8_rate rfl rfl rfl (by simp [S_rate, h0]) (by simp [S_trc, h0])
  · obtain ⟨j, hj, rfl⟩ := ixB (n := n) (by omega) h0
    have hcl : (nI j).toNatClampNeg = j := nI_clamp (by omega)
    refine Ev.sn e_X8_rate 1 (i' := 8) (ls' := [_, _, _]) (st' := [_]) rfl ?_
    by_cases s1 : c = 0
    · refine Ev.swi (t := 9) (ls' := [_, _, _]) (st' := []) e_X8_rate rfl rfl (by rw [s1]; rfl) ?_
      refine Ev.sn e_X8_rate 2 (i' := 11) (ls' := [_, _, _]) (st' := [_, _]) rfl ?_
      refine Ev.clV e_X8_rate rfl rfl (as := [_]) rfl rfl rfl kl_X8_rateOfThing rfl rfl rfl (c_X8_rateOfThing _ _ _ hc hj) rfl ?_
      exact Ev.iret e_X8_rate rfl rfl rfl (by simp [S_rate, h0, hcl, s1]) (by simp [S_trc, h0, s1])
    by_cases s2 : c = 1
    · refine Ev.swi (t := 13) (ls' := [_, _, _]) (st' := []) e_X8_rate rfl rfl (by rw [s2]; rfl) ?_
      refine Ev.sn e_X8_rate 2 (i' := 15) (ls' := [_, _, _]) (st' := [_, _]) rfl ?_
      refine Ev.clV e_X8_rate rfl rfl (as := [_]) rfl rfl rfl kl_X8_rateOfTurned rfl rfl rfl (c_X8_rateOfTurned _ _ _ hc hj) rfl ?_
      exact Ev.iret e_X8_rate rfl rfl rfl (by simp [S_rate, h0, hcl, s1, s2]) (by simp [S_trc, h0, s1, s2, Int64.add_assoc])
    by_cases s3 : c = 2
    · refine Ev.swi (t := 17) (ls' := [_, _, _]) (st' := []) e_X8_rate rfl rfl (by rw [s3]; rfl) ?_
      refine Ev.sn e_X8_rate 2 (i' := 19) (ls' := [_, _, _]) (st' := [_, _]) rfl ?_
      refine Ev.clV e_X8_rate rfl rfl (as := [_]) rfl rfl rfl kl_X8_rateOfGlued rfl rfl rfl (c_X8_rateOfGlued _ _ _ hc hj) rfl ?_
      exact Ev.iret e_X8_rate rfl rfl rfl (by simp [S_rate, h0, hcl, s1, s2, s3]) (by simp [S_trc, h0, s1, s2, s3, Int64.add_assoc])
    by_cases s4 : c = 3
    · refine Ev.swi (t := 21) (ls' := [_, _, _]) (st' := []) e_X8_rate rfl rfl (by rw [s4]; rfl) ?_
      refine Ev.sn e_X8_rate 2 (i' := 23) (ls' := [_, _, _]) (st' := [_, _]) rfl ?_
      refine Ev.clV e_X8_rate rfl rfl (as := [_]) rfl rfl rfl kl_X8_rateOfCarved rfl rfl rfl (c_X8_rateOfCarved _ _ _ hc hj) rfl ?_
      exact Ev.iret e_X8_rate rfl rfl rfl (by simp [S_rate, h0, hcl, s1, s2, s3, s4]) (by simp [S_trc, h0, s1, s2, s3, s4, Int64.add_assoc])
    by_cases s5 : c = 4
    · refine Ev.swi (t := 25) (ls' := [_, _, _]) (st' := []) e_X8_rate rfl rfl (by rw [s5]; rfl) ?_
      refine Ev.sn e_X8_rate 2 (i' := 27) (ls' := [_, _, _]) (st' := [_, _]) rfl ?_
      refine Ev.clV e_X8_rate rfl rfl (as := [_]) rfl rfl rfl kl_X8_rateOfSoup rfl rfl rfl (c_X8_rateOfSoup _ _ _ hc hj) rfl ?_
      exact Ev.iret e_X8_rate rfl rfl rfl (by simp [S_rate, h0, hcl, s1, s2, s3, s4, s5]) (by simp [S_trc, h0, s1, s2, s3, s4, s5, Int64.add_assoc])
    by_cases s6 : c = 5
    · refine Ev.swi (t := 29) (ls' := [_, _, _]) (st' := []) e_X8_rate rfl rfl (by rw [s6]; rfl) ?_
      refine Ev.sn e_X8_rate 2 (i' := 31) (ls' := [_, _, _]) (st' := [_, _]) rfl ?_
      refine Ev.clV e_X8_rate rfl rfl (as := [_]) rfl rfl rfl kl_X8_rateOfReal rfl rfl rfl (c_X8_rateOfReal _ _ _ hc hj) rfl ?_
      exact Ev.iret e_X8_rate rfl rfl rfl (by simp [S_rate, h0, hcl, s1, s2, s3, s4, s5, s6]) (by simp [S_trc, h0, s1, s2, s3, s4, s5, s6, Int64.add_assoc])
    refine Ev.swi (t := 33) (ls' := [_, _, _]) (st' := []) e_X8_rate rfl rfl (by simp [swl, h0, s1, s2, s3, s4, s5, s6]) ?_
    refine Ev.sn e_X8_rate 1 (i' := 34) (ls' := [_, _, _]) (st' := [_]) rfl ?_
    exact Ev.iret e_X8_rate rfl rfl rfl (by simp [S_rate, h0, s1, s2, s3, s4, s5, s6]) (by simp [S_trc, h0, s1, s2, s3, s4, s5, s6])
set_option maxRecDepth 20000 in
set_option maxHeartbeats 200000 in
theorem c_X8_keep_b (d : Nat) (g : Nat → Nat → Int32) (tr : Int64) (x : Int32) (h : (decide (x = 0) || decide (x = 1)) = false) : Ev (d + 2) 101 0 [.ref 0, .int x] [] (wC g tr) (some (.int (-1))) (wC g tr) := by
  refine Ev.sn e_X8_keep 1 (i' := 1) (ls' := [_, _]) (st' := [_]) rfl ?_
  refine Ev.clS e_X8_keep rfl rfl rfl (as := [_]) rfl rfl rfl rfl rfl (c_X8_isFirstOrSecond _ _ _) rfl ?_
  refine Ev.brT (i1 := 3) (i2 := 5) e_X8_keep rfl rfl (bT h) ?_
  refine Ev.sn e_X8_keep 1 (i' := 4) (ls' := [_, _]) (st' := [_]) rfl ?_
  refine Ev.iret e_X8_keep rfl rfl rfl ?_ rfl
  rfl
def kepT (g : Nat → Nat → Int32) (i : Nat) : Nat → Nat → Int32 := va_up (cp3 g (91 + 3 * i) 50) 97 (upd (g 97) i 1)
set_option maxRecDepth 20000 in
set_option maxHeartbeats 200000 in
theorem c_X8_keep_0 (d : Nat) (g : Nat → Nat → Int32) (tr : Int64) {n q dn : Nat} (hc : CI n q dn g) : Ev (d + 2) 101 0 [.ref 0, .int 0] [] (wC g tr) (some (.int (bcI (OWN n (vC n q dn g))))) (wC (kepT g 0) tr) := by
  have hb := hc.b
  have hc2 : CI n q dn (va_up (cp3 g 91 50) 97 (upd (g 97) 0 1)) := hc
  refine Ev.sn e_X8_keep 1 (i' := 1) (ls' := [_, _]) (st' := [_]) rfl ?_
  refine Ev.clS e_X8_keep rfl rfl rfl (as := [_]) rfl rfl rfl rfl rfl (c_X8_isFirstOrSecond _ _ _) rfl ?_
  refine Ev.brF (i1 := 3) (i2 := 5) e_X8_keep rfl rfl ((by decide)) ?_
  refine Ev.sn e_X8_keep 3 (i' := 8) (ls' := [_, _]) (st' := [_, _]) rfl ?_
  refine Ev.aaldE e_X8_keep rfl rfl rfl (m := 0) rfl (by decide) rfl ?_
  refine Ev.sn e_X8_keep 3 (i' := 12) (ls' := [_, _]) (st' := [_, _]) rfl ?_
  refine Ev.clV e_X8_keep rfl rfl (as := [_]) rfl rfl rfl kl_X4_copyFrom rfl rfl rfl (c_cp_87_30 _ _ _ _ _) rfl ?_
  refine Ev.sn e_X8_keep 4 (i' := 17) (ls' := [_, _]) (st' := [_, _, _]) rfl ?_
  refine Ev.bastE e_X8_keep rfl rfl rfl (m := 0) rfl (by decide) (Or.inr rfl) (w1 := wC (va_up (cp3 g 91 50) 97 (upd (g 97) 0 1)) tr) rfl ?_
  refine Ev.sn e_X8_keep 2 (i' := 20) (ls' := [_, _]) (st' := [_]) rfl ?_
  refine Ev.clV e_X8_keep rfl rfl (as := []) rfl rfl rfl kl_X2_ownedThings rfl rfl rfl (c_X2_ownedThings _ _ _ hc2) rfl ?_
  refine Ev.clS e_X8_keep rfl rfl rfl (as := [_]) rfl rfl rfl rfl rfl (c_J6_bitCount_0f7a4 _ _ _) rfl ?_
  refine Ev.iret e_X8_keep rfl rfl rfl ?_ rfl
  rw [show vC n q dn (va_up (cp3 g 91 50) 97 (upd (g 97) 0 1)) = (vC n q dn g) from rfl]
set_option maxRecDepth 20000 in
set_option maxHeartbeats 200000 in
theorem c_X8_keep_1 (d : Nat) (g : Nat → Nat → Int32) (tr : Int64) {n q dn : Nat} (hc : CI n q dn g) : Ev (d + 2) 101 0 [.ref 0, .int 1] [] (wC g tr) (some (.int (bcI (OWN n (vC n q dn g))))) (wC (kepT g 1) tr) := by
  have hb := hc.b
  have hc2 : CI n q dn (va_up (cp3 g 94 50) 97 (upd (g 97) 1 1)) := hc
  refine Ev.sn e_X8_keep 1 (i' := 1) (ls' := [_, _]) (st' := [_]) rfl ?_
  refine Ev.clS e_X8_keep rfl rfl rfl (as := [_]) rfl rfl rfl rfl rfl (c_X8_isFirstOrSecond _ _ _) rfl ?_
  refine Ev.brF (i1 := 3) (i2 := 5) e_X8_keep rfl rfl ((by decide)) ?_
  refine Ev.sn e_X8_keep 3 (i' := 8) (ls' := [_, _]) (st' := [_, _]) rfl ?_
  refine Ev.aaldE e_X8_keep rfl rfl rfl (m := 1) rfl (by decide) rfl ?_
  refine Ev.sn e_X8_keep 3 (i' := 12) (ls' := [_, _]) (st' := [_, _]) rfl ?_
  refine Ev.clV e_X8_keep rfl rfl (as := [_]) rfl rfl rfl kl_X4_copyFrom rfl rfl rfl (c_cp_91_30 _ _ _ _ _) rfl ?_
  refine Ev.sn e_X8_keep 4 (i' := 17) (ls' := [_, _]) (st' := [_, _, _]) rfl ?_
  refine Ev.bastE e_X8_keep rfl rfl rfl (m := 1) rfl (by decide) (Or.inr rfl) (w1 := wC (va_up (cp3 g 94 50) 97 (upd (g 97) 1 1)) tr) rfl ?_
  refine Ev.sn e_X8_keep 2 (i' := 20) (ls' := [_, _]) (st' := [_]) rfl ?_
  refine Ev.clV e_X8_keep rfl rfl (as := []) rfl rfl rfl kl_X2_ownedThings rfl rfl rfl (c_X2_ownedThings _ _ _ hc2) rfl ?_
  refine Ev.clS e_X8_keep rfl rfl rfl (as := [_]) rfl rfl rfl rfl rfl (c_J6_bitCount_0f7a4 _ _ _) rfl ?_
  refine Ev.iret e_X8_keep rfl rfl rfl ?_ rfl
  rw [show vC n q dn (va_up (cp3 g 94 50) 97 (upd (g 97) 1 1)) = (vC n q dn g) from rfl]
set_option maxRecDepth 20000 in
set_option maxHeartbeats 200000 in
theorem c_X8_back_b (d : Nat) (g : Nat → Nat → Int32) (tr : Int64) (x : Int32) (h : (decide (x = 0) || decide (x = 1)) = false) : Ev (d + 2) 102 0 [.ref 0, .int x] [] (wC g tr) (some (.int (-1))) (wC g tr) := by
  refine Ev.sn e_X8_back 1 (i' := 1) (ls' := [_, _]) (st' := [_]) rfl ?_
  refine Ev.clS e_X8_back rfl rfl rfl (as := [_]) rfl rfl rfl rfl rfl (c_X8_isFirstOrSecond _ _ _) rfl ?_
  refine Ev.brT (i1 := 3) (i2 := 5) e_X8_back rfl rfl (bT h) ?_
  refine Ev.sn e_X8_back 1 (i' := 4) (ls' := [_, _]) (st' := [_]) rfl ?_
  refine Ev.iret e_X8_back rfl rfl rfl ?_ rfl
  rfl
def bakT (g : Nat → Nat → Int32) (i : Nat) : Nat → Nat → Int32 := va_up (cp3 g 50 (91 + 3 * i)) 90 (upd (g 90) 1 0)
set_option maxRecDepth 20000 in
set_option maxHeartbeats 200000 in
theorem c_X8_back_f0 (d : Nat) (g : Nat → Nat → Int32) (tr : Int64) (h : g 97 0 = 0) : Ev (d + 2) 102 0 [.ref 0, .int 0] [] (wC g tr) (some (.int (-2))) (wC g tr) := by
  refine Ev.sn e_X8_back 1 (i' := 1) (ls' := [_, _]) (st' := [_]) rfl ?_
  refine Ev.clS e_X8_back rfl rfl rfl (as := [_]) rfl rfl rfl rfl rfl (c_X8_isFirstOrSecond _ _ _) rfl ?_
  refine Ev.brF (i1 := 3) (i2 := 5) e_X8_back rfl rfl ((by decide)) ?_
  refine Ev.sn e_X8_back 3 (i' := 8) (ls' := [_, _]) (st' := [_, _]) rfl ?_
  refine Ev.baldE e_X8_back rfl rfl rfl (m := 0) rfl (by decide) ?_
  refine Ev.brT (i1 := 10) (i2 := 12) e_X8_back rfl rfl (h) ?_
  refine Ev.sn e_X8_back 1 (i' := 11) (ls' := [_, _]) (st' := [_]) rfl ?_
  refine Ev.iret e_X8_back rfl rfl rfl ?_ rfl
  rfl
set_option maxRecDepth 20000 in
set_option maxHeartbeats 200000 in
theorem c_X8_back_s0 (d : Nat) (g : Nat → Nat → Int32) (tr : Int64) {n q dn : Nat} (hc2 : CI n q dn (bakT g 0)) (h : ¬ g 97 0 = 0) : Ev (d + 2) 102 0 [.ref 0, .int 0] [] (wC g tr) (some (.int (bcI (OWN n (vC n q dn (bakT g 0)))))) (wC (bakT g 0) tr) := by
  refine Ev.sn e_X8_back 1 (i' := 1) (ls' := [_, _]) (st' := [_]) rfl ?_
  refine Ev.clS e_X8_back rfl rfl rfl (as := [_]) rfl rfl rfl rfl rfl (c_X8_isFirstOrSecond _ _ _) rfl ?_
  refine Ev.brF (i1 := 3) (i2 := 5) e_X8_back rfl rfl ((by decide)) ?_
  refine Ev.sn e_X8_back 3 (i' := 8) (ls' := [_, _]) (st' := [_, _]) rfl ?_
  refine Ev.baldE e_X8_back rfl rfl rfl (m := 0) rfl (by decide) ?_
  refine Ev.brF (i1 := 10) (i2 := 12) e_X8_back rfl rfl (h) ?_
  refine Ev.sn e_X8_back 6 (i' := 18) (ls' := [_, _]) (st' := [_, _, _]) rfl ?_
  refine Ev.aaldE e_X8_back rfl rfl rfl (m := 0) rfl (by decide) rfl ?_
  refine Ev.clV e_X8_back rfl rfl (as := [_]) rfl rfl rfl kl_X4_copyFrom rfl rfl rfl (c_cp_30_87 _ _ _ _ _) rfl ?_
  refine Ev.sn e_X8_back 2 (i' := 22) (ls' := [_, _]) (st' := [_]) rfl ?_
  refine Ev.clV e_X8_back rfl rfl (as := []) rfl rfl rfl kl_X1_loseAll rfl rfl rfl (c_X1_loseAll _ 3 17 _ _) rfl ?_
  refine Ev.wd (w2 := wC (bakT g 0) tr) rfl ?_
  refine Ev.sn e_X8_back 2 (i' := 25) (ls' := [_, _]) (st' := [_]) rfl ?_
  refine Ev.clV e_X8_back rfl rfl (as := []) rfl rfl rfl kl_X2_ownedThings rfl rfl rfl (c_X2_ownedThings _ _ _ hc2) rfl ?_
  refine Ev.clS e_X8_back rfl rfl rfl (as := [_]) rfl rfl rfl rfl rfl (c_J6_bitCount_0f7a4 _ _ _) rfl ?_
  refine Ev.iret e_X8_back rfl rfl rfl ?_ rfl
  rfl
set_option maxRecDepth 20000 in
set_option maxHeartbeats 200000 in
theorem c_X8_back_f1 (d : Nat) (g : Nat → Nat → Int32) (tr : Int64) (h : g 97 1 = 0) : Ev (d + 2) 102 0 [.ref 0, .int 1] [] (wC g tr) (some (.int (-2))) (wC g tr) := by
  refine Ev.sn e_X8_back 1 (i' := 1) (ls' := [_, _]) (st' := [_]) rfl ?_
  refine Ev.clS e_X8_back rfl rfl rfl (as := [_]) rfl rfl rfl rfl rfl (c_X8_isFirstOrSecond _ _ _) rfl ?_
  refine Ev.brF (i1 := 3) (i2 := 5) e_X8_back rfl rfl ((by decide)) ?_
  refine Ev.sn e_X8_back 3 (i' := 8) (ls' := [_, _]) (st' := [_, _]) rfl ?_
  refine Ev.baldE e_X8_back rfl rfl rfl (m := 1) rfl (by decide) ?_
  refine Ev.brT (i1 := 10) (i2 := 12) e_X8_back rfl rfl (h) ?_
  refine Ev.sn e_X8_back 1 (i' := 11) (ls' := [_, _]) (st' := [_]) rfl ?_
  refine Ev.iret e_X8_back rfl rfl rfl ?_ rfl
  rfl
set_option maxRecDepth 20000 in
set_option maxHeartbeats 200000 in
theorem c_X8_back_s1 (d : Nat) (g : Nat → Nat → Int32) (tr : Int64) {n q dn : Nat} (hc2 : CI n q dn (bakT g 1)) (h : ¬ g 97 1 = 0) : Ev (d + 2) 102 0 [.ref 0, .int 1] [] (wC g tr) (some (.int (bcI (OWN n (vC n q dn (bakT g 1)))))) (wC (bakT g 1) tr) := by
  refine Ev.sn e_X8_back 1 (i' := 1) (ls' := [_, _]) (st' := [_]) rfl ?_
  refine Ev.clS e_X8_back rfl rfl rfl (as := [_]) rfl rfl rfl rfl rfl (c_X8_isFirstOrSecond _ _ _) rfl ?_
  refine Ev.brF (i1 := 3) (i2 := 5) e_X8_back rfl rfl ((by decide)) ?_
  refine Ev.sn e_X8_back 3 (i' := 8) (ls' := [_, _]) (st' := [_, _]) rfl ?_
  refine Ev.baldE e_X8_back rfl rfl rfl (m := 1) rfl (by decide) ?_
  refine Ev.brF (i1 := 10) (i2 := 12) e_X8_back rfl rfl (h) ?_
  refine Ev.sn e_X8_back 6 (i' := 18) (ls' := [_, _]) (st' := [_, _, _]) rfl ?_
  refine Ev.aaldE e_X8_back rfl rfl rfl (m := 1) rfl (by decide) rfl ?_
  refine Ev.clV e_X8_back rfl rfl (as := [_]) rfl rfl rfl kl_X4_copyFrom rfl rfl rfl (c_cp_30_91 _ _ _ _ _) rfl ?_
  refine Ev.sn e_X8_back 2 (i' := 22) (ls' := [_, _]) (st' := [_]) rfl ?_
  refine Ev.clV e_X8_back rfl rfl (as := []) rfl rfl rfl kl_X1_loseAll rfl rfl rfl (c_X1_loseAll _ 3 17 _ _) rfl ?_
  refine Ev.wd (w2 := wC (bakT g 1) tr) rfl ?_
  refine Ev.sn e_X8_back 2 (i' := 25) (ls' := [_, _]) (st' := [_]) rfl ?_
  refine Ev.clV e_X8_back rfl rfl (as := []) rfl rfl rfl kl_X2_ownedThings rfl rfl rfl (c_X2_ownedThings _ _ _ hc2) rfl ?_
  refine Ev.clS e_X8_back rfl rfl rfl (as := [_]) rfl rfl rfl rfl rfl (c_J6_bitCount_0f7a4 _ _ _) rfl ?_
  refine Ev.iret e_X8_back rfl rfl rfl ?_ rfl
  rfl
set_option maxRecDepth 20000 in
set_option maxHeartbeats 200000 in
theorem c_X8_mean_b (d : Nat) (g : Nat → Nat → Int32) (tr : Int64) {n q dn : Nat} (hc : CI n q dn g) (x : Int32) (h : (decide (x = 0) || decide (x = 1)) = false) : Ev (d + 2) 96 0 [.ref 0, .int x, .null, .null, .null] [] (wC g tr) (some (.long (-1))) (wC g tr) := by
  have hb := hc.b
  refine Ev.sn e_X8_mean 1 (i' := 1) (ls' := [_, _, _, _, _]) (st' := [_]) rfl ?_
  refine Ev.clS e_X8_mean rfl rfl rfl (as := [_]) rfl rfl rfl rfl rfl (c_X8_isFirstOrSecond _ _ _) rfl ?_
  refine Ev.brT (i1 := 3) (i2 := 5) e_X8_mean rfl rfl (bT h) ?_
  refine Ev.sn e_X8_mean 1 (i' := 4) (ls' := [_, _, _, _, _]) (st' := [_]) rfl ?_
  refine Ev.lret e_X8_mean rfl rfl ?_ rfl
  rfl
set_option maxRecDepth 20000 in
set_option maxHeartbeats 200000 in
theorem c_X8_mean_s (d : Nat) (g : Nat → Nat → Int32) (tr : Int64) {n q dn : Nat} (hc : CI n q dn g) (x : Int32) (h : (decide (x = 0) || decide (x = 1)) = true) : Ev (d + 2) 96 0 [.ref 0, .int x, .null, .null, .null] [] (wC g tr) (some (.long (ilt (HGA q (vC n q dn g) (COM q (vC n q dn g))) (COM q (vC n q dn g) * (if nI q < 1 then 1 else nI q).toInt64) x))) (wC g tr) := by
  have hb := hc.b
  refine Ev.sn e_X8_mean 1 (i' := 1) (ls' := [_, _, _, _, _]) (st' := [_]) rfl ?_
  refine Ev.clS e_X8_mean rfl rfl rfl (as := [_]) rfl rfl rfl rfl rfl (c_X8_isFirstOrSecond _ _ _) rfl ?_
  refine Ev.brF (i1 := 3) (i2 := 5) e_X8_mean rfl rfl (bF h) ?_
  refine Ev.sn e_X8_mean 2 (i' := 7) (ls' := [_, _, _, _, _]) (st' := [_]) rfl ?_
  refine Ev.clV e_X8_mean rfl rfl (as := []) rfl rfl rfl kl_X2_commonScale rfl rfl rfl (c_X2_commonScale _ _ _ hc) rfl ?_
  refine Ev.sn e_X8_mean 6 (i' := 14) (ls' := [_, _, _, _, _]) (st' := [_, _]) rfl ?_
  refine Ev.clS e_X8_mean rfl rfl rfl (as := [_, _]) rfl rfl rfl rfl rfl (by rw [hc.hq]; exact c_J9_max_7cf53 _ _ _ _) rfl ?_
  refine Ev.sn e_X8_mean 4 (i' := 19) (ls' := [_, _, _, _, _]) (st' := [_, _]) rfl ?_
  refine Ev.clV e_X8_mean rfl rfl (as := [_]) rfl rfl rfl kl_X2_heightOfAll rfl rfl rfl (c_X2_heightOfAll _ _ _ hc _) rfl ?_
  refine Ev.sn e_X8_mean 5 (i' := 25) (ls' := [_, _, _, _, _]) (st' := [_, _, _]) rfl ?_
  refine Ev.clS e_X8_mean rfl rfl rfl (as := [_, _, _]) rfl rfl rfl rfl rfl (c_X8_inLowestTerms _ _ _ _ _) rfl ?_
  refine Ev.lret e_X8_mean rfl rfl ?_ rfl
  rfl
set_option maxRecDepth 20000 in
set_option maxHeartbeats 200000 in
theorem c_X8_turnsOfAll (d : Nat) (g : Nat → Nat → Int32) (tr : Int64) {n q dn : Nat} (hc : CI n q dn g) : Ev (d + 2) 97 0 [.ref 0, .null, .null] [] (wC g tr) (some (.int (if (if nI q < CHR n (vC n q dn g) then nI q else CHR n (vC n q dn g)) = 0 then -9 else (ilt (nI q).toInt64 (if nI q < CHR n (vC n q dn g) then nI q else CHR n (vC n q dn g)).toInt64 0).toInt32))) (wC g tr) := by
  have hb := hc.b
  refine Ev.sn e_X8_turnsOfAll 7 (i' := 7) (ls' := [_, _, _]) (st' := [_]) rfl ?_
  refine Ev.clV e_X8_turnsOfAll rfl rfl (as := []) rfl rfl rfl kl_X2_chairs rfl rfl rfl (c_X2_chairs _ _ _ hc) rfl ?_
  refine Ev.sn e_X8_turnsOfAll 1 (i' := 9) (ls' := [_, _, _]) (st' := [_, _]) rfl ?_
  refine Ev.clS e_X8_turnsOfAll rfl rfl rfl (as := [_, _]) rfl rfl rfl rfl rfl (by rw [hc.hq]; exact c_J9_min_7cf53 _ _ _ _) rfl ?_
  refine Ev.sn e_X8_turnsOfAll 2 (i' := 12) (ls' := [_, _, _]) (st' := [_]) rfl ?_
  refine Ev.br (i1 := 13) (i2 := 15) e_X8_turnsOfAll rfl rfl (fun h0 => ?_) (fun h0 => ?_)
  · refine Ev.sn e_X8_turnsOfAll 1 (i' := 14) (ls' := [_, _, _]) (st' := [_]) rfl ?_
    refine Ev.iret e_X8_turnsOfAll rfl rfl rfl ?_ rfl
    rw [if_pos h0]
  · refine Ev.sn e_X8_turnsOfAll 5 (i' := 20) (ls' := [_, _, _]) (st' := [_, _, _]) rfl ?_
    refine Ev.clS e_X8_turnsOfAll rfl rfl rfl (as := [_, _, _]) rfl rfl rfl rfl rfl (by rw [hc.hq]; exact c_X8_inLowestTerms _ _ _ _ _) rfl ?_
    refine Ev.sn e_X8_turnsOfAll 1 (i' := 22) (ls' := [_, _, _]) (st' := [_]) rfl ?_
    refine Ev.iret e_X8_turnsOfAll rfl rfl rfl ?_ rfl
    rw [if_neg h0]
set_option maxRecDepth 20000 in
set_option maxHeartbeats 200000 in
theorem c_X8_share_b (d : Nat) (g : Nat → Nat → Int32) (tr : Int64) {n q dn : Nat} (hc : CI n q dn g) (p x : Int32) (h : ((decide (0 ≤ p) && decide (p < nI q)) && (decide (1 ≤ x) && decide (x ≤ 999))) = false) : Ev (d + 2) 98 0 [.ref 0, .int p, .int x, .null, .null, .null, .null] [] (wC g tr) (some (.int (-1))) (wC g tr) := by
  have hb := hc.b
  refine Ev.sn e_X8_share 3 (i' := 3) (ls' := [_, _, _, _, _, _, _]) (st' := [_, _]) rfl ?_
  refine Ev.clV e_X8_share rfl rfl (as := [_]) rfl rfl rfl kl_X2_hasPerson rfl rfl rfl (c_X2_hasPerson _ _ _ hc _) rfl ?_
  refine Ev.brB (i1 := 11) (i2 := 5) e_X8_share rfl rfl (fun h0 => ?_) (fun h0 => ?_)
  · refine Ev.sn e_X8_share 1 (i' := 12) (ls' := [_, _, _, _, _, _, _]) (st' := [_]) rfl ?_
    refine Ev.iret e_X8_share rfl rfl rfl ?_ rfl
    rfl
  · refine Ev.sn e_X8_share 2 (i' := 7) (ls' := [_, _, _, _, _, _, _]) (st' := [_, _]) rfl ?_
    refine Ev.br (i1 := 11) (i2 := 8) e_X8_share rfl rfl (fun h1 => ?_) (fun h1 => ?_)
    · refine Ev.sn e_X8_share 1 (i' := 12) (ls' := [_, _, _, _, _, _, _]) (st' := [_]) rfl ?_
      refine Ev.iret e_X8_share rfl rfl rfl ?_ rfl
      rfl
    · refine Ev.sn e_X8_share 2 (i' := 10) (ls' := [_, _, _, _, _, _, _]) (st' := [_, _]) rfl ?_
      refine Ev.br (i1 := 13) (i2 := 11) e_X8_share rfl rfl (fun h2 => ?_) (fun h2 => ?_)
      · exfalso
        rw [h0] at h
        simp [Int32.not_lt.mp h1, h2] at h
      · refine Ev.sn e_X8_share 1 (i' := 12) (ls' := [_, _, _, _, _, _, _]) (st' := [_]) rfl ?_
        refine Ev.iret e_X8_share rfl rfl rfl ?_ rfl
        rfl
set_option maxRecDepth 20000 in
set_option maxHeartbeats 200000 in
theorem c_X8_share_s (d : Nat) (g : Nat → Nat → Int32) (tr : Int64) {n q dn : Nat} (hc : CI n q dn g) {p : Nat} (hp : p < q) (x : Int32) (h : (decide (1 ≤ x) && decide (x ≤ 999)) = true) : Ev (d + 2) 98 0 [.ref 0, .int (nI p), .int x, .null, .null, .null, .null] [] (wC g tr) (some (.int (if HGA q (vC n q dn g) (COM q (vC n q dn g)) = 0 then 0 else (x.toInt64 * HGT (vC n q dn g) p (COM q (vC n q dn g)) / HGA q (vC n q dn g) (COM q (vC n q dn g))).toInt32))) (wC g tr) := by
  have hb := hc.b
  have hx : 1 ≤ x ∧ x ≤ 999 := by simpa using h
  refine Ev.sn e_X8_share 3 (i' := 3) (ls' := [_, _, _, _, _, _, _]) (st' := [_, _]) rfl ?_
  refine Ev.clV e_X8_share rfl rfl (as := [_]) rfl rfl rfl kl_X2_hasPerson rfl rfl rfl (c_X2_hasPerson _ _ _ hc _) rfl ?_
  refine Ev.brF (i1 := 11) (i2 := 5) e_X8_share rfl rfl (bF (g_ok hp (by omega))) ?_
  refine Ev.sn e_X8_share 2 (i' := 7) (ls' := [_, _, _, _, _, _, _]) (st' := [_, _]) rfl ?_
  refine Ev.brF (i1 := 11) (i2 := 8) e_X8_share rfl rfl (Int32.not_lt.mpr hx.1) ?_
  refine Ev.sn e_X8_share 2 (i' := 10) (ls' := [_, _, _, _, _, _, _]) (st' := [_, _]) rfl ?_
  refine Ev.brT (i1 := 13) (i2 := 11) e_X8_share rfl rfl (hx.2) ?_
  refine Ev.sn e_X8_share 2 (i' := 15) (ls' := [_, _, _, _, _, _, _]) (st' := [_]) rfl ?_
  refine Ev.clV e_X8_share rfl rfl (as := []) rfl rfl rfl kl_X2_commonScale rfl rfl rfl (c_X2_commonScale _ _ _ hc) rfl ?_
  refine Ev.sn e_X8_share 4 (i' := 20) (ls' := [_, _, _, _, _, _, _]) (st' := [_, _]) rfl ?_
  refine Ev.clV e_X8_share rfl rfl (as := [_]) rfl rfl rfl kl_X2_heightOfAll rfl rfl rfl (c_X2_heightOfAll _ _ _ hc _) rfl ?_
  refine Ev.sn e_X8_share 4 (i' := 25) (ls' := [_, _, _, _, _, _, _]) (st' := [_]) rfl ?_
  refine Ev.br (i1 := 26) (i2 := 28) e_X8_share rfl rfl (fun h0 => ?_) (fun h0 => ?_)
  · refine Ev.sn e_X8_share 1 (i' := 27) (ls' := [_, _, _, _, _, _, _]) (st' := [_]) rfl ?_
    refine Ev.iret e_X8_share rfl rfl rfl ?_ rfl
    rw [if_pos (lg_cmp_0.mp h0)]
  · refine Ev.sn e_X8_share 6 (i' := 34) (ls' := [_, _, _, _, _, _, _]) (st' := [_, _, _, _]) rfl ?_
    refine Ev.clV e_X8_share rfl rfl (as := [_, _]) rfl rfl rfl kl_X2_heightOf rfl rfl rfl (c_X2_heightOf _ _ _ hc hp _) rfl ?_
    refine Ev.sn e_X8_share 2 (i' := 37) (ls' := [_, _, _, _, _, _, _]) (st' := [_, _]) rfl ?_
    refine Ev.ldiv e_X8_share rfl rfl (fun e => h0 (lg_cmp_0.mpr e)) ?_
    refine Ev.sn e_X8_share 1 (i' := 39) (ls' := [_, _, _, _, _, _, _]) (st' := [_]) rfl ?_
    refine Ev.iret e_X8_share rfl rfl rfl ?_ rfl
    rw [if_neg (fun e => h0 (lg_cmp_0.mpr e))]
set_option maxRecDepth 20000 in
set_option maxHeartbeats 200000 in
theorem c_X8_odds_b (d : Nat) (g : Nat → Nat → Int32) (tr : Int64) {n q dn : Nat} (hc : CI n q dn g) (p k x : Int32) (h : ((decide (0 ≤ p) && decide (p ≤ 10)) && ((decide (0 ≤ k) && decide (k ≤ 6)) && (decide (x = 0) || decide (x = 1)))) = false) : Ev (d + 4) 99 0 [.ref 0, .int p, .int k, .int x, .null, .null, .null, .null] [] (wC g tr) (some (.int (-1))) (wC g tr) := by
  have hb := hc.b
  refine Ev.sn e_X8_odds 1 (i' := 1) (ls' := [_, _, _, _, _, _, _, _]) (st' := [_]) rfl ?_
  refine Ev.br (i1 := 13) (i2 := 2) e_X8_odds rfl rfl (fun h0 => ?_) (fun h0 => ?_)
  · refine Ev.sn e_X8_odds 1 (i' := 14) (ls' := [_, _, _, _, _, _, _, _]) (st' := [_]) rfl ?_
    refine Ev.iret e_X8_odds rfl rfl rfl ?_ rfl
    rfl
  · refine Ev.sn e_X8_odds 2 (i' := 4) (ls' := [_, _, _, _, _, _, _, _]) (st' := [_, _]) rfl ?_
    refine Ev.br (i1 := 13) (i2 := 5) e_X8_odds rfl rfl (fun h1 => ?_) (fun h1 => ?_)
    · refine Ev.sn e_X8_odds 1 (i' := 14) (ls' := [_, _, _, _, _, _, _, _]) (st' := [_]) rfl ?_
      refine Ev.iret e_X8_odds rfl rfl rfl ?_ rfl
      rfl
    · refine Ev.sn e_X8_odds 1 (i' := 6) (ls' := [_, _, _, _, _, _, _, _]) (st' := [_]) rfl ?_
      refine Ev.br (i1 := 13) (i2 := 7) e_X8_odds rfl rfl (fun h2 => ?_) (fun h2 => ?_)
      · refine Ev.sn e_X8_odds 1 (i' := 14) (ls' := [_, _, _, _, _, _, _, _]) (st' := [_]) rfl ?_
        refine Ev.iret e_X8_odds rfl rfl rfl ?_ rfl
        rfl
      · refine Ev.sn e_X8_odds 2 (i' := 9) (ls' := [_, _, _, _, _, _, _, _]) (st' := [_, _]) rfl ?_
        refine Ev.br (i1 := 13) (i2 := 10) e_X8_odds rfl rfl (fun h3 => ?_) (fun h3 => ?_)
        · refine Ev.sn e_X8_odds 1 (i' := 14) (ls' := [_, _, _, _, _, _, _, _]) (st' := [_]) rfl ?_
          refine Ev.iret e_X8_odds rfl rfl rfl ?_ rfl
          rfl
        · refine Ev.sn e_X8_odds 1 (i' := 11) (ls' := [_, _, _, _, _, _, _, _]) (st' := [_]) rfl ?_
          refine Ev.clS e_X8_odds rfl rfl rfl (as := [_]) rfl rfl rfl rfl rfl (c_X8_isFirstOrSecond _ _ _) rfl ?_
          refine Ev.brB (i1 := 13) (i2 := 15) e_X8_odds rfl rfl (fun h4 => ?_) (fun h4 => ?_)
          · refine Ev.sn e_X8_odds 1 (i' := 14) (ls' := [_, _, _, _, _, _, _, _]) (st' := [_]) rfl ?_
            refine Ev.iret e_X8_odds rfl rfl rfl ?_ rfl
            rfl
          · exfalso
            rw [h4] at h
            simp [Int32.not_lt.mp h0, Int32.not_lt.mp h1, Int32.not_lt.mp h2, Int32.not_lt.mp h3] at h
def stOD (p : Int32) (hN : Nat) (s : Nat) (a : Int64) : Int64 := a + wyI (nI hN) s * pwI p s * pwI (10 - p) (hN - s)
def ODU (p : Int32) (hN kN : Nat) : Int64 := fo (stOD p hN) (min hN kN + 1) 0 0
def S_odds (p : Int32) (hN kN : Nat) (x : Int32) : Int32 := (ilt (ODU p hN kN) (pwI 10 hN) x).toInt32
set_option maxRecDepth 20000 in
set_option maxHeartbeats 200000 in
theorem lp_X8_odds (d : Nat) (g : Nat → Nat → Int32) (tr : Int64) (p x : Int32) {hN kN : Nat} (hh : hN ≤ 6) (hk : kN ≤ 6) : ∀ (j s : Nat) (a : Int64), s + j = min hN kN + 1 → Ev (d + 4) 99 24 [.ref 0, .int p, .int (nI kN), .int x, .int (nI hN), .long a, .null, .int (nI s)] [] (wC g tr) (some (.int ((ilt (fo (stOD p hN) j s a) (pwI 10 hN) x).toInt32))) (wC g tr) := by
  intro j
  induction j with
  | zero =>
    intro s a hs
    refine Ev.sn e_X8_odds 2 (i' := 26) (ls' := [_, _, _, _, _, _, _, _]) (st' := [_, _]) rfl ?_
    refine Ev.br (i1 := 50) (i2 := 27) e_X8_odds rfl rfl (fun hy => ?_) (fun hy => ?_)
    · refine Ev.sn e_X8_odds 3 (i' := 53) (ls' := [_, _, _, _, _, _, _, _]) (st' := [_, _, _]) rfl ?_
      refine Ev.clS e_X8_odds rfl rfl rfl (as := [_, _]) rfl rfl rfl rfl rfl (c_X8_power _ _ 10 hN (by omega)) rfl ?_
      refine Ev.sn e_X8_odds 1 (i' := 55) (ls' := [_, _, _, _, _, _, _, _]) (st' := [_, _, _]) rfl ?_
      refine Ev.clS e_X8_odds rfl rfl rfl (as := [_, _, _]) rfl rfl rfl rfl rfl (c_X8_inLowestTerms _ _ _ _ _) rfl ?_
      refine Ev.sn e_X8_odds 1 (i' := 57) (ls' := [_, _, _, _, _, _, _, _]) (st' := [_]) rfl ?_
      refine Ev.iret e_X8_odds rfl rfl rfl ?_ rfl
      rfl
    · refine Ev.sn e_X8_odds 2 (i' := 29) (ls' := [_, _, _, _, _, _, _, _]) (st' := [_, _]) rfl ?_
      refine Ev.brT (i1 := 50) (i2 := 30) e_X8_odds rfl rfl ((by
          have := nI_ltI (a := hN) (b := s) (by omega) (by omega)
          exact nI_lt (by have h9 := mt this.mpr hy; omega) (by omega))) ?_
      refine Ev.sn e_X8_odds 3 (i' := 53) (ls' := [_, _, _, _, _, _, _, _]) (st' := [_, _, _]) rfl ?_
      refine Ev.clS e_X8_odds rfl rfl rfl (as := [_, _]) rfl rfl rfl rfl rfl (c_X8_power _ _ 10 hN (by omega)) rfl ?_
      refine Ev.sn e_X8_odds 1 (i' := 55) (ls' := [_, _, _, _, _, _, _, _]) (st' := [_, _, _]) rfl ?_
      refine Ev.clS e_X8_odds rfl rfl rfl (as := [_, _, _]) rfl rfl rfl rfl rfl (c_X8_inLowestTerms _ _ _ _ _) rfl ?_
      refine Ev.sn e_X8_odds 1 (i' := 57) (ls' := [_, _, _, _, _, _, _, _]) (st' := [_]) rfl ?_
      refine Ev.iret e_X8_odds rfl rfl rfl ?_ rfl
      rfl
  | succ j ih =>
    intro s a hs
    rw [fo_s (k := j)]
    refine Ev.sn e_X8_odds 2 (i' := 26) (ls' := [_, _, _, _, _, _, _, _]) (st' := [_, _]) rfl ?_
    refine Ev.brF (i1 := 50) (i2 := 27) e_X8_odds rfl rfl (nI_nlt (by omega) (by omega)) ?_
    refine Ev.sn e_X8_odds 2 (i' := 29) (ls' := [_, _, _, _, _, _, _, _]) (st' := [_, _]) rfl ?_
    refine Ev.brF (i1 := 50) (i2 := 30) e_X8_odds rfl rfl (nI_nlt (by omega) (by omega)) ?_
    refine Ev.sn e_X8_odds 3 (i' := 33) (ls' := [_, _, _, _, _, _, _, _]) (st' := [_, _, _]) rfl ?_
    refine Ev.clS e_X8_odds rfl rfl rfl (as := [_, _]) rfl rfl rfl rfl rfl (c_X8_waysToChoose _ _ _ s (by omega)) rfl ?_
    refine Ev.sn e_X8_odds 2 (i' := 36) (ls' := [_, _, _, _, _, _, _, _]) (st' := [_, _, _, _]) rfl ?_
    refine Ev.clS e_X8_odds rfl rfl rfl (as := [_, _]) rfl rfl rfl rfl rfl (c_X8_power _ _ _ s (by omega)) rfl ?_
    refine Ev.sn e_X8_odds 7 (i' := 44) (ls' := [_, _, _, _, _, _, _, _]) (st' := [_, _, _, _]) rfl ?_
    refine Ev.clS e_X8_odds rfl rfl rfl (as := [_, _]) rfl rfl rfl rfl rfl (by rw [pk_sub (show s ≤ hN by omega)]; exact c_X8_power _ _ _ (hN - s) (by omega)) rfl ?_
    refine Ev.sn e_X8_odds 5 (i' := 24) (ls' := [_, _, _, _, _, _, _, _]) (st' := []) rfl ?_
    rw [nI_1]
    exact ih (s + 1) _ (by omega)
set_option maxRecDepth 20000 in
set_option maxHeartbeats 200000 in
theorem c_X8_odds_s (d : Nat) (g : Nat → Nat → Int32) (tr : Int64) {n q dn : Nat} (hc : CI n q dn g) {p : Int32} {kN hN : Nat} (x : Int32) (hp : 0 ≤ p ∧ p ≤ 10) (hk : kN ≤ 6) (hh : hN ≤ 6) (hx : (decide (x = 0) || decide (x = 1)) = true) (hu : bcI (ULS n q (vC n q dn g)) = nI hN) : Ev (d + 4) 99 0 [.ref 0, .int p, .int (nI kN), .int x, .null, .null, .null, .null] [] (wC g tr) (some (.int (S_odds p hN kN x))) (wC g tr) := by
  have hb := hc.b
  refine Ev.sn e_X8_odds 1 (i' := 1) (ls' := [_, _, _, _, _, _, _, _]) (st' := [_]) rfl ?_
  refine Ev.brF (i1 := 13) (i2 := 2) e_X8_odds rfl rfl (Int32.not_lt.mpr hp.1) ?_
  refine Ev.sn e_X8_odds 2 (i' := 4) (ls' := [_, _, _, _, _, _, _, _]) (st' := [_, _]) rfl ?_
  refine Ev.brF (i1 := 13) (i2 := 5) e_X8_odds rfl rfl (Int32.not_lt.mpr hp.2) ?_
  refine Ev.sn e_X8_odds 1 (i' := 6) (ls' := [_, _, _, _, _, _, _, _]) (st' := [_]) rfl ?_
  refine Ev.brF (i1 := 13) (i2 := 7) e_X8_odds rfl rfl (nI_nlt (b := 0) (by omega) (by omega)) ?_
  refine Ev.sn e_X8_odds 2 (i' := 9) (ls' := [_, _, _, _, _, _, _, _]) (st' := [_, _]) rfl ?_
  refine Ev.brF (i1 := 13) (i2 := 10) e_X8_odds rfl rfl (nI_nlt (a := 6) (by omega) (by omega)) ?_
  refine Ev.sn e_X8_odds 1 (i' := 11) (ls' := [_, _, _, _, _, _, _, _]) (st' := [_]) rfl ?_
  refine Ev.clS e_X8_odds rfl rfl rfl (as := [_]) rfl rfl rfl rfl rfl (c_X8_isFirstOrSecond _ _ _) rfl ?_
  refine Ev.brF (i1 := 13) (i2 := 15) e_X8_odds rfl rfl (bF hx) ?_
  refine Ev.sn e_X8_odds 2 (i' := 17) (ls' := [_, _, _, _, _, _, _, _]) (st' := [_]) rfl ?_
  refine Ev.clV e_X8_odds rfl rfl (as := []) rfl rfl rfl kl_X2_useless rfl rfl rfl (c_X2_useless _ _ _ hc) rfl ?_
  refine Ev.clS e_X8_odds rfl rfl rfl (as := [_]) rfl rfl rfl rfl rfl (c_J6_bitCount_0f7a4 _ _ _) rfl ?_
  refine Ev.sn e_X8_odds 5 (i' := 24) (ls' := [_, _, _, _, _, _, _, _]) (st' := []) rfl ?_
  rw [hu]
  exact lp_X8_odds _ _ _ _ _ hh hk (min hN kN + 1) 0 0 (by omega)
