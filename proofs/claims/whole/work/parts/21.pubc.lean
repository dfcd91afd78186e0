/-! the class's public questions, and the reference's -/
theorem ixB {x : Int32} {n : Nat} (hn : n < 2000) (h : (decide (0 ≤ x) && decide (x < nI n)) = true) : ∃ j, j < n ∧ x = nI j := by
  simp only [Bool.and_eq_true, decide_eq_true_eq] at h
  exact ix_of rfl hn (Int32.not_lt.mpr h.1) (Int32.not_le.mpr h.2)
theorem rngB {x : Int32} {k : Nat} (hk : k < 2000) : (decide (0 ≤ x) && decide (x ≤ nI k)) = true ↔ ∃ j, j ≤ k ∧ x = nI j := by
  simp only [Bool.and_eq_true, decide_eq_true_eq]
  constructor
  · intro h
    obtain ⟨j, h1, h2⟩ := nI_of2 (n := k) (nI_toInt (by omega)) (Int32.not_lt.mpr h.1) h.2
    exact ⟨j, h1, h2⟩
  · rintro ⟨j, h1, rfl⟩
    exact ⟨nI_pos' (by omega), nI_le h1 (by omega)⟩
/-! class Text: its length -/
set_option maxRecDepth 20000 in
set_option maxHeartbeats 200000 in
theorem c_X6_sizeX (d a b : Nat) (g : Nat → Nat → Int32) (tr : Int64) : Ev d 45 0 [.ref 1] [] (wX a b g tr) (some (.int (g 0 0))) (wX a b g tr) := by
  refine Ev.sn e_X6_size 2 (i' := 2) (ls' := [_]) (st' := [_]) rfl ?_
  refine Ev.iret e_X6_size rfl rfl rfl ?_ rfl
  rfl
set_option maxRecDepth 20000 in
set_option maxHeartbeats 200000 in
theorem c_X6_itemsRead (d a b : Nat) (g : Nat → Nat → Int32) (tr : Int64) : Ev d 50 0 [.ref 1] [] (wX a b g tr) (some (.int (g 0 6))) (wX a b g tr) := by
  refine Ev.sn e_X6_itemsRead 2 (i' := 2) (ls' := [_]) (st' := [_]) rfl ?_
  refine Ev.iret e_X6_itemsRead rfl rfl rfl ?_ rfl
  rfl
set_option maxRecDepth 20000 in
set_option maxHeartbeats 200000 in
theorem c_X6_loseAll (d a b : Nat) (g : Nat → Nat → Int32) (tr : Int64) : Ev d 48 0 [.ref 1] [] (wX a b g tr) none (wX a b (va_up g 0 (upd (g 0) 0 0)) tr) := by
  refine Ev.sn e_X6_loseAll 2 (i' := 2) (ls' := [_]) (st' := [_, _]) rfl ?_
  refine Ev.put e_X6_loseAll rfl rfl rfl rfl rfl rfl (w1 := (wX a b (va_up g 0 (upd (g 0) 0 0)) tr)) rfl ?_
  exact Ev.vret e_X6_loseAll rfl rfl rfl
theorem c_X6_size (d : Nat) (g : Nat → Nat → Int32) (tr : Int64) : Ev d 45 0 [.ref 1] [] (wC g tr) (some (.int (g 0 0))) (wC g tr) := c_X6_sizeX d 3 17 g tr
def S_use (v : VW) (u x : Int32) : Int32 := if (decide (0 ≤ u) && decide (u < 3)) = true then (if x = 0 then v 6 u.toNatClampNeg else if x = 1 then v 7 u.toNatClampNeg else -1) else -1
def S_thing (n q : Nat) (v : VW) (t x : Int32) : Int32 := if (decide (0 ≤ t) && decide (t < nI n)) = true then (if x = 0 then v 0 t.toNatClampNeg else if x = 1 then v 1 t.toNatClampNeg else if x = 2 then v 2 t.toNatClampNeg else if x = 3 then v 3 t.toNatClampNeg else if x = 4 then v 12 t.toNatClampNeg else if x = 5 then PIF q v t.toNatClampNeg else -1) else -1
def S_person (n q : Nat) (v : VW) (p x : Int32) : Int32 := if (decide (0 ≤ p) && decide (p < nI q)) = true then (if x = 0 then v 4 p.toNatClampNeg else if x = 1 then v 5 p.toNatClampNeg else if x = 2 then TOF n v p else if x = 3 then SMT q v p.toNatClampNeg else -1) else -1
def S_door (dn : Nat) (v : VW) (p x : Int32) : Int32 := if (decide (0 ≤ p) && decide (p < nI dn)) = true then (if x = 0 then v 8 p.toNatClampNeg else if x = 1 then v 9 p.toNatClampNeg else if x = 2 then v 10 p.toNatClampNeg else if x = 3 then v 11 p.toNatClampNeg else -1) else -1
def S_now (n q : Nat) (v : VW) (k x : Int32) : Int32 := if x = 0 then ULS n q v else if x = 1 then BAR n q v 0 else if x = 2 then BAR n q v 1 else if x = 3 then BAR n q v 2 else if x = 4 then OWN n v else if x = 5 then k else -1
def S_count (n q dn : Nat) (k l x : Int32) : Int32 := if x = 0 then nI n else if x = 1 then nI q else if x = 2 then nI dn else if x = 3 then k else if x = 4 then l else -1
set_option maxRecDepth 20000 in
set_option maxHeartbeats 200000 in
theorem c_X8_use (d : Nat) (g : Nat → Nat → Int32) (tr : Int64) {n q dn : Nat} (hc : CI n q dn g) (u x : Int32) : Ev (d + 1) 77 0 [.ref 0, .int u, .int x] [] (wC g tr) (some (.int (S_use (vC n q dn g) u x))) (wC g tr) := by
  have hb := hc.b
  refine Ev.sn e_X8_use 1 (i' := 1) (ls' := [_, _, _]) (st' := [_]) rfl ?_
  refine Ev.clS e_X8_use rfl rfl rfl (as := [_]) rfl rfl rfl rfl rfl (c_X8_isUse _ _ _) rfl ?_
  refine Ev.brB (i1 := 3) (i2 := 5) e_X8_use rfl rfl (fun h0 => ?_) (fun h0 => ?_)
  · refine Ev.sn e_X8_use 1 (i' := 4) (ls' := [_, _, _]) (st' := [_]) rfl ?_
    refine Ev.iret e_X8_use rfl rfl rfl ?_ rfl
    simp [S_use, h0]
  · obtain ⟨j, hj, rfl⟩ := ixB (n := 3) (by omega) h0
    have hv6 : (vC n q dn g) 6 j = g 30 j := cut_lt hj
    have hv7 : (vC n q dn g) 7 j = g 31 j := cut_lt hj
    refine Ev.sn e_X8_use 1 (i' := 6) (ls' := [_, _, _]) (st' := [_]) rfl ?_
    by_cases s1 : x = 0
    · refine Ev.swi (t := 7) (ls' := [_, _, _]) (st' := []) e_X8_use rfl rfl (by rw [s1]; rfl) ?_
      refine Ev.sn e_X8_use 5 (i' := 12) (ls' := [_, _, _]) (st' := [_, _]) rfl ?_
      refine Ev.ialdE e_X8_use rfl rfl rfl rfl rfl (by omega) ?_
      refine Ev.iret e_X8_use rfl rfl rfl ?_ rfl
      simp [S_use, nI_clamp (show j < 2 ^ 31 by omega), hv6, h0, s1]
    by_cases s2 : x = 1
    · refine Ev.swi (t := 14) (ls' := [_, _, _]) (st' := []) e_X8_use rfl rfl (by rw [s2]; rfl) ?_
      refine Ev.sn e_X8_use 5 (i' := 19) (ls' := [_, _, _]) (st' := [_, _]) rfl ?_
      refine Ev.ialdE e_X8_use rfl rfl rfl rfl rfl (by omega) ?_
      refine Ev.iret e_X8_use rfl rfl rfl ?_ rfl
      simp [S_use, nI_clamp (show j < 2 ^ 31 by omega), hv7, h0, s1, s2]
    refine Ev.swi (t := 21) (ls' := [_, _, _]) (st' := []) e_X8_use rfl rfl (by simp [swl, h0, s1, s2]) ?_
    refine Ev.sn e_X8_use 1 (i' := 22) (ls' := [_, _, _]) (st' := [_]) rfl ?_
    refine Ev.iret e_X8_use rfl rfl rfl ?_ rfl
    simp [S_use, h0, s1, s2]
set_option maxRecDepth 20000 in
set_option maxHeartbeats 200000 in
theorem c_X8_thing (d : Nat) (g : Nat → Nat → Int32) (tr : Int64) {n q dn : Nat} (hc : CI n q dn g) (t x : Int32) : Ev (d + 3) 78 0 [.ref 0, .int t, .int x] [] (wC g tr) (some (.int (S_thing n q (vC n q dn g) t x))) (wC g tr) := by
  have hb := hc.b
  refine Ev.sn e_X8_thing 3 (i' := 3) (ls' := [_, _, _]) (st' := [_, _]) rfl ?_
  refine Ev.clV e_X8_thing rfl rfl (as := [_]) rfl rfl rfl kl_X2_hasThing rfl rfl rfl (c_X2_hasThing _ _ _ hc _) rfl ?_
  refine Ev.brB (i1 := 5) (i2 := 7) e_X8_thing rfl rfl (fun h0 => ?_) (fun h0 => ?_)
  · refine Ev.sn e_X8_thing 1 (i' := 6) (ls' := [_, _, _]) (st' := [_]) rfl ?_
    refine Ev.iret e_X8_thing rfl rfl rfl ?_ rfl
    simp [S_thing, h0]
  · obtain ⟨j, hj, rfl⟩ := ixB (n := n) (by omega) h0
    have hcl : (nI j).toNatClampNeg = j := nI_clamp (by omega)
    have hv0 : (vC n q dn g) 0 j = g 32 j := cut_lt hj
    have hv1 : (vC n q dn g) 1 j = g 51 j := cut_lt hj
    have hv2 : (vC n q dn g) 2 j = g 34 j := cut_lt hj
    have hv3 : (vC n q dn g) 3 j = g 35 j := cut_lt hj
    have hv12 : (vC n q dn g) 12 j = g 50 j := cut_lt hj
    refine Ev.sn e_X8_thing 1 (i' := 8) (ls' := [_, _, _]) (st' := [_]) rfl ?_
    by_cases s1 : x = 0
    · refine Ev.swi (t := 9) (ls' := [_, _, _]) (st' := []) e_X8_thing rfl rfl (by rw [s1]; rfl) ?_
      refine Ev.sn e_X8_thing 5 (i' := 14) (ls' := [_, _, _]) (st' := [_, _]) rfl ?_
      refine Ev.ialdE e_X8_thing rfl rfl rfl rfl rfl (by omega) ?_
      refine Ev.iret e_X8_thing rfl rfl rfl ?_ rfl
      simp [S_thing, hcl, hv0, h0, s1]
    by_cases s2 : x = 1
    · refine Ev.swi (t := 16) (ls' := [_, _, _]) (st' := []) e_X8_thing rfl rfl (by rw [s2]; rfl) ?_
      refine Ev.sn e_X8_thing 5 (i' := 21) (ls' := [_, _, _]) (st' := [_, _]) rfl ?_
      refine Ev.ialdE e_X8_thing rfl rfl rfl rfl rfl (by omega) ?_
      refine Ev.iret e_X8_thing rfl rfl rfl ?_ rfl
      simp [S_thing, hcl, hv1, h0, s1, s2]
    by_cases s3 : x = 2
    · refine Ev.swi (t := 23) (ls' := [_, _, _]) (st' := []) e_X8_thing rfl rfl (by rw [s3]; rfl) ?_
      refine Ev.sn e_X8_thing 5 (i' := 28) (ls' := [_, _, _]) (st' := [_, _]) rfl ?_
      refine Ev.ialdE e_X8_thing rfl rfl rfl rfl rfl (by omega) ?_
      refine Ev.iret e_X8_thing rfl rfl rfl ?_ rfl
      simp [S_thing, hcl, hv2, h0, s1, s2, s3]
    by_cases s4 : x = 3
    · refine Ev.swi (t := 30) (ls' := [_, _, _]) (st' := []) e_X8_thing rfl rfl (by rw [s4]; rfl) ?_
      refine Ev.sn e_X8_thing 5 (i' := 35) (ls' := [_, _, _]) (st' := [_, _]) rfl ?_
      refine Ev.ialdE e_X8_thing rfl rfl rfl rfl rfl (by omega) ?_
      refine Ev.iret e_X8_thing rfl rfl rfl ?_ rfl
      simp [S_thing, hcl, hv3, h0, s1, s2, s3, s4]
    by_cases s5 : x = 4
    · refine Ev.swi (t := 37) (ls' := [_, _, _]) (st' := []) e_X8_thing rfl rfl (by rw [s5]; rfl) ?_
      refine Ev.sn e_X8_thing 5 (i' := 42) (ls' := [_, _, _]) (st' := [_, _]) rfl ?_
      refine Ev.ialdE e_X8_thing rfl rfl rfl rfl rfl (by omega) ?_
      refine Ev.iret e_X8_thing rfl rfl rfl ?_ rfl
      simp [S_thing, hcl, hv12, h0, s1, s2, s3, s4, s5]
    by_cases s6 : x = 5
    · refine Ev.swi (t := 44) (ls' := [_, _, _]) (st' := []) e_X8_thing rfl rfl (by rw [s6]; rfl) ?_
      refine Ev.sn e_X8_thing 3 (i' := 47) (ls' := [_, _, _]) (st' := [_, _]) rfl ?_
      refine Ev.clV e_X8_thing rfl rfl (as := [_]) rfl rfl rfl kl_X2_peopleItFits rfl rfl rfl (c_X2_peopleItFits _ _ _ hc hj) rfl ?_
      refine Ev.iret e_X8_thing rfl rfl rfl ?_ rfl
      simp [S_thing, hcl, h0, s1, s2, s3, s4, s5, s6]
    refine Ev.swi (t := 49) (ls' := [_, _, _]) (st' := []) e_X8_thing rfl rfl (by simp [swl, h0, s1, s2, s3, s4, s5, s6]) ?_
    refine Ev.sn e_X8_thing 1 (i' := 50) (ls' := [_, _, _]) (st' := [_]) rfl ?_
    refine Ev.iret e_X8_thing rfl rfl rfl ?_ rfl
    simp [S_thing, h0, s1, s2, s3, s4, s5, s6]
set_option maxRecDepth 20000 in
set_option maxHeartbeats 200000 in
theorem c_X8_person (d : Nat) (g : Nat → Nat → Int32) (tr : Int64) {n q dn : Nat} (hc : CI n q dn g) (t x : Int32) : Ev (d + 1) 79 0 [.ref 0, .int t, .int x] [] (wC g tr) (some (.int (S_person n q (vC n q dn g) t x))) (wC g tr) := by
  have hb := hc.b
  refine Ev.sn e_X8_person 3 (i' := 3) (ls' := [_, _, _]) (st' := [_, _]) rfl ?_
  refine Ev.clV e_X8_person rfl rfl (as := [_]) rfl rfl rfl kl_X2_hasPerson rfl rfl rfl (c_X2_hasPerson _ _ _ hc _) rfl ?_
  refine Ev.brB (i1 := 5) (i2 := 7) e_X8_person rfl rfl (fun h0 => ?_) (fun h0 => ?_)
  · refine Ev.sn e_X8_person 1 (i' := 6) (ls' := [_, _, _]) (st' := [_]) rfl ?_
    refine Ev.iret e_X8_person rfl rfl rfl ?_ rfl
    simp [S_person, h0]
  · obtain ⟨j, hj, rfl⟩ := ixB (n := q) (by omega) h0
    have hcl : (nI j).toNatClampNeg = j := nI_clamp (by omega)
    have hv4 : (vC n q dn g) 4 j = g 52 j := cut_lt hj
    have hv5 : (vC n q dn g) 5 j = g 37 j := cut_lt hj
    refine Ev.sn e_X8_person 1 (i' := 8) (ls' := [_, _, _]) (st' := [_]) rfl ?_
    by_cases s1 : x = 0
    · refine Ev.swi (t := 9) (ls' := [_, _, _]) (st' := []) e_X8_person rfl rfl (by rw [s1]; rfl) ?_
      refine Ev.sn e_X8_person 5 (i' := 14) (ls' := [_, _, _]) (st' := [_, _]) rfl ?_
      refine Ev.ialdE e_X8_person rfl rfl rfl rfl rfl (by omega) ?_
      refine Ev.iret e_X8_person rfl rfl rfl ?_ rfl
      simp [S_person, hcl, hv4, h0, s1]
    by_cases s2 : x = 1
    · refine Ev.swi (t := 16) (ls' := [_, _, _]) (st' := []) e_X8_person rfl rfl (by rw [s2]; rfl) ?_
      refine Ev.sn e_X8_person 5 (i' := 21) (ls' := [_, _, _]) (st' := [_, _]) rfl ?_
      refine Ev.ialdE e_X8_person rfl rfl rfl rfl rfl (by omega) ?_
      refine Ev.iret e_X8_person rfl rfl rfl ?_ rfl
      simp [S_person, hcl, hv5, h0, s1, s2]
    by_cases s3 : x = 2
    · refine Ev.swi (t := 23) (ls' := [_, _, _]) (st' := []) e_X8_person rfl rfl (by rw [s3]; rfl) ?_
      refine Ev.sn e_X8_person 3 (i' := 26) (ls' := [_, _, _]) (st' := [_, _]) rfl ?_
      refine Ev.clV e_X8_person rfl rfl (as := [_]) rfl rfl rfl kl_X2_thingsOf rfl rfl rfl (c_X2_thingsOf _ _ _ hc _) rfl ?_
      refine Ev.iret e_X8_person rfl rfl rfl ?_ rfl
      simp [S_person, hcl, h0, s1, s2, s3]
    by_cases s4 : x = 3
    · refine Ev.swi (t := 28) (ls' := [_, _, _]) (st' := []) e_X8_person rfl rfl (by rw [s4]; rfl) ?_
      refine Ev.sn e_X8_person 3 (i' := 31) (ls' := [_, _, _]) (st' := [_, _]) rfl ?_
      refine Ev.clV e_X8_person rfl rfl (as := [_]) rfl rfl rfl kl_X2_smallerThan rfl rfl rfl (c_X2_smallerThan _ _ _ hc hj) rfl ?_
      refine Ev.iret e_X8_person rfl rfl rfl ?_ rfl
      simp [S_person, hcl, h0, s1, s2, s3, s4]
    refine Ev.swi (t := 33) (ls' := [_, _, _]) (st' := []) e_X8_person rfl rfl (by simp [swl, h0, s1, s2, s3, s4]) ?_
    refine Ev.sn e_X8_person 1 (i' := 34) (ls' := [_, _, _]) (st' := [_]) rfl ?_
    refine Ev.iret e_X8_person rfl rfl rfl ?_ rfl
    simp [S_person, h0, s1, s2, s3, s4]
set_option maxRecDepth 20000 in
set_option maxHeartbeats 200000 in
theorem c_X8_door (d : Nat) (g : Nat → Nat → Int32) (tr : Int64) {n q dn : Nat} (hc : CI n q dn g) (t x : Int32) : Ev d 80 0 [.ref 0, .int t, .int x] [] (wC g tr) (some (.int (S_door dn (vC n q dn g) t x))) (wC g tr) := by
  have hb := hc.b
  refine Ev.sn e_X8_door 1 (i' := 1) (ls' := [_, _, _]) (st' := [_]) rfl ?_
  refine Ev.br (i1 := 8) (i2 := 2) e_X8_door rfl rfl (fun h0 => ?_) (fun h0 => ?_)
  · refine Ev.sn e_X8_door 1 (i' := 9) (ls' := [_, _, _]) (st' := [_]) rfl ?_
    refine Ev.iret e_X8_door rfl rfl rfl ?_ rfl
    simp [S_door, Int32.not_le.mpr h0]
  · refine Ev.sn e_X8_door 5 (i' := 7) (ls' := [_, _, _]) (st' := [_, _]) rfl ?_
    refine Ev.br (i1 := 10) (i2 := 8) e_X8_door rfl rfl (fun h1 => ?_) (fun h1 => ?_)
    · rw [hc.hd] at h1
      obtain ⟨j, hj, rfl⟩ := ix_of (n := dn) rfl (by omega) h0 (Int32.not_le.mpr h1)
      have hcl : (nI j).toNatClampNeg = j := nI_clamp (by omega)
      have hg : (decide (0 ≤ nI j) && decide (nI j < nI dn)) = true := by simp [Int32.not_lt.mp h0, h1]
      have hv8 : (vC n q dn g) 8 j = g 38 j := cut_lt hj
      have hv9 : (vC n q dn g) 9 j = g 39 j := cut_lt hj
      have hv10 : (vC n q dn g) 10 j = g 40 j := cut_lt hj
      have hv11 : (vC n q dn g) 11 j = g 41 j := cut_lt hj
      refine Ev.sn e_X8_door 1 (i' := 11) (ls' := [_, _, _]) (st' := [_]) rfl ?_
      by_cases s2 : x = 0
      · refine Ev.swi (t := 12) (ls' := [_, _, _]) (st' := []) e_X8_door rfl rfl (by rw [s2]; rfl) ?_
        refine Ev.sn e_X8_door 5 (i' := 17) (ls' := [_, _, _]) (st' := [_, _]) rfl ?_
        refine Ev.ialdE e_X8_door rfl rfl rfl rfl rfl (by omega) ?_
        refine Ev.iret e_X8_door rfl rfl rfl ?_ rfl
        simp only [S_door, hg, hcl, hv8, if_true]
        simp [s2]
      by_cases s3 : x = 1
      · refine Ev.swi (t := 19) (ls' := [_, _, _]) (st' := []) e_X8_door rfl rfl (by rw [s3]; rfl) ?_
        refine Ev.sn e_X8_door 5 (i' := 24) (ls' := [_, _, _]) (st' := [_, _]) rfl ?_
        refine Ev.ialdE e_X8_door rfl rfl rfl rfl rfl (by omega) ?_
        refine Ev.iret e_X8_door rfl rfl rfl ?_ rfl
        simp only [S_door, hg, hcl, hv9, if_true]
        simp [s2, s3]
      by_cases s4 : x = 2
      · refine Ev.swi (t := 26) (ls' := [_, _, _]) (st' := []) e_X8_door rfl rfl (by rw [s4]; rfl) ?_
        refine Ev.sn e_X8_door 5 (i' := 31) (ls' := [_, _, _]) (st' := [_, _]) rfl ?_
        refine Ev.ialdE e_X8_door rfl rfl rfl rfl rfl (by omega) ?_
        refine Ev.iret e_X8_door rfl rfl rfl ?_ rfl
        simp only [S_door, hg, hcl, hv10, if_true]
        simp [s2, s3, s4]
      by_cases s5 : x = 3
      · refine Ev.swi (t := 33) (ls' := [_, _, _]) (st' := []) e_X8_door rfl rfl (by rw [s5]; rfl) ?_
        refine Ev.sn e_X8_door 5 (i' := 38) (ls' := [_, _, _]) (st' := [_, _]) rfl ?_
        refine Ev.ialdE e_X8_door rfl rfl rfl rfl rfl (by omega) ?_
        refine Ev.iret e_X8_door rfl rfl rfl ?_ rfl
        simp only [S_door, hg, hcl, hv11, if_true]
        simp [s2, s3, s4, s5]
      refine Ev.swi (t := 40) (ls' := [_, _, _]) (st' := []) e_X8_door rfl rfl (by simp [swl, h0, h1, s2, s3, s4, s5]) ?_
      refine Ev.sn e_X8_door 1 (i' := 41) (ls' := [_, _, _]) (st' := [_]) rfl ?_
      refine Ev.iret e_X8_door rfl rfl rfl ?_ rfl
      simp only [S_door, hg, if_true]
      simp [s2, s3, s4, s5]
    · refine Ev.sn e_X8_door 1 (i' := 9) (ls' := [_, _, _]) (st' := [_]) rfl ?_
      refine Ev.iret e_X8_door rfl rfl rfl ?_ rfl
      rw [hc.hd] at h1
      simp [S_door, h1]
set_option maxRecDepth 20000 in
set_option maxHeartbeats 200000 in
theorem c_X8_now (d : Nat) (g : Nat → Nat → Int32) (tr : Int64) {n q dn : Nat} (hc : CI n q dn g) (x : Int32) : Ev (d + 4) 81 0 [.ref 0, .int x] [] (wC g tr) (some (.int (S_now n q (vC n q dn g) (g 90 1) x))) (wC g tr) := by
  have hb := hc.b
  refine Ev.sn e_X8_now 1 (i' := 1) (ls' := [_, _]) (st' := [_]) rfl ?_
  by_cases s0 : x = 0
  · refine Ev.swi (t := 2) (ls' := [_, _]) (st' := []) e_X8_now rfl rfl (by rw [s0]; rfl) ?_
    refine Ev.sn e_X8_now 2 (i' := 4) (ls' := [_, _]) (st' := [_]) rfl ?_
    refine Ev.clV e_X8_now rfl rfl (as := []) rfl rfl rfl kl_X2_useless rfl rfl rfl (c_X2_useless _ _ _ hc) rfl ?_
    refine Ev.iret e_X8_now rfl rfl rfl ?_ rfl
    simp [S_now, s0]
  by_cases s1 : x = 1
  · refine Ev.swi (t := 6) (ls' := [_, _]) (st' := []) e_X8_now rfl rfl (by rw [s1]; rfl) ?_
    refine Ev.sn e_X8_now 5 (i' := 11) (ls' := [_, _]) (st' := [_, _]) rfl ?_
    refine Ev.clV e_X8_now rfl rfl (as := [_]) rfl rfl rfl kl_X2_bareOf rfl rfl rfl (c_X2_bareOf _ _ _ hc _) rfl ?_
    refine Ev.iret e_X8_now rfl rfl rfl ?_ rfl
    subst s1
    rfl
  by_cases s2 : x = 2
  · refine Ev.swi (t := 6) (ls' := [_, _]) (st' := []) e_X8_now rfl rfl (by rw [s2]; rfl) ?_
    refine Ev.sn e_X8_now 5 (i' := 11) (ls' := [_, _]) (st' := [_, _]) rfl ?_
    refine Ev.clV e_X8_now rfl rfl (as := [_]) rfl rfl rfl kl_X2_bareOf rfl rfl rfl (c_X2_bareOf _ _ _ hc _) rfl ?_
    refine Ev.iret e_X8_now rfl rfl rfl ?_ rfl
    subst s2
    rfl
  by_cases s3 : x = 3
  · refine Ev.swi (t := 6) (ls' := [_, _]) (st' := []) e_X8_now rfl rfl (by rw [s3]; rfl) ?_
    refine Ev.sn e_X8_now 5 (i' := 11) (ls' := [_, _]) (st' := [_, _]) rfl ?_
    refine Ev.clV e_X8_now rfl rfl (as := [_]) rfl rfl rfl kl_X2_bareOf rfl rfl rfl (c_X2_bareOf _ _ _ hc _) rfl ?_
    refine Ev.iret e_X8_now rfl rfl rfl ?_ rfl
    subst s3
    rfl
  by_cases s4 : x = 4
  · refine Ev.swi (t := 13) (ls' := [_, _]) (st' := []) e_X8_now rfl rfl (by rw [s4]; rfl) ?_
    refine Ev.sn e_X8_now 2 (i' := 15) (ls' := [_, _]) (st' := [_]) rfl ?_
    refine Ev.clV e_X8_now rfl rfl (as := []) rfl rfl rfl kl_X2_ownedThings rfl rfl rfl (c_X2_ownedThings _ _ _ hc) rfl ?_
    refine Ev.iret e_X8_now rfl rfl rfl ?_ rfl
    simp [S_now, s0, s1, s2, s3, s4]
  by_cases s5 : x = 5
  · refine Ev.swi (t := 17) (ls' := [_, _]) (st' := []) e_X8_now rfl rfl (by rw [s5]; rfl) ?_
    refine Ev.sn e_X8_now 2 (i' := 19) (ls' := [_, _]) (st' := [_]) rfl ?_
    refine Ev.clV e_X8_now rfl rfl (as := []) rfl rfl rfl kl_X1_size rfl rfl rfl (c_X1_size _ _ _) rfl ?_
    refine Ev.iret e_X8_now rfl rfl rfl ?_ rfl
    simp [S_now, s0, s1, s2, s3, s4, s5]
  refine Ev.swi (t := 21) (ls' := [_, _]) (st' := []) e_X8_now rfl rfl (by simp [swl, s0, s1, s2, s3, s4, s5]) ?_
  refine Ev.sn e_X8_now 1 (i' := 22) (ls' := [_, _]) (st' := [_]) rfl ?_
  refine Ev.iret e_X8_now rfl rfl rfl ?_ rfl
  simp [S_now, s0, s1, s2, s3, s4, s5]
set_option maxRecDepth 20000 in
set_option maxHeartbeats 200000 in
theorem c_X8_count (d : Nat) (g : Nat → Nat → Int32) (tr : Int64) {n q dn : Nat} (hc : CI n q dn g) (x : Int32) : Ev (d + 1) 103 0 [.ref 0, .int x] [] (wC g tr) (some (.int (S_count n q dn (g 100 0) (g 0 0) x))) (wC g tr) := by
  have hb := hc.b
  refine Ev.sn e_X8_count 1 (i' := 1) (ls' := [_, _]) (st' := [_]) rfl ?_
  by_cases s0 : x = 0
  · refine Ev.swi (t := 2) (ls' := [_, _]) (st' := []) e_X8_count rfl rfl (by rw [s0]; rfl) ?_
    refine Ev.sn e_X8_count 4 (i' := 6) (ls' := [_, _]) (st' := [_]) rfl ?_
    refine Ev.iret e_X8_count rfl rfl rfl ?_ rfl
    simp [S_count, hc.hn, s0]
  by_cases s1 : x = 1
  · refine Ev.swi (t := 7) (ls' := [_, _]) (st' := []) e_X8_count rfl rfl (by rw [s1]; rfl) ?_
    refine Ev.sn e_X8_count 4 (i' := 11) (ls' := [_, _]) (st' := [_]) rfl ?_
    refine Ev.iret e_X8_count rfl rfl rfl ?_ rfl
    simp [S_count, hc.hq, s0, s1]
  by_cases s2 : x = 2
  · refine Ev.swi (t := 12) (ls' := [_, _]) (st' := []) e_X8_count rfl rfl (by rw [s2]; rfl) ?_
    refine Ev.sn e_X8_count 4 (i' := 16) (ls' := [_, _]) (st' := [_]) rfl ?_
    refine Ev.iret e_X8_count rfl rfl rfl ?_ rfl
    simp [S_count, hc.hd, s0, s1, s2]
  by_cases s3 : x = 3
  · refine Ev.swi (t := 17) (ls' := [_, _]) (st' := []) e_X8_count rfl rfl (by rw [s3]; rfl) ?_
    refine Ev.sn e_X8_count 2 (i' := 19) (ls' := [_, _]) (st' := [_]) rfl ?_
    refine Ev.clV e_X8_count rfl rfl (as := []) rfl rfl rfl kl_X7_size rfl rfl rfl (c_X7_size _ _ _) rfl ?_
    refine Ev.iret e_X8_count rfl rfl rfl ?_ rfl
    simp [S_count, s0, s1, s2, s3]
  by_cases s4 : x = 4
  · refine Ev.swi (t := 21) (ls' := [_, _]) (st' := []) e_X8_count rfl rfl (by rw [s4]; rfl) ?_
    refine Ev.sn e_X8_count 2 (i' := 23) (ls' := [_, _]) (st' := [_]) rfl ?_
    refine Ev.clV e_X8_count rfl rfl (as := []) rfl rfl rfl kl_X6_size rfl rfl rfl (c_X6_size _ _ _) rfl ?_
    refine Ev.iret e_X8_count rfl rfl rfl ?_ rfl
    simp [S_count, s0, s1, s2, s3, s4]
  refine Ev.swi (t := 25) (ls' := [_, _]) (st' := []) e_X8_count rfl rfl (by simp [swl, s0, s1, s2, s3, s4]) ?_
  refine Ev.sn e_X8_count 1 (i' := 26) (ls' := [_, _]) (st' := [_]) rfl ?_
  refine Ev.iret e_X8_count rfl rfl rfl ?_ rfl
  simp [S_count, s0, s1, s2, s3, s4]
set_option maxRecDepth 20000 in
set_option maxHeartbeats 200000 in
theorem c_X8_trace (d : Nat) (g : Nat → Nat → Int32) (tr : Int64) : Ev d 104 0 [.ref 0] [] (wC g tr) (some (.long tr)) (wC g tr) := by
  refine Ev.sn e_X8_trace 2 (i' := 2) (ls' := [_]) (st' := [_]) rfl ?_
  refine Ev.lret e_X8_trace rfl rfl ?_ rfl
  rfl
