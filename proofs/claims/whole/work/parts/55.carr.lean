/-! CARRIED: the reference goes through all orders -/
def phi (x : Nat) : Nat := if x = 1000 then 1000000 else x
theorem phi_le {x : Nat} (h : x ≤ 1000) : phi x ≤ 1000000 := by unfold phi; split <;> omega
theorem phi_lt {x y : Nat} (hx : x ≤ 1000) (hy : y ≤ 1000) : phi x < phi y ↔ x < y := by unfold phi; split <;> split <;> omega
theorem phi_ne {x : Nat} (h : ¬ x = 1000) : phi x = x := if_neg h
theorem nI_4 (x : Nat) : 4 * nI x = nI (4 * x) := by rw [show (4 : Int32) = nI 4 from rfl, pk_mul]
theorem nI_4k (x k : Nat) : 4 * nI x + nI k = nI (4 * x + k) := by rw [nI_4, nI_add]
theorem nI_6 (x : Nat) : 6 + nI x = nI (6 + x) := by rw [show (6 : Int32) = nI 6 from rfl, nI_add]
theorem sub_m1 (x : Int32) : x - 1 = x + (-1) := Int32.sub_eq_add_neg _ _
set_option maxRecDepth 20000 in
set_option maxHeartbeats 200000 in
theorem lp_X9_isIn (d : Nat) (g : RG) (tr : Int64) {n q dn : Nat} (hc : RI n q dn g) {t m : Nat} (ht : t < n) (hm : m ≤ 1000) : ∀ (j x a : Nat), x + j = dn → a ≤ 1000 → Ev d 169 4 [.ref 0, .int (nI t), .int (nI m), .int (nI (phi a)), .int (nI x), .null, .null, .null, .null] [] (wR g tr) (some (.int (nI (phi (fo (eS (vR n q dn g) t m) j x a))))) (wR g tr) := by
  have hb := hc.b
  have hm9 := WF_m hc.w ht
  have v3 : (vR n q dn g) 3 t = g 3 (4 * t + 3) := cut_lt (f := fun t => g 3 (4 * t + 3)) ht
  have v2 : (vR n q dn g) 2 t = g 3 (4 * t + 2) := cut_lt (f := fun t => g 3 (4 * t + 2)) ht
  have v1 : (vR n q dn g) 1 t = g 7 (6 + t) := cut_lt (f := fun t => g 7 (6 + t)) ht
  rw [v3] at hm9
  intro j
  induction j with
  | zero =>
    intro x a hx ha
    refine Ev.sn e_X9_isIn 4 (i' := 8) (ls' := [_, _, _, _, _, _, _, _, _]) (st' := [_, _, _]) rfl ?_
    refine Ev.ialdE e_X9_isIn rfl rfl rfl rfl (m := 2) rfl (by decide) ?_
    refine Ev.brT (i1 := 90) (i2 := 10) e_X9_isIn rfl rfl (ge_t hc.hd (by omega) (by omega)) ?_
    refine Ev.sn e_X9_isIn 1 (i' := 91) (ls' := [_, _, _, _, _, _, _, _, _]) (st' := [_]) rfl ?_
    refine Ev.iret e_X9_isIn rfl rfl rfl ?_ rfl
    rfl
  | succ j ih =>
    intro x a hx ha
    rw [fo_s]
    have hp := phi_le ha
    have hxd : x < dn := by omega
    have hd := WF_d hc.w hxd
    have v8 : (vR n q dn g) 8 x = g 5 (4 * x) := cut_lt (f := fun t => g 5 (4 * t)) hxd
    have v9 : (vR n q dn g) 9 x = g 5 (4 * x + 1) := cut_lt (f := fun t => g 5 (4 * t + 1)) hxd
    have v10 : (vR n q dn g) 10 x = g 5 (4 * x + 2) := cut_lt (f := fun t => g 5 (4 * t + 2)) hxd
    have v11 : (vR n q dn g) 11 x = g 5 (4 * x + 3) := cut_lt (f := fun t => g 5 (4 * t + 3)) hxd
    have hgt : gtB (vR n q dn g) t x = decide (g 3 (4 * t + 2) * g 5 (4 * x + 2) ≤ g 5 (4 * x + 3) * g 7 (6 + t)) := by unfold gtB; rw [v2, v10, v11, v1]
    rw [v8, v9] at hd
    by_cases hF : dF (vR n q dn g) x ≤ m
    · have hmx : max m (dF (vR n q dn g) x) = m := Nat.max_eq_left hF
      refine Ev.sn e_X9_isIn 4 (i' := 8) (ls' := [_, _, _, _, _, _, _, _, _]) (st' := [_, _, _]) rfl ?_
      refine Ev.ialdE e_X9_isIn rfl rfl rfl rfl (m := 2) rfl (by decide) ?_
      refine Ev.brF (i1 := 90) (i2 := 10) e_X9_isIn rfl rfl (ge_f hc.hd (by omega) (by omega)) ?_
      refine Ev.sn e_X9_isIn 7 (i' := 17) (ls' := [_, _, _, _, _, _, _, _, _]) (st' := [_, _]) rfl ?_
      refine Ev.ialdE e_X9_isIn rfl rfl rfl rfl (m := 4 * x) (nI_4 x) (by omega) ?_
      refine Ev.sn e_X9_isIn 1 (i' := 19) (ls' := [_, _, _, _, _, _, _, _, _]) (st' := [_, _]) rfl ?_
      refine Ev.brT (i1 := 25) (i2 := 20) e_X9_isIn rfl rfl ((by rw [hd.1]; exact nI_le hF (by omega))) ?_
      refine Ev.sn e_X9_isIn 10 (i' := 35) (ls' := [_, _, _, _, _, _, _, _, _]) (st' := [_, _, _]) rfl ?_
      refine Ev.ialdE e_X9_isIn rfl rfl rfl rfl (m := 4 * t + 3) (nI_4k t 3) (by omega) ?_
      refine Ev.sn e_X9_isIn 1 (i' := 37) (ls' := [_, _, _, _, _, _, _, _, _]) (st' := [_]) rfl ?_
      rw [hm9.1, nI_add]
      refine Ev.sn e_X9_isIn 6 (i' := 43) (ls' := [_, _, _, _, _, _, _, _, _]) (st' := [_, _]) rfl ?_
      refine Ev.ialdE e_X9_isIn rfl rfl rfl rfl (m := 4 * x + 3) (nI_4k x 3) (by omega) ?_
      refine Ev.sn e_X9_isIn 5 (i' := 49) (ls' := [_, _, _, _, _, _, _, _, _]) (st' := [_, _, _]) rfl ?_
      refine Ev.ialdE e_X9_isIn rfl rfl rfl rfl (m := 6 + t) (nI_6 t) (by omega) ?_
      refine Ev.sn e_X9_isIn 8 (i' := 58) (ls' := [_, _, _, _, _, _, _, _, _]) (st' := [_, _, _]) rfl ?_
      refine Ev.ialdE e_X9_isIn rfl rfl rfl rfl (m := 4 * t + 2) (nI_4k t 2) (by omega) ?_
      refine Ev.sn e_X9_isIn 5 (i' := 64) (ls' := [_, _, _, _, _, _, _, _, _]) (st' := [_, _, _, _]) rfl ?_
      refine Ev.ialdE e_X9_isIn rfl rfl rfl rfl (m := 4 * x + 2) (nI_4k x 2) (by omega) ?_
      refine Ev.sn e_X9_isIn 1 (i' := 66) (ls' := [_, _, _, _, _, _, _, _, _]) (st' := [_, _]) rfl ?_
      refine Ev.br (i1 := 77) (i2 := 67) e_X9_isIn rfl rfl (fun hq => ?_) (fun hq => ?_)
      · refine Ev.sn e_X9_isIn 3 (i' := 80) (ls' := [_, _, _, _, _, _, _, _, _]) (st' := [_]) rfl ?_
        refine Ev.brT (i1 := 86) (i2 := 81) e_X9_isIn rfl rfl ((by decide)) ?_
        refine Ev.sn e_X9_isIn 4 (i' := 4) (ls' := [_, _, _, _, _, _, _, _, _]) (st' := []) rfl ?_
        have hf : gtB (vR n q dn g) t x = false := by rw [hgt]; exact decide_eq_false (Int32.not_le.mpr hq)
        rw [show eS (vR n q dn g) t m x a = a from if_neg (by unfold eC; rw [hf, Bool.and_false]; decide)]
        rw [nI_1]
        exact Ev.weak (lle_c (lle_c (lle_c (lle_c (lle_c (lle_n (lle_n (lle_n (lle_n lle_0))))))))) (ih (x + 1) _ (by omega) (by omega))
      · refine Ev.sn e_X9_isIn 6 (i' := 73) (ls' := [_, _, _, _, _, _, _, _, _]) (st' := [_, _, _]) rfl ?_
        refine Ev.ialdE e_X9_isIn rfl rfl rfl rfl (m := 4 * x + 1) (nI_4k x 1) (by omega) ?_
        refine Ev.br (i1 := 77) (i2 := 75) e_X9_isIn rfl rfl (fun hu => ?_) (fun hu => ?_)
        · refine Ev.sn e_X9_isIn 3 (i' := 80) (ls' := [_, _, _, _, _, _, _, _, _]) (st' := [_]) rfl ?_
          refine Ev.brT (i1 := 86) (i2 := 81) e_X9_isIn rfl rfl ((by decide)) ?_
          refine Ev.sn e_X9_isIn 4 (i' := 4) (ls' := [_, _, _, _, _, _, _, _, _]) (st' := []) rfl ?_
          have hn : ¬ max m (dF (vR n q dn g) x) + mN (vR n q dn g) t ≤ dU (vR n q dn g) x := fun h => by
            rw [hmx] at h
            have hu : g 5 (4 * x + 1) < nI (m + mN (vR n q dn g) t) := hu
            rw [hd.2.2.1] at hu
            exact nI_nlt h (by omega) hu
          rw [show eS (vR n q dn g) t m x a = a from if_neg (by unfold eC; rw [decide_eq_false hn, Bool.false_and]; decide)]
          rw [nI_1]
          exact Ev.weak (lle_c (lle_c (lle_c (lle_c (lle_c (lle_n (lle_n (lle_n (lle_n lle_0))))))))) (ih (x + 1) _ (by omega) (by omega))
        · refine Ev.sn e_X9_isIn 4 (i' := 80) (ls' := [_, _, _, _, _, _, _, _, _]) (st' := [_]) rfl ?_
          refine Ev.brF (i1 := 86) (i2 := 81) e_X9_isIn rfl rfl ((by decide)) ?_
          refine Ev.sn e_X9_isIn 2 (i' := 83) (ls' := [_, _, _, _, _, _, _, _, _]) (st' := [_, _]) rfl ?_
          refine Ev.br (i1 := 86) (i2 := 84) e_X9_isIn rfl rfl (fun hi => ?_) (fun hi => ?_)
          · refine Ev.sn e_X9_isIn 4 (i' := 4) (ls' := [_, _, _, _, _, _, _, _, _]) (st' := []) rfl ?_
            have hf : gtB (vR n q dn g) t x = true := by rw [hgt]; exact decide_eq_true (Int32.not_lt.mp hq)
            have hu2 : m + mN (vR n q dn g) t ≤ dU (vR n q dn g) x := by
              rcases Nat.lt_or_ge (dU (vR n q dn g) x) (m + mN (vR n q dn g) t) with h | h
              · exact absurd (show g 5 (4 * x + 1) < nI (m + mN (vR n q dn g) t) from by rw [hd.2.2.1]; exact nI_lt h (by omega)) hu
              · exact h
            have hec : eC (vR n q dn g) t m x = true := by unfold eC; rw [hf, hmx, decide_eq_true hu2]; rfl
            have hle : phi a ≤ m + mN (vR n q dn g) t := (nI_leI (by omega) (by omega)).mp hi
            have ha9 : ¬ a = 1000 := fun e => by rw [e] at hle; unfold phi at hle; rw [if_pos rfl] at hle; omega
            rw [phi_ne ha9] at hle
            rw [show eS (vR n q dn g) t m x a = a from (if_pos hec).trans (by rw [hmx]; omega)]
            rw [nI_1]
            exact Ev.weak (lle_c (lle_c (lle_c (lle_c (lle_c (lle_n (lle_n (lle_n (lle_n lle_0))))))))) (ih (x + 1) _ (by omega) (by omega))
          · refine Ev.sn e_X9_isIn 5 (i' := 4) (ls' := [_, _, _, _, _, _, _, _, _]) (st' := []) rfl ?_
            have hf : gtB (vR n q dn g) t x = true := by rw [hgt]; exact decide_eq_true (Int32.not_lt.mp hq)
            have hu2 : m + mN (vR n q dn g) t ≤ dU (vR n q dn g) x := by
              rcases Nat.lt_or_ge (dU (vR n q dn g) x) (m + mN (vR n q dn g) t) with h | h
              · exact absurd (show g 5 (4 * x + 1) < nI (m + mN (vR n q dn g) t) from by rw [hd.2.2.1]; exact nI_lt h (by omega)) hu
              · exact h
            have hec : eC (vR n q dn g) t m x = true := by unfold eC; rw [hf, hmx, decide_eq_true hu2]; rfl
            have hlt : m + mN (vR n q dn g) t < phi a := by
              rcases Nat.lt_or_ge (m + mN (vR n q dn g) t) (phi a) with h | h
              · exact h
              · exact absurd (nI_le h (by omega)) hi
            have hla : m + mN (vR n q dn g) t < a := by
              unfold phi at hlt
              split at hlt <;> omega
            rw [show eS (vR n q dn g) t m x a = m + mN (vR n q dn g) t from (if_pos hec).trans (by rw [hmx]; omega)]
            have hph : phi (m + mN (vR n q dn g) t) = m + mN (vR n q dn g) t := phi_ne (by omega)
            rw [nI_1]
            have A := ih (x + 1) (m + mN (vR n q dn g) t) (by omega) (by omega)
            rw [hph] at A
            exact Ev.weak (lle_c (lle_c (lle_c (lle_c (lle_c (lle_n (lle_n (lle_n (lle_n lle_0))))))))) A
    · have hmx : max m (dF (vR n q dn g) x) = dF (vR n q dn g) x := Nat.max_eq_right (by omega)
      refine Ev.sn e_X9_isIn 4 (i' := 8) (ls' := [_, _, _, _, _, _, _, _, _]) (st' := [_, _, _]) rfl ?_
      refine Ev.ialdE e_X9_isIn rfl rfl rfl rfl (m := 2) rfl (by decide) ?_
      refine Ev.brF (i1 := 90) (i2 := 10) e_X9_isIn rfl rfl (ge_f hc.hd (by omega) (by omega)) ?_
      refine Ev.sn e_X9_isIn 7 (i' := 17) (ls' := [_, _, _, _, _, _, _, _, _]) (st' := [_, _]) rfl ?_
      refine Ev.ialdE e_X9_isIn rfl rfl rfl rfl (m := 4 * x) (nI_4 x) (by omega) ?_
      refine Ev.sn e_X9_isIn 1 (i' := 19) (ls' := [_, _, _, _, _, _, _, _, _]) (st' := [_, _]) rfl ?_
      refine Ev.brF (i1 := 25) (i2 := 20) e_X9_isIn rfl rfl ((by rw [hd.1]; exact nI_ge (by omega) (by omega))) ?_
      refine Ev.sn e_X9_isIn 3 (i' := 23) (ls' := [_, _, _, _, _, _, _, _, _]) (st' := [_, _]) rfl ?_
      refine Ev.ialdE e_X9_isIn rfl rfl rfl rfl (m := 4 * x) (nI_4 x) (by omega) ?_
      refine Ev.sn e_X9_isIn 10 (i' := 35) (ls' := [_, _, _, _, _, _, _, _, _]) (st' := [_, _, _]) rfl ?_
      refine Ev.ialdE e_X9_isIn rfl rfl rfl rfl (m := 4 * t + 3) (nI_4k t 3) (by omega) ?_
      refine Ev.sn e_X9_isIn 1 (i' := 37) (ls' := [_, _, _, _, _, _, _, _, _]) (st' := [_]) rfl ?_
      rw [hd.1, hm9.1, nI_add]
      refine Ev.sn e_X9_isIn 6 (i' := 43) (ls' := [_, _, _, _, _, _, _, _, _]) (st' := [_, _]) rfl ?_
      refine Ev.ialdE e_X9_isIn rfl rfl rfl rfl (m := 4 * x + 3) (nI_4k x 3) (by omega) ?_
      refine Ev.sn e_X9_isIn 5 (i' := 49) (ls' := [_, _, _, _, _, _, _, _, _]) (st' := [_, _, _]) rfl ?_
      refine Ev.ialdE e_X9_isIn rfl rfl rfl rfl (m := 6 + t) (nI_6 t) (by omega) ?_
      refine Ev.sn e_X9_isIn 8 (i' := 58) (ls' := [_, _, _, _, _, _, _, _, _]) (st' := [_, _, _]) rfl ?_
      refine Ev.ialdE e_X9_isIn rfl rfl rfl rfl (m := 4 * t + 2) (nI_4k t 2) (by omega) ?_
      refine Ev.sn e_X9_isIn 5 (i' := 64) (ls' := [_, _, _, _, _, _, _, _, _]) (st' := [_, _, _, _]) rfl ?_
      refine Ev.ialdE e_X9_isIn rfl rfl rfl rfl (m := 4 * x + 2) (nI_4k x 2) (by omega) ?_
      refine Ev.sn e_X9_isIn 1 (i' := 66) (ls' := [_, _, _, _, _, _, _, _, _]) (st' := [_, _]) rfl ?_
      refine Ev.br (i1 := 77) (i2 := 67) e_X9_isIn rfl rfl (fun hq => ?_) (fun hq => ?_)
      · refine Ev.sn e_X9_isIn 3 (i' := 80) (ls' := [_, _, _, _, _, _, _, _, _]) (st' := [_]) rfl ?_
        refine Ev.brT (i1 := 86) (i2 := 81) e_X9_isIn rfl rfl ((by decide)) ?_
        refine Ev.sn e_X9_isIn 4 (i' := 4) (ls' := [_, _, _, _, _, _, _, _, _]) (st' := []) rfl ?_
        have hf : gtB (vR n q dn g) t x = false := by rw [hgt]; exact decide_eq_false (Int32.not_le.mpr hq)
        rw [show eS (vR n q dn g) t m x a = a from if_neg (by unfold eC; rw [hf, Bool.and_false]; decide)]
        rw [nI_1]
        exact Ev.weak (lle_c (lle_c (lle_c (lle_c (lle_c (lle_n (lle_n (lle_n (lle_n lle_0))))))))) (ih (x + 1) _ (by omega) (by omega))
      · refine Ev.sn e_X9_isIn 6 (i' := 73) (ls' := [_, _, _, _, _, _, _, _, _]) (st' := [_, _, _]) rfl ?_
        refine Ev.ialdE e_X9_isIn rfl rfl rfl rfl (m := 4 * x + 1) (nI_4k x 1) (by omega) ?_
        refine Ev.br (i1 := 77) (i2 := 75) e_X9_isIn rfl rfl (fun hu => ?_) (fun hu => ?_)
        · refine Ev.sn e_X9_isIn 3 (i' := 80) (ls' := [_, _, _, _, _, _, _, _, _]) (st' := [_]) rfl ?_
          refine Ev.brT (i1 := 86) (i2 := 81) e_X9_isIn rfl rfl ((by decide)) ?_
          refine Ev.sn e_X9_isIn 4 (i' := 4) (ls' := [_, _, _, _, _, _, _, _, _]) (st' := []) rfl ?_
          have hn : ¬ max m (dF (vR n q dn g) x) + mN (vR n q dn g) t ≤ dU (vR n q dn g) x := fun h => by
            rw [hmx] at h
            have hu : g 5 (4 * x + 1) < nI (dF (vR n q dn g) x + mN (vR n q dn g) t) := hu
            rw [hd.2.2.1] at hu
            exact nI_nlt h (by omega) hu
          rw [show eS (vR n q dn g) t m x a = a from if_neg (by unfold eC; rw [decide_eq_false hn, Bool.false_and]; decide)]
          rw [nI_1]
          exact Ev.weak (lle_c (lle_c (lle_c (lle_c (lle_c (lle_n (lle_n (lle_n (lle_n lle_0))))))))) (ih (x + 1) _ (by omega) (by omega))
        · refine Ev.sn e_X9_isIn 4 (i' := 80) (ls' := [_, _, _, _, _, _, _, _, _]) (st' := [_]) rfl ?_
          refine Ev.brF (i1 := 86) (i2 := 81) e_X9_isIn rfl rfl ((by decide)) ?_
          refine Ev.sn e_X9_isIn 2 (i' := 83) (ls' := [_, _, _, _, _, _, _, _, _]) (st' := [_, _]) rfl ?_
          refine Ev.br (i1 := 86) (i2 := 84) e_X9_isIn rfl rfl (fun hi => ?_) (fun hi => ?_)
          · refine Ev.sn e_X9_isIn 4 (i' := 4) (ls' := [_, _, _, _, _, _, _, _, _]) (st' := []) rfl ?_
            have hf : gtB (vR n q dn g) t x = true := by rw [hgt]; exact decide_eq_true (Int32.not_lt.mp hq)
            have hu2 : dF (vR n q dn g) x + mN (vR n q dn g) t ≤ dU (vR n q dn g) x := by
              rcases Nat.lt_or_ge (dU (vR n q dn g) x) (dF (vR n q dn g) x + mN (vR n q dn g) t) with h | h
              · exact absurd (show g 5 (4 * x + 1) < nI (dF (vR n q dn g) x + mN (vR n q dn g) t) from by rw [hd.2.2.1]; exact nI_lt h (by omega)) hu
              · exact h
            have hec : eC (vR n q dn g) t m x = true := by unfold eC; rw [hf, hmx, decide_eq_true hu2]; rfl
            have hle : phi a ≤ dF (vR n q dn g) x + mN (vR n q dn g) t := (nI_leI (by omega) (by omega)).mp hi
            have ha9 : ¬ a = 1000 := fun e => by rw [e] at hle; unfold phi at hle; rw [if_pos rfl] at hle; omega
            rw [phi_ne ha9] at hle
            rw [show eS (vR n q dn g) t m x a = a from (if_pos hec).trans (by rw [hmx]; omega)]
            rw [nI_1]
            exact Ev.weak (lle_c (lle_c (lle_c (lle_c (lle_c (lle_n (lle_n (lle_n (lle_n lle_0))))))))) (ih (x + 1) _ (by omega) (by omega))
          · refine Ev.sn e_X9_isIn 5 (i' := 4) (ls' := [_, _, _, _, _, _, _, _, _]) (st' := []) rfl ?_
            have hf : gtB (vR n q dn g) t x = true := by rw [hgt]; exact decide_eq_true (Int32.not_lt.mp hq)
            have hu2 : dF (vR n q dn g) x + mN (vR n q dn g) t ≤ dU (vR n q dn g) x := by
              rcases Nat.lt_or_ge (dU (vR n q dn g) x) (dF (vR n q dn g) x + mN (vR n q dn g) t) with h | h
              · exact absurd (show g 5 (4 * x + 1) < nI (dF (vR n q dn g) x + mN (vR n q dn g) t) from by rw [hd.2.2.1]; exact nI_lt h (by omega)) hu
              · exact h
            have hec : eC (vR n q dn g) t m x = true := by unfold eC; rw [hf, hmx, decide_eq_true hu2]; rfl
            have hlt : dF (vR n q dn g) x + mN (vR n q dn g) t < phi a := by
              rcases Nat.lt_or_ge (dF (vR n q dn g) x + mN (vR n q dn g) t) (phi a) with h | h
              · exact h
              · exact absurd (nI_le h (by omega)) hi
            have hla : dF (vR n q dn g) x + mN (vR n q dn g) t < a := by
              unfold phi at hlt
              split at hlt <;> omega
            rw [show eS (vR n q dn g) t m x a = dF (vR n q dn g) x + mN (vR n q dn g) t from (if_pos hec).trans (by rw [hmx]; omega)]
            have hph : phi (dF (vR n q dn g) x + mN (vR n q dn g) t) = dF (vR n q dn g) x + mN (vR n q dn g) t := phi_ne (by omega)
            rw [nI_1]
            have A := ih (x + 1) (dF (vR n q dn g) x + mN (vR n q dn g) t) (by omega) (by omega)
            rw [hph] at A
            exact Ev.weak (lle_c (lle_c (lle_c (lle_c (lle_c (lle_n (lle_n (lle_n (lle_n lle_0))))))))) A
set_option maxRecDepth 20000 in
set_option maxHeartbeats 200000 in
theorem c_X9_isIn (d : Nat) (g : RG) (tr : Int64) {n q dn : Nat} (hc : RI n q dn g) {t m : Nat} (ht : t < n) (hm : m ≤ 1000) : Ev d 169 0 [.ref 0, .int (nI t), .int (nI m), .null, .null, .null, .null, .null, .null] [] (wR g tr) (some (.int (nI (phi (eN (vR n q dn g) dn t m))))) (wR g tr) := by
  refine Ev.sn e_X9_isIn 4 (i' := 4) (ls' := [_, _, _, _, _, _, _, _, _]) (st' := []) rfl ?_
  exact lp_X9_isIn d g tr hc ht hm dn 0 1000 (by omega) (by omega)
def isO (n : Nat) : Nat → Nat → Nat → Bool
  | 0, _, _ => true
  | j + 1, w, M => !M.testBit (w % n) && isO n j (w / n) (M ||| 2 ^ (w % n))
def rF (n : Nat) : Nat → Nat → (Nat → Int32) → Nat → Int32
  | 0, _, R => R
  | j + 1, w, R => rF n j (w / n) (upd R j (nI (w % n)))
theorem wR_14 (g : RG) (tr : Int64) (L F : Nat → Int32) : (wR (va_up g 14 L) tr).set 14 (.inl (0, 6, .inl F)) = wR (va_up g 14 F) tr := rfl
set_option maxRecDepth 20000 in
set_option maxHeartbeats 200000 in
theorem lp_X9_isOrder (d : Nat) (g : RG) (tr : Int64) {n q dn : Nat} (hc : RI n q dn g) (r : Option Value) (w2 : AW) : ∀ (j w M : Nat) (b : Bool) (R : Nat → Int32), j ≤ n → M < 64 → w < 100000 → Ev d 170 58 [.ref 0, .null, .null, .null, .int (bI (b && isO n j w M)), .null] [] (wR (va_up g 14 (rF n j w R)) tr) r w2 → Ev d 170 13 [.ref 0, .null, .int (nI w), .int (nI M), .int (bI b), .int (nI j + (-1))] [] (wR (va_up g 14 R) tr) r w2 := by
  have hb := hc.b
  intro j
  induction j with
  | zero =>
    intro w M b R hj hM hw K
    rw [show isO n 0 w M = true from rfl, Bool.and_true] at K
    refine Ev.sn e_X9_isOrder 1 (i' := 14) (ls' := [_, _, _, _, _, _]) (st' := [_]) rfl ?_
    refine Ev.brT (i1 := 58) (i2 := 15) e_X9_isOrder rfl rfl ((by decide)) ?_
    exact Ev.weak (lle_c (lle_n (lle_n (lle_n (lle_c (lle_n lle_0)))))) K
  | succ j ih =>
    intro w M b R hj hM hw K
    have hn : 0 < n := by omega
    have hn0 : ¬ g 2 0 = 0 := by rw [hc.hn]; exact nI_ne0 hn (by omega)
    have hN : ∀ F, va_up g 14 F 2 0 = nI n := fun F => hc.hn
    have hmn : w % n < n := Nat.mod_lt _ hn
    have hwd : w / n < 100000 := Nat.lt_of_le_of_lt (Nat.div_le_self _ _) hw
    have hb0 := bit_0 hM (show w % n < 6 by omega)
    have hor := or_lt M hM (w % n) (by omega)
    rw [show rF n (j + 1) w R = rF n j (w / n) (upd R j (nI (w % n))) from rfl] at K
    rw [show isO n (j + 1) w M = (!M.testBit (w % n) && isO n j (w / n) (M ||| 2 ^ (w % n))) from rfl] at K
    rw [pk_m1]
    cases b with
    | false =>
      rw [Bool.false_and] at K
      refine Ev.sn e_X9_isOrder 1 (i' := 14) (ls' := [_, _, _, _, _, _]) (st' := [_]) rfl ?_
      refine Ev.brF (i1 := 58) (i2 := 15) e_X9_isOrder rfl rfl ((nI_pos (by omega))) ?_
      refine Ev.sn e_X9_isOrder 7 (i' := 22) (ls' := [_, _, _, _, _, _]) (st' := [_, _, _, _, _]) rfl ?_
      refine Ev.ialdE e_X9_isOrder rfl rfl rfl rfl (m := 0) rfl (by decide) ?_
      refine Ev.irem e_X9_isOrder rfl rfl hn0 ?_
      rw [hN, pk_rem (by omega) hn (by omega)]
      refine Ev.iastE e_X9_isOrder rfl rfl rfl (m := j) rfl (by omega) (wR_14 _ _ _ _) ?_
      rw [va_up_self]
      refine Ev.sn e_X9_isOrder 4 (i' := 29) (ls' := [_, _, _, _, _, _]) (st' := [_, _, _]) rfl ?_
      refine Ev.ialdE e_X9_isOrder rfl rfl rfl rfl (m := 0) rfl (by decide) ?_
      refine Ev.idiv e_X9_isOrder rfl rfl hn0 ?_
      rw [hN, pk_div (by omega) hn (by omega)]
      refine Ev.sn e_X9_isOrder 2 (i' := 33) (ls' := [_, _, _, _, _, _]) (st' := [_]) rfl ?_
      refine Ev.brT (i1 := 45) (i2 := 34) e_X9_isOrder rfl rfl (rfl) ?_
      refine Ev.sn e_X9_isOrder 7 (i' := 52) (ls' := [_, _, _, _, _, _]) (st' := [_, _, _, _]) rfl ?_
      refine Ev.ialdE e_X9_isOrder rfl rfl rfl rfl (m := j) rfl (by omega) ?_
      rw [va_up_self, pk_us]
      refine Ev.sn e_X9_isOrder 5 (i' := 13) (ls' := [_, _, _, _, _, _]) (st' := []) rfl ?_
      rw [or_I (by omega)]
      exact ih (w / n) (M ||| 2 ^ (w % n)) false _ (by omega) hor hwd (by rw [Bool.false_and]; exact K)
    | true =>
      rw [Bool.true_and] at K
      cases hz : M.testBit (w % n) with
      | true =>
        rw [hz, Bool.not_true, Bool.false_and] at K
        refine Ev.sn e_X9_isOrder 1 (i' := 14) (ls' := [_, _, _, _, _, _]) (st' := [_]) rfl ?_
        refine Ev.brF (i1 := 58) (i2 := 15) e_X9_isOrder rfl rfl ((nI_pos (by omega))) ?_
        refine Ev.sn e_X9_isOrder 7 (i' := 22) (ls' := [_, _, _, _, _, _]) (st' := [_, _, _, _, _]) rfl ?_
        refine Ev.ialdE e_X9_isOrder rfl rfl rfl rfl (m := 0) rfl (by decide) ?_
        refine Ev.irem e_X9_isOrder rfl rfl hn0 ?_
        rw [hN, pk_rem (by omega) hn (by omega)]
        refine Ev.iastE e_X9_isOrder rfl rfl rfl (m := j) rfl (by omega) (wR_14 _ _ _ _) ?_
        rw [va_up_self]
        refine Ev.sn e_X9_isOrder 4 (i' := 29) (ls' := [_, _, _, _, _, _]) (st' := [_, _, _]) rfl ?_
        refine Ev.ialdE e_X9_isOrder rfl rfl rfl rfl (m := 0) rfl (by decide) ?_
        refine Ev.idiv e_X9_isOrder rfl rfl hn0 ?_
        rw [hN, pk_div (by omega) hn (by omega)]
        refine Ev.sn e_X9_isOrder 2 (i' := 33) (ls' := [_, _, _, _, _, _]) (st' := [_]) rfl ?_
        refine Ev.brF (i1 := 45) (i2 := 34) e_X9_isOrder rfl rfl ((by decide)) ?_
        refine Ev.sn e_X9_isOrder 4 (i' := 38) (ls' := [_, _, _, _, _, _]) (st' := [_, _, _]) rfl ?_
        refine Ev.ialdE e_X9_isOrder rfl rfl rfl rfl (m := j) rfl (by omega) ?_
        rw [va_up_self, pk_us]
        refine Ev.sn e_X9_isOrder 3 (i' := 42) (ls' := [_, _, _, _, _, _]) (st' := [_]) rfl ?_
        refine Ev.brF (i1 := 43) (i2 := 45) e_X9_isOrder rfl rfl ((fun h => absurd (hb0.mp h) (by rw [hz]; decide))) ?_
        refine Ev.sn e_X9_isOrder 7 (i' := 52) (ls' := [_, _, _, _, _, _]) (st' := [_, _, _, _]) rfl ?_
        refine Ev.ialdE e_X9_isOrder rfl rfl rfl rfl (m := j) rfl (by omega) ?_
        rw [va_up_self, pk_us]
        refine Ev.sn e_X9_isOrder 5 (i' := 13) (ls' := [_, _, _, _, _, _]) (st' := []) rfl ?_
        rw [or_I (by omega)]
        exact ih (w / n) (M ||| 2 ^ (w % n)) false _ (by omega) hor hwd (by rw [Bool.false_and]; exact K)
      | false =>
        rw [hz, Bool.not_false, Bool.true_and] at K
        refine Ev.sn e_X9_isOrder 1 (i' := 14) (ls' := [_, _, _, _, _, _]) (st' := [_]) rfl ?_
        refine Ev.brF (i1 := 58) (i2 := 15) e_X9_isOrder rfl rfl ((nI_pos (by omega))) ?_
        refine Ev.sn e_X9_isOrder 7 (i' := 22) (ls' := [_, _, _, _, _, _]) (st' := [_, _, _, _, _]) rfl ?_
        refine Ev.ialdE e_X9_isOrder rfl rfl rfl rfl (m := 0) rfl (by decide) ?_
        refine Ev.irem e_X9_isOrder rfl rfl hn0 ?_
        rw [hN, pk_rem (by omega) hn (by omega)]
        refine Ev.iastE e_X9_isOrder rfl rfl rfl (m := j) rfl (by omega) (wR_14 _ _ _ _) ?_
        rw [va_up_self]
        refine Ev.sn e_X9_isOrder 4 (i' := 29) (ls' := [_, _, _, _, _, _]) (st' := [_, _, _]) rfl ?_
        refine Ev.ialdE e_X9_isOrder rfl rfl rfl rfl (m := 0) rfl (by decide) ?_
        refine Ev.idiv e_X9_isOrder rfl rfl hn0 ?_
        rw [hN, pk_div (by omega) hn (by omega)]
        refine Ev.sn e_X9_isOrder 2 (i' := 33) (ls' := [_, _, _, _, _, _]) (st' := [_]) rfl ?_
        refine Ev.brF (i1 := 45) (i2 := 34) e_X9_isOrder rfl rfl ((by decide)) ?_
        refine Ev.sn e_X9_isOrder 4 (i' := 38) (ls' := [_, _, _, _, _, _]) (st' := [_, _, _]) rfl ?_
        refine Ev.ialdE e_X9_isOrder rfl rfl rfl rfl (m := j) rfl (by omega) ?_
        rw [va_up_self, pk_us]
        refine Ev.sn e_X9_isOrder 3 (i' := 42) (ls' := [_, _, _, _, _, _]) (st' := [_]) rfl ?_
        refine Ev.brT (i1 := 43) (i2 := 45) e_X9_isOrder rfl rfl ((hb0.mpr hz)) ?_
        refine Ev.sn e_X9_isOrder 8 (i' := 52) (ls' := [_, _, _, _, _, _]) (st' := [_, _, _, _]) rfl ?_
        refine Ev.ialdE e_X9_isOrder rfl rfl rfl rfl (m := j) rfl (by omega) ?_
        rw [va_up_self, pk_us]
        refine Ev.sn e_X9_isOrder 5 (i' := 13) (ls' := [_, _, _, _, _, _]) (st' := []) rfl ?_
        rw [or_I (by omega)]
        exact ih (w / n) (M ||| 2 ^ (w % n)) true _ (by omega) hor hwd (by rw [Bool.true_and]; exact K)
set_option maxRecDepth 20000 in
set_option maxHeartbeats 200000 in
theorem c_X9_isOrder (d : Nat) (g : RG) (tr : Int64) {n q dn : Nat} (hc : RI n q dn g) (R : Nat → Int32) {w : Nat} (hw : w < 100000) : Ev d 170 0 [.ref 0, .int (nI w), .null, .null, .null, .null] [] (wR (va_up g 14 R) tr) (some (.int (bI (isO n n w 0)))) (wR (va_up g 14 (rF n n w R)) tr) := by
  have hb := hc.b
  have hs : g 2 0 - 1 = nI n + (-1) := by rw [hc.hn, sub_m1]
  refine Ev.sn e_X9_isOrder 9 (i' := 9) (ls' := [_, _, _, _, _, _]) (st' := [_, _]) rfl ?_
  refine Ev.ialdE e_X9_isOrder rfl rfl rfl rfl (m := 0) rfl (by decide) ?_
  refine Ev.sn e_X9_isOrder 2 (i' := 12) (ls' := [_, _, _, _, _, _]) (st' := [_]) rfl ?_
  rw [show (va_up g 14 R) 2 0 = g 2 0 from rfl, hs]
  refine Ev.sn e_X9_isOrder 1 (i' := 13) (ls' := [_, _, _, _, _, _]) (st' := []) rfl ?_
  refine Ev.weak (lle_c (lle_n (lle_c (lle_c (lle_c (lle_c lle_0)))))) (lp_X9_isOrder d g tr hc _ _ n w 0 true R (Nat.le_refl _) (by omega) hw ?_)
  rw [Bool.true_and]
  refine Ev.sn e_X9_isOrder 1 (i' := 59) (ls' := [_, _, _, _, _, _]) (st' := [_]) rfl ?_
  refine Ev.iret e_X9_isOrder rfl rfl bI_nar ?_ rfl
  rfl
