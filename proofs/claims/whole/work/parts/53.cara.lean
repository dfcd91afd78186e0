/-! CARRIED: the class -/
theorem mxI {a b : Nat} (ha : a < 2 ^ 31) (hb : b < 2 ^ 31) : (if nI a < nI b then nI b else nI a) = nI (max a b) := by
  by_cases h : a < b
  · rw [if_pos (nI_lt h hb), Nat.max_eq_right (by omega)]
  · rw [if_neg (nI_nlt (by omega) ha), Nat.max_eq_left (by omega)]
theorem mnI {a b : Nat} (ha : a < 2 ^ 31) (hb : b < 2 ^ 31) : (if nI b < nI a then nI b else nI a) = nI (min a b) := by
  by_cases h : b < a
  · rw [if_pos (nI_lt h ha), Nat.min_eq_right (by omega)]
  · rw [if_neg (nI_nlt (by omega) hb), Nat.min_eq_left (by omega)]
theorem m1_9 : ∀ k, k < 10 → (-1 : Int32) - nI k < 0 := by decide
theorem ni_m1 : nI 0 - 1 = -1 := by decide
theorem m1_lt {a : Nat} (ha : a < 2 ^ 31) : (-1 : Int32) < nI a := Int32.lt_of_lt_of_le (by decide) (nI_pos' ha)
theorem mxL {a s : Nat} (ha : a < 2 ^ 31) (hs : s < 2 ^ 31) : (if nI a - 1 < nI s then nI s else nI a - 1) = nI (max a (s + 1)) - 1 := by
  cases a with
  | zero => rw [ni_m1, if_pos (m1_lt hs), Nat.max_eq_right (by omega), nI_pred]
  | succ a =>
    rw [nI_pred, mxI (by omega) hs]
    rw [show max (a + 1) (s + 1) = max a s + 1 by omega, nI_pred]
theorem xor_I : ∀ S, S < 64 → ∀ t, t < 6 → nI S ^^^ (1 <<< (nI t &&& 31)) = nI (S ^^^ 2 ^ t) := by decide +kernel
theorem xor_64 : ∀ S, S < 64 → ∀ t, t < 6 → S ^^^ 2 ^ t < 64 := by decide +kernel
theorem upd_two (f : Nat → Int32) (k : Nat) (x y : Int32) : upd (upd f k x) k y = upd f k y := by
  funext j
  unfold upd
  split <;> rfl
theorem WF_d {n q dn : Nat} {v : VW} (hw : WF n q dn v) {d : Nat} (hd : d < dn) : v 8 d = nI (dF v d) ∧ dF v d ≤ 60 ∧ v 9 d = nI (dU v d) ∧ dU v d ≤ 99 := by
  obtain ⟨⟨a, -, a2, a3⟩, ⟨b, -, b2, b3⟩, -⟩ := hw.2.2.2.2.1 d hd
  have e1 : dF v d = a := by unfold dF; rw [a3]; exact nI_clamp (by omega)
  have e2 : dU v d = b := by unfold dU; rw [b3]; exact nI_clamp (by omega)
  rw [e1, e2]
  exact ⟨a3, a2, b3, b2⟩
theorem WF_m {n q dn : Nat} {v : VW} (hw : WF n q dn v) {t : Nat} (ht : t < n) : v 3 t = nI (mN v t) ∧ mN v t ≤ 9 := by
  obtain ⟨-, -, -, ⟨a, -, a2, a3⟩⟩ := hw.2.1 t ht
  have e1 : mN v t = a := by unfold mN; rw [a3]; exact nI_clamp (by omega)
  rw [e1]
  exact ⟨a3, a2⟩
theorem WF_U {n q dn : Nat} {v : VW} (hw : WF n q dn v) : UB v dn := fun d hd => (WF_d hw hd).2.2.2
theorem wC_102 (g : RG) (tr : Int64) (L F : Nat → Int32) : (wC (va_up g 102 L) tr).set 84 (.inl (0, 64, .inl F)) = wC (va_up g 102 F) tr := rfl
theorem wC_103 (g : RG) (tr : Int64) (L F : Nat → Int32) : (wC (va_up g 103 L) tr).set 85 (.inl (0, 64, .inl F)) = wC (va_up g 103 F) tr := rfl
set_option maxRecDepth 20000 in
set_option maxHeartbeats 200000 in
theorem c_X0_goesThrough (d : Nat) (g : RG) (tr : Int64) {n q dn : Nat} (hc : CI n q dn g) {t x : Nat} (ht : t < n) (hx : x < dn) : Ev d 7 0 [.ref 16, .int (nI t), .int (nI x), .null] [] (wC g tr) (some (.int (bI (gtB (vC n q dn g) t x)))) (wC g tr) := by
  have hb := hc.b
  have v2 : (vC n q dn g) 2 t = g 34 t := cut_lt ht
  have v1 : (vC n q dn g) 1 t = g 51 t := cut_lt ht
  have v10 : (vC n q dn g) 10 x = g 40 x := cut_lt hx
  have v11 : (vC n q dn g) 11 x = g 41 x := cut_lt hx
  unfold gtB
  rw [v2, v1, v10, v11]
  refine Ev.sn e_X0_goesThrough 4 (i' := 4) (ls' := [_, _, _, _]) (st' := [_, _]) rfl ?_
  refine Ev.ialdE e_X0_goesThrough rfl rfl rfl rfl (m := t) rfl (by omega) ?_
  refine Ev.sn e_X0_goesThrough 4 (i' := 9) (ls' := [_, _, _, _]) (st' := [_, _, _]) rfl ?_
  refine Ev.ialdE e_X0_goesThrough rfl rfl rfl rfl (m := x) rfl (by omega) ?_
  refine Ev.sn e_X0_goesThrough 6 (i' := 16) (ls' := [_, _, _, _]) (st' := [_, _]) rfl ?_
  refine Ev.ialdE e_X0_goesThrough rfl rfl rfl rfl (m := x) rfl (by omega) ?_
  refine Ev.sn e_X0_goesThrough 4 (i' := 21) (ls' := [_, _, _, _]) (st' := [_, _, _]) rfl ?_
  refine Ev.ialdE e_X0_goesThrough rfl rfl rfl rfl (m := t) rfl (by omega) ?_
  refine Ev.sn e_X0_goesThrough 2 (i' := 24) (ls' := [_, _, _, _]) (st' := [_, _]) rfl ?_
  refine Ev.br (i1 := 27) (i2 := 25) e_X0_goesThrough rfl rfl (fun hq => ?_) (fun hq => ?_)
  · refine Ev.sn e_X0_goesThrough 1 (i' := 28) (ls' := [_, _, _, _]) (st' := [_]) rfl ?_
    refine Ev.iret e_X0_goesThrough rfl rfl rfl ?_ rfl
    rw [decide_eq_false (Int32.not_le.mpr hq)]; rfl
  · refine Ev.sn e_X0_goesThrough 2 (i' := 28) (ls' := [_, _, _, _]) (st' := [_]) rfl ?_
    refine Ev.iret e_X0_goesThrough rfl rfl rfl ?_ rfl
    rw [decide_eq_true (Int32.not_lt.mp hq)]; rfl
set_option maxRecDepth 20000 in
set_option maxHeartbeats 200000 in
theorem lp_X0_endOf (d : Nat) (g : RG) (tr : Int64) {n q dn : Nat} (hc : CI n q dn g) {t m : Nat} (ht : t < n) (hm : m ≤ 1000) : ∀ (j x a : Nat), x + j = dn → a ≤ 1000 → Ev (d + 1) 5 7 [.ref 16, .int (nI t), .int (nI m), .ref 17, .int (nI a), .int (nI x), .null] [] (wC g tr) (some (.int (nI (fo (eS (vC n q dn g) t m) j x a)))) (wC g tr) := by
  have hb := hc.b
  have hm9 := WF_m hc.w ht
  have v3 : (vC n q dn g) 3 t = g 35 t := cut_lt ht
  rw [v3] at hm9
  intro j
  induction j with
  | zero =>
    intro x a hx ha
    refine Ev.sn e_X0_endOf 3 (i' := 10) (ls' := [_, _, _, _, _, _, _]) (st' := [_, _]) rfl ?_
    refine Ev.brT (i1 := 40) (i2 := 11) e_X0_endOf rfl rfl (ge_t hc.hd (by omega) (by omega)) ?_
    refine Ev.sn e_X0_endOf 1 (i' := 41) (ls' := [_, _, _, _, _, _, _]) (st' := [_]) rfl ?_
    refine Ev.iret e_X0_endOf rfl rfl rfl ?_ rfl
    rfl
  | succ j ih =>
    intro x a hx ha
    rw [fo_s]
    have hxd : x < dn := by omega
    have hd := WF_d hc.w hxd
    have v8 : (vC n q dn g) 8 x = g 38 x := cut_lt hxd
    have v9 : (vC n q dn g) 9 x = g 39 x := cut_lt hxd
    rw [v8, v9] at hd
    refine Ev.sn e_X0_endOf 3 (i' := 10) (ls' := [_, _, _, _, _, _, _]) (st' := [_, _]) rfl ?_
    refine Ev.brF (i1 := 40) (i2 := 11) e_X0_endOf rfl rfl (ge_f hc.hd (by omega) (by omega)) ?_
    refine Ev.sn e_X0_endOf 4 (i' := 15) (ls' := [_, _, _, _, _, _, _]) (st' := [_, _, _]) rfl ?_
    refine Ev.ialdE e_X0_endOf rfl rfl rfl rfl (m := x) rfl (by omega) ?_
    refine Ev.clS e_X0_endOf rfl rfl rfl (as := [_, _]) rfl rfl rfl rfl rfl (c_J9_max_7cf53 _ _ _ _) rfl ?_
    refine Ev.sn e_X0_endOf 3 (i' := 20) (ls' := [_, _, _, _, _, _, _]) (st' := [_, _, _]) rfl ?_
    refine Ev.ialdE e_X0_endOf rfl rfl rfl rfl (m := t) rfl (by omega) ?_
    refine Ev.sn e_X0_endOf 1 (i' := 22) (ls' := [_, _, _, _, _, _, _]) (st' := [_]) rfl ?_
    rw [hd.1, mxI (by omega) (by omega), hm9.1, nI_add]
    refine Ev.sn e_X0_endOf 5 (i' := 27) (ls' := [_, _, _, _, _, _, _]) (st' := [_, _, _]) rfl ?_
    refine Ev.ialdE e_X0_endOf rfl rfl rfl rfl (m := x) rfl (by omega) ?_
    refine Ev.br (i1 := 38) (i2 := 29) e_X0_endOf rfl rfl (fun hq => ?_) (fun hq => ?_)
    · refine Ev.sn e_X0_endOf 2 (i' := 7) (ls' := [_, _, _, _, _, _, _]) (st' := []) rfl ?_
      have hq2 : ¬ max m (dF (vC n q dn g) x) + mN (vC n q dn g) t ≤ dU (vC n q dn g) x := fun h => by
        have hq : g 39 x < nI (max m (dF (vC n q dn g) x) + mN (vC n q dn g) t) := hq
        rw [hd.2.2.1] at hq
        exact nI_nlt h (by omega) hq
      rw [show eS (vC n q dn g) t m x a = a from if_neg (by unfold eC; rw [decide_eq_false hq2, Bool.false_and]; decide)]
      rw [nI_1]
      exact Ev.weak (lle_c (lle_c (lle_c (lle_c (lle_c (lle_c (lle_n lle_0))))))) (ih (x + 1) _ (by omega) (by omega))
    · have hq2 : max m (dF (vC n q dn g) x) + mN (vC n q dn g) t ≤ dU (vC n q dn g) x := by
        rcases Nat.lt_or_ge (dU (vC n q dn g) x) (max m (dF (vC n q dn g) x) + mN (vC n q dn g) t) with h | h
        · exact absurd (show g 39 x < nI (max m (dF (vC n q dn g) x) + mN (vC n q dn g) t) from by rw [hd.2.2.1]; exact nI_lt h (by omega)) hq
        · exact h
      refine Ev.sn e_X0_endOf 3 (i' := 32) (ls' := [_, _, _, _, _, _, _]) (st' := [_, _, _]) rfl ?_
      refine Ev.clS e_X0_endOf rfl rfl rfl (as := [_, _, _]) rfl rfl rfl rfl rfl (c_X0_goesThrough _ _ _ hc ht hxd) rfl ?_
      refine Ev.brB (i1 := 38) (i2 := 34) e_X0_endOf rfl rfl (fun hf => ?_) (fun hf => ?_)
      · refine Ev.sn e_X0_endOf 2 (i' := 7) (ls' := [_, _, _, _, _, _, _]) (st' := []) rfl ?_
        have hf2 : gtB (vC n q dn g) t x = false := hf
        rw [show eS (vC n q dn g) t m x a = a from if_neg (by unfold eC; rw [hf2, Bool.and_false]; decide)]
        rw [nI_1]
        exact Ev.weak (lle_c (lle_c (lle_c (lle_c (lle_c (lle_c (lle_n lle_0))))))) (ih (x + 1) _ (by omega) (by omega))
      · refine Ev.sn e_X0_endOf 2 (i' := 36) (ls' := [_, _, _, _, _, _, _]) (st' := [_, _]) rfl ?_
        refine Ev.clS e_X0_endOf rfl rfl rfl (as := [_, _]) rfl rfl rfl rfl rfl (c_J9_min_7cf53 _ _ _ _) rfl ?_
        rw [mnI (by omega) (by omega)]
        refine Ev.sn e_X0_endOf 3 (i' := 7) (ls' := [_, _, _, _, _, _, _]) (st' := []) rfl ?_
        have hf2 : gtB (vC n q dn g) t x = true := hf
        rw [show eS (vC n q dn g) t m x a = min a (max m (dF (vC n q dn g) x) + mN (vC n q dn g) t) from if_pos (by unfold eC; rw [hf2, decide_eq_true hq2]; rfl)]
        rw [nI_1]
        exact Ev.weak (lle_c (lle_c (lle_c (lle_c (lle_c (lle_c (lle_n lle_0))))))) (ih (x + 1) _ (by omega) (by omega))
set_option maxRecDepth 20000 in
set_option maxHeartbeats 200000 in
theorem c_X0_endOf (d : Nat) (g : RG) (tr : Int64) {n q dn : Nat} (hc : CI n q dn g) {t m : Nat} (ht : t < n) (hm : m ≤ 1000) : Ev (d + 1) 5 0 [.ref 16, .int (nI t), .int (nI m), .null, .null, .null, .null] [] (wC g tr) (some (.int (nI (eN (vC n q dn g) dn t m)))) (wC g tr) := by
  refine Ev.sn e_X0_endOf 7 (i' := 7) (ls' := [_, _, _, _, _, _, _]) (st' := []) rfl ?_
  exact lp_X0_endOf d g tr hc ht hm dn 0 1000 (by omega) (by omega)
set_option maxRecDepth 20000 in
set_option maxHeartbeats 200000 in
theorem lp_X0_latestStartOf (d : Nat) (g : RG) (tr : Int64) {n q dn : Nat} (hc : CI n q dn g) {t L : Nat} (ht : t < n) (hL : L ≤ 1000) : ∀ (j x a : Nat), x + j = dn → a ≤ 1000 → Ev (d + 1) 6 7 [.ref 16, .int (nI t), .int (nI L - 1), .ref 17, .int (nI a - 1), .int (nI x), .null] [] (wC g tr) (some (.int (nI (fo (lS (vC n q dn g) t L) j x a) - 1))) (wC g tr) := by
  have hb := hc.b
  have hm9 := WF_m hc.w ht
  have v3 : (vC n q dn g) 3 t = g 35 t := cut_lt ht
  rw [v3] at hm9
  intro j
  induction j with
  | zero =>
    intro x a hx ha
    refine Ev.sn e_X0_latestStartOf 3 (i' := 10) (ls' := [_, _, _, _, _, _, _]) (st' := [_, _]) rfl ?_
    refine Ev.brT (i1 := 40) (i2 := 11) e_X0_latestStartOf rfl rfl (ge_t hc.hd (by omega) (by omega)) ?_
    refine Ev.sn e_X0_latestStartOf 1 (i' := 41) (ls' := [_, _, _, _, _, _, _]) (st' := [_]) rfl ?_
    refine Ev.iret e_X0_latestStartOf rfl rfl rfl ?_ rfl
    rfl
  | succ j ih =>
    intro x a hx ha
    rw [fo_s]
    have hxd : x < dn := by omega
    have hd := WF_d hc.w hxd
    have v8 : (vC n q dn g) 8 x = g 38 x := cut_lt hxd
    have v9 : (vC n q dn g) 9 x = g 39 x := cut_lt hxd
    rw [v8, v9] at hd
    by_cases hk : 1 ≤ L ∧ dF (vC n q dn g) x + mN (vC n q dn g) t ≤ min (L - 1) (dU (vC n q dn g) x)
    · obtain ⟨L', rfl⟩ : ∃ z, L = z + 1 := ⟨L - 1, by omega⟩
      have e0 : (if g 39 x < nI (L' + 1) - 1 then g 39 x else nI (L' + 1) - 1) = nI (min L' (dU (vC n q dn g) x)) := by
        rw [nI_pred, hd.2.2.1]
        exact mnI (by omega) (by omega)
      have e1 : nI (min L' (dU (vC n q dn g) x)) - nI (mN (vC n q dn g) t) = nI (min L' (dU (vC n q dn g) x) - mN (vC n q dn g) t) := pk_sub (by omega)
      have e2 : ¬ nI (min L' (dU (vC n q dn g) x) - mN (vC n q dn g) t) < g 38 x := by
        rw [hd.1]
        exact nI_nlt (by omega) (by omega)
      refine Ev.sn e_X0_latestStartOf 3 (i' := 10) (ls' := [_, _, _, _, _, _, _]) (st' := [_, _]) rfl ?_
      refine Ev.brF (i1 := 40) (i2 := 11) e_X0_latestStartOf rfl rfl (ge_f hc.hd (by omega) (by omega)) ?_
      refine Ev.sn e_X0_latestStartOf 4 (i' := 15) (ls' := [_, _, _, _, _, _, _]) (st' := [_, _, _]) rfl ?_
      refine Ev.ialdE e_X0_latestStartOf rfl rfl rfl rfl (m := x) rfl (by omega) ?_
      refine Ev.clS e_X0_latestStartOf rfl rfl rfl (as := [_, _]) rfl rfl rfl rfl rfl (c_J9_min_7cf53 _ _ _ _) rfl ?_
      refine Ev.sn e_X0_latestStartOf 3 (i' := 20) (ls' := [_, _, _, _, _, _, _]) (st' := [_, _, _]) rfl ?_
      refine Ev.ialdE e_X0_latestStartOf rfl rfl rfl rfl (m := t) rfl (by omega) ?_
      refine Ev.sn e_X0_latestStartOf 1 (i' := 22) (ls' := [_, _, _, _, _, _, _]) (st' := [_]) rfl ?_
      rw [e0, hm9.1, e1]
      refine Ev.sn e_X0_latestStartOf 5 (i' := 27) (ls' := [_, _, _, _, _, _, _]) (st' := [_, _, _]) rfl ?_
      refine Ev.ialdE e_X0_latestStartOf rfl rfl rfl rfl (m := x) rfl (by omega) ?_
      refine Ev.brF (i1 := 38) (i2 := 29) e_X0_latestStartOf rfl rfl (e2) ?_
      refine Ev.sn e_X0_latestStartOf 3 (i' := 32) (ls' := [_, _, _, _, _, _, _]) (st' := [_, _, _]) rfl ?_
      refine Ev.clS e_X0_latestStartOf rfl rfl rfl (as := [_, _, _]) rfl rfl rfl rfl rfl (c_X0_goesThrough _ _ _ hc ht hxd) rfl ?_
      refine Ev.brB (i1 := 38) (i2 := 34) e_X0_latestStartOf rfl rfl (fun hf => ?_) (fun hf => ?_)
      · refine Ev.sn e_X0_latestStartOf 2 (i' := 7) (ls' := [_, _, _, _, _, _, _]) (st' := []) rfl ?_
        have hf2 : gtB (vC n q dn g) t x = false := hf
        rw [show lS (vC n q dn g) t (L' + 1) x a = a from if_neg (by unfold lC; rw [hf2, Bool.and_false]; decide)]
        rw [nI_1]
        exact Ev.weak (lle_c (lle_c (lle_c (lle_c (lle_c (lle_c (lle_n lle_0))))))) (ih (x + 1) _ (by omega) (by omega))
      · refine Ev.sn e_X0_latestStartOf 2 (i' := 36) (ls' := [_, _, _, _, _, _, _]) (st' := [_, _]) rfl ?_
        refine Ev.clS e_X0_latestStartOf rfl rfl rfl (as := [_, _]) rfl rfl rfl rfl rfl (c_J9_max_7cf53 _ _ _ _) rfl ?_
        rw [mxL (by omega) (by omega)]
        refine Ev.sn e_X0_latestStartOf 3 (i' := 7) (ls' := [_, _, _, _, _, _, _]) (st' := []) rfl ?_
        have hf2 : gtB (vC n q dn g) t x = true := hf
        rw [show lS (vC n q dn g) t (L' + 1) x a = max a (min L' (dU (vC n q dn g) x) - mN (vC n q dn g) t + 1) from if_pos (by unfold lC; rw [hf2, decide_eq_true hk]; rfl)]
        rw [nI_1]
        exact Ev.weak (lle_c (lle_c (lle_c (lle_c (lle_c (lle_c (lle_n lle_0))))))) (ih (x + 1) _ (by omega) (by omega))
    · have e2 : (if g 39 x < nI L - 1 then g 39 x else nI L - 1) - g 35 t < g 38 x := by
        rw [hd.2.2.1, hm9.1, hd.1]
        cases L with
        | zero =>
          rw [ni_m1, if_neg (fun h => Int32.lt_irrefl (Int32.lt_trans h (m1_lt (show dU (vC n q dn g) x < 2 ^ 31 by omega))))]
          exact Int32.lt_of_lt_of_le (m1_9 _ (by omega)) (nI_pos' (by omega))
        | succ L =>
          rw [nI_pred, mnI (by omega) (by omega)]
          rw [Int32.lt_iff_toInt_lt, pk_sub_toInt (by omega) (by omega), nI_toInt (by omega)]
          omega
      refine Ev.sn e_X0_latestStartOf 3 (i' := 10) (ls' := [_, _, _, _, _, _, _]) (st' := [_, _]) rfl ?_
      refine Ev.brF (i1 := 40) (i2 := 11) e_X0_latestStartOf rfl rfl (ge_f hc.hd (by omega) (by omega)) ?_
      refine Ev.sn e_X0_latestStartOf 4 (i' := 15) (ls' := [_, _, _, _, _, _, _]) (st' := [_, _, _]) rfl ?_
      refine Ev.ialdE e_X0_latestStartOf rfl rfl rfl rfl (m := x) rfl (by omega) ?_
      refine Ev.clS e_X0_latestStartOf rfl rfl rfl (as := [_, _]) rfl rfl rfl rfl rfl (c_J9_min_7cf53 _ _ _ _) rfl ?_
      refine Ev.sn e_X0_latestStartOf 3 (i' := 20) (ls' := [_, _, _, _, _, _, _]) (st' := [_, _, _]) rfl ?_
      refine Ev.ialdE e_X0_latestStartOf rfl rfl rfl rfl (m := t) rfl (by omega) ?_
      refine Ev.sn e_X0_latestStartOf 6 (i' := 27) (ls' := [_, _, _, _, _, _, _]) (st' := [_, _, _]) rfl ?_
      refine Ev.ialdE e_X0_latestStartOf rfl rfl rfl rfl (m := x) rfl (by omega) ?_
      refine Ev.brT (i1 := 38) (i2 := 29) e_X0_latestStartOf rfl rfl (e2) ?_
      refine Ev.sn e_X0_latestStartOf 2 (i' := 7) (ls' := [_, _, _, _, _, _, _]) (st' := []) rfl ?_
      rw [show lS (vC n q dn g) t L x a = a from if_neg (by unfold lC; rw [decide_eq_false hk, Bool.false_and]; decide)]
      rw [nI_1]
      exact Ev.weak (lle_c (lle_c (lle_c (lle_c (lle_c (lle_c (lle_n lle_0))))))) (ih (x + 1) _ (by omega) (by omega))
set_option maxRecDepth 20000 in
set_option maxHeartbeats 200000 in
theorem c_X0_latestStartOf (d : Nat) (g : RG) (tr : Int64) {n q dn : Nat} (hc : CI n q dn g) {t L : Nat} (ht : t < n) (hL : L ≤ 1000) : Ev (d + 1) 6 0 [.ref 16, .int (nI t), .int (nI L - 1), .null, .null, .null, .null] [] (wC g tr) (some (.int (nI (lsN (vC n q dn g) dn t L) - 1))) (wC g tr) := by
  refine Ev.sn e_X0_latestStartOf 7 (i' := 7) (ls' := [_, _, _, _, _, _, _]) (st' := []) rfl ?_
  exact lp_X0_latestStartOf d g tr hc ht hL dn 0 0 (by omega) (by omega)
