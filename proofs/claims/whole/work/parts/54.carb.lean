/-! CARRIED: the class's tables -/
theorem all_I {n : Nat} (hn : n ≤ 6) {x : Int32} (hx : x = nI n) : (1 : Int32) <<< (x &&& 31) = nI (2 ^ n) := by
  subst hx
  have h : ∀ p, p < 7 → (1 : Int32) <<< (nI p &&& 31) = nI (2 ^ p) := by decide
  exact h n (by omega)
theorem pow_n {n : Nat} (hn : n ≤ 6) : 2 ^ n ≤ 64 := Nat.pow_le_pow_right (n := 2) (by omega) hn
theorem all_1 {n : Nat} (hn : n ≤ 6) {x : Int32} (hx : x = nI n) : (1 : Int32) <<< (x &&& 31) - 1 = nI (2 ^ n - 1) := by
  rw [all_I hn hx]
  have := Nat.two_pow_pos n
  rw [show 2 ^ n = (2 ^ n - 1) + 1 by omega, nI_pred]
  congr 1
def S_few (v : VW) (n dn : Nat) : Int32 := if so v n dn (2 ^ n - 1) = 1000 then -9 else nI (so v n dn (2 ^ n - 1))
theorem soS_le {v : VW} {n dn S t a : Nat} (ha : a ≤ 1000) : soS v n dn S t a ≤ 1000 := by
  unfold soS
  split <;> omega
theorem fo_soS {v : VW} {n dn S : Nat} : ∀ (j t a : Nat), a ≤ 1000 → fo (soS v n dn S) j t a ≤ 1000
  | 0, _, _, h => h
  | j + 1, t, a, h => by rw [fo_s]; exact fo_soS j (t + 1) _ (soS_le h)
theorem laS_le {v : VW} {n dn L S t a : Nat} (hU : UB v dn) (ha : a ≤ 1000) : laS v n dn L S t a ≤ 1000 := by
  have := lsN_le (t := t) (L := la v n dn L (S ^^^ 2 ^ t)) hU
  unfold laS
  split <;> omega
set_option maxRecDepth 20000 in
set_option maxHeartbeats 200000 in
theorem lq_X0_fewestMinutes (d : Nat) (g : RG) (tr : Int64) {n q dn : Nat} (hc : CI n q dn g) {S : Nat} (hS : S < 2 ^ n) (R : Nat → Int32) (hR : ∀ x, x < S → R x = nI (so (vC n q dn g) n dn x)) (r : Option Value) (w2 : AW) : ∀ (j t a : Nat), t + j = n → a ≤ 1000 → Ev (d + 2) 1 61 [.ref 83, .ref 16, .int (nI (2 ^ n - 1)), .int (nI S), .null, .null] [] (wC (va_up g 102 (upd R S (nI (fo (soS (vC n q dn g) n dn S) j t a)))) tr) r w2 → Ev (d + 2) 1 25 [.ref 83, .ref 16, .int (nI (2 ^ n - 1)), .int (nI S), .int (nI t), .null] [] (wC (va_up g 102 (upd R S (nI a))) tr) r w2 := by
  have hb := hc.b
  have h64 := pow_n hb.1
  intro j
  induction j with
  | zero =>
    intro t a ht ha K
    have hc2 : CI n q dn (va_up g 102 (upd R S (nI a))) := hc
    refine Ev.sn e_X0_fewestMinutes 4 (i' := 29) (ls' := [_, _, _, _, _, _]) (st' := [_, _]) rfl ?_
    refine Ev.brT (i1 := 61) (i2 := 30) e_X0_fewestMinutes rfl rfl (ge_t hc2.hn (by omega) (by omega)) ?_
    exact Ev.weak (lle_c (lle_c (lle_c (lle_c (lle_n (lle_n lle_0)))))) K
  | succ j ih =>
    intro t a ht ha K
    have hc2 : CI n q dn (va_up g 102 (upd R S (nI a))) := hc
    have htn : t < n := by omega
    have hb1 := bit_1 (show S < 64 by omega) (show t < 6 by omega)
    have hx64 := xor_64 S (by omega) t (by omega)
    rw [fo_s] at K
    by_cases hz : S.testBit t = true
    · have hx := xlt (show S < 64 by omega) hz
      have hRx : upd R S (nI a) (S ^^^ 2 ^ t) = nI (so (vC n q dn g) n dn (S ^^^ 2 ^ t)) := by
        rw [pk_un (by omega)]
        exact hR _ hx.1
      have hso := so_1000 (v := (vC n q dn g)) (dn := dn) hb.1 hx64
      have hen : eN (vC n q dn g) dn t (so (vC n q dn g) n dn (S ^^^ 2 ^ t)) ≤ 1000 := eN_1000
      have E := c_X0_endOf (d + 0) (va_up g 102 (upd R S (nI a))) tr hc2 htn hso
      rw [show vC n q dn (va_up g 102 (upd R S (nI a))) = vC n q dn g from rfl] at E
      rw [show soS (vC n q dn g) n dn S t a = min a (eN (vC n q dn g) dn t (so (vC n q dn g) n dn (S ^^^ 2 ^ t))) from if_pos hz] at K
      refine Ev.sn e_X0_fewestMinutes 4 (i' := 29) (ls' := [_, _, _, _, _, _]) (st' := [_, _]) rfl ?_
      refine Ev.brF (i1 := 61) (i2 := 30) e_X0_fewestMinutes rfl rfl (ge_f hc2.hn (by omega) (by omega)) ?_
      refine Ev.sn e_X0_fewestMinutes 6 (i' := 36) (ls' := [_, _, _, _, _, _]) (st' := [_, _]) rfl ?_
      refine Ev.brT (i1 := 37) (i2 := 59) e_X0_fewestMinutes rfl rfl ((hb1.mpr hz)) ?_
      refine Ev.sn e_X0_fewestMinutes 9 (i' := 46) (ls' := [_, _, _, _, _, _]) (st' := [_, _, _, _]) rfl ?_
      refine Ev.ialdE e_X0_fewestMinutes rfl rfl rfl rfl (m := S ^^^ 2 ^ t) (xor_I S (by omega) t (by omega)) (by omega) ?_
      rw [va_up_self, hRx]
      refine Ev.clS e_X0_fewestMinutes rfl rfl rfl (as := [_, _, _]) rfl rfl rfl rfl rfl (E) rfl ?_
      refine Ev.sn e_X0_fewestMinutes 7 (i' := 55) (ls' := [_, _, _, _, _, _]) (st' := [_, _, _, _]) rfl ?_
      refine Ev.ialdE e_X0_fewestMinutes rfl rfl rfl rfl (m := S) rfl (by omega) ?_
      refine Ev.sn e_X0_fewestMinutes 1 (i' := 57) (ls' := [_, _, _, _, _, _]) (st' := [_, _, _, _]) rfl ?_
      refine Ev.clS e_X0_fewestMinutes rfl rfl rfl (as := [_, _]) rfl rfl rfl rfl rfl (c_J9_min_7cf53 _ _ _ _) rfl ?_
      rw [va_up_self, pk_us, mnI (by omega) (by omega)]
      refine Ev.iastE e_X0_fewestMinutes rfl rfl rfl (m := S) rfl (by omega) (wC_102 _ _ _ _) ?_
      refine Ev.sn e_X0_fewestMinutes 2 (i' := 25) (ls' := [_, _, _, _, _, _]) (st' := []) rfl ?_
      rw [va_up_self, upd_two, nI_1]
      exact Ev.weak (lle_c (lle_c (lle_c (lle_c (lle_c (lle_n lle_0)))))) (ih (t + 1) _ (by omega) (by omega) K)
    · rw [show soS (vC n q dn g) n dn S t a = a from if_neg hz] at K
      refine Ev.sn e_X0_fewestMinutes 4 (i' := 29) (ls' := [_, _, _, _, _, _]) (st' := [_, _]) rfl ?_
      refine Ev.brF (i1 := 61) (i2 := 30) e_X0_fewestMinutes rfl rfl (ge_f hc2.hn (by omega) (by omega)) ?_
      refine Ev.sn e_X0_fewestMinutes 6 (i' := 36) (ls' := [_, _, _, _, _, _]) (st' := [_, _]) rfl ?_
      refine Ev.brF (i1 := 37) (i2 := 59) e_X0_fewestMinutes rfl rfl ((fun h => hz (hb1.mp h))) ?_
      refine Ev.sn e_X0_fewestMinutes 2 (i' := 25) (ls' := [_, _, _, _, _, _]) (st' := []) rfl ?_
      rw [nI_1]
      exact ih (t + 1) _ (by omega) (by omega) K
set_option maxRecDepth 20000 in
set_option maxHeartbeats 200000 in
theorem lp_X0_fewestMinutes (d : Nat) (g : RG) (tr : Int64) {n q dn : Nat} (hc : CI n q dn g) : ∀ (j S : Nat) (R : Nat → Int32), S + j = 2 ^ n → 0 < S → (∀ x, x < S → R x = nI (so (vC n q dn g) n dn x)) → ∃ R', Ev (d + 2) 1 15 [.ref 83, .ref 16, .int (nI (2 ^ n - 1)), .int (nI S), .null, .null] [] (wC (va_up g 102 R) tr) (some (.int (S_few (vC n q dn g) n dn))) (wC (va_up g 102 R') tr) := by
  have hb := hc.b
  have h64 := pow_n hb.1
  have hpp := Nat.two_pow_pos n
  intro j
  induction j with
  | zero =>
    intro S R hj hS0 hR
    refine ⟨R, ?_⟩
    have hr := hR (2 ^ n - 1) (by omega)
    have hso := so_1000 (v := (vC n q dn g)) (n := n) (dn := dn) (S := 2 ^ n - 1) hb.1 (by omega)
    unfold S_few
    refine Ev.sn e_X0_fewestMinutes 2 (i' := 17) (ls' := [_, _, _, _, _, _]) (st' := [_, _]) rfl ?_
    refine Ev.brT (i1 := 63) (i2 := 18) e_X0_fewestMinutes rfl rfl ((nI_lt (by omega) (by omega))) ?_
    refine Ev.sn e_X0_fewestMinutes 3 (i' := 66) (ls' := [_, _, _, _, _, _]) (st' := [_, _]) rfl ?_
    refine Ev.ialdE e_X0_fewestMinutes rfl rfl rfl rfl (m := 2 ^ n - 1) rfl (by omega) ?_
    refine Ev.sn e_X0_fewestMinutes 1 (i' := 68) (ls' := [_, _, _, _, _, _]) (st' := [_, _]) rfl ?_
    refine Ev.br (i1 := 69) (i2 := 71) e_X0_fewestMinutes rfl rfl (fun hq => ?_) (fun hq => ?_)
    · refine Ev.sn e_X0_fewestMinutes 2 (i' := 75) (ls' := [_, _, _, _, _, _]) (st' := [_]) rfl ?_
      refine Ev.iret e_X0_fewestMinutes rfl rfl rfl ?_ rfl
      have hq : R (2 ^ n - 1) = 1000 := hq
      rw [hr] at hq
      rw [if_pos ((nI_eq (b := 1000) (by omega) (by omega)).mp hq)]
    · refine Ev.sn e_X0_fewestMinutes 3 (i' := 74) (ls' := [_, _, _, _, _, _]) (st' := [_, _]) rfl ?_
      refine Ev.ialdE e_X0_fewestMinutes rfl rfl rfl rfl (m := 2 ^ n - 1) rfl (by omega) ?_
      refine Ev.iret e_X0_fewestMinutes rfl rfl rfl ?_ rfl
      have hq : ¬ R (2 ^ n - 1) = 1000 := hq
      rw [hr] at hq
      rw [if_neg (fun h => hq (by rw [h]; rfl))]
      exact hr
  | succ j ih =>
    intro S R hj hS0 hR
    have hss := so_s (v := (vC n q dn g)) (dn := dn) hb.1 (show S < 64 by omega) (by omega)
    obtain ⟨R', a⟩ := ih (S + 1) (upd R S (nI (fo (soS (vC n q dn g) n dn S) n 0 1000))) (by omega) (by omega) (by
      intro x hx
      by_cases e : x = S
      · subst e; rw [pk_us, hss]
      · rw [pk_un e]; exact hR x (by omega))
    refine ⟨R', ?_⟩
    refine Ev.sn e_X0_fewestMinutes 2 (i' := 17) (ls' := [_, _, _, _, _, _]) (st' := [_, _]) rfl ?_
    refine Ev.brF (i1 := 63) (i2 := 18) e_X0_fewestMinutes rfl rfl ((nI_nlt (by omega) (by omega))) ?_
    refine Ev.sn e_X0_fewestMinutes 4 (i' := 22) (ls' := [_, _, _, _, _, _]) (st' := [_, _, _]) rfl ?_
    refine Ev.iastE e_X0_fewestMinutes rfl rfl rfl (m := S) rfl (by omega) (wC_102 _ _ _ _) ?_
    refine Ev.sn e_X0_fewestMinutes 2 (i' := 25) (ls' := [_, _, _, _, _, _]) (st' := []) rfl ?_
    refine lq_X0_fewestMinutes d g tr hc (show S < 2 ^ n by omega) R hR _ _ n 0 1000 (by omega) (by omega) ?_
    refine Ev.sn e_X0_fewestMinutes 2 (i' := 15) (ls' := [_, _, _, _, _, _]) (st' := []) rfl ?_
    rw [nI_1]
    exact a
set_option maxRecDepth 20000 in
set_option maxHeartbeats 200000 in
theorem c_X0_fewestMinutes (d : Nat) (g : RG) (tr : Int64) {n q dn : Nat} (hc : CI n q dn g) (R : Nat → Int32) : ∃ R', Ev (d + 2) 1 0 [.ref 83, .ref 16, .null, .null, .null, .null] [] (wC (va_up g 102 R) tr) (some (.int (S_few (vC n q dn g) n dn))) (wC (va_up g 102 R') tr) := by
  have hb := hc.b
  have hpp := Nat.two_pow_pos n
  have hal := all_1 hb.1 (show (va_up g 102 R) 42 0 = nI n from hc.hn)
  obtain ⟨R', a⟩ := lp_X0_fewestMinutes d g tr hc (2 ^ n - 1) 1 (upd R 0 0) (by omega) (by omega) (by
    intro x hx
    have : x = 0 := by omega
    subst this
    rw [pk_us, so_0]
    rfl)
  refine ⟨R', ?_⟩
  refine Ev.sn e_X0_fewestMinutes 7 (i' := 7) (ls' := [_, _, _, _, _, _]) (st' := [_]) rfl ?_
  rw [hal]
  refine Ev.sn e_X0_fewestMinutes 5 (i' := 12) (ls' := [_, _, _, _, _, _]) (st' := [_, _, _]) rfl ?_
  refine Ev.iastE e_X0_fewestMinutes rfl rfl rfl (m := 0) rfl (by decide) (wC_102 _ _ _ _) ?_
  refine Ev.sn e_X0_fewestMinutes 2 (i' := 15) (ls' := [_, _, _, _, _, _]) (st' := []) rfl ?_
  exact a
theorem mxL2 {a s : Nat} (ha : a < 2 ^ 31) (hs : s < 2 ^ 31) : (if nI a - 1 < nI s - 1 then nI s - 1 else nI a - 1) = nI (max a s) - 1 := by
  cases s with
  | zero =>
    rw [ni_m1, Nat.max_eq_left (by omega)]
    cases a with
    | zero => rw [ni_m1, if_neg Int32.lt_irrefl]
    | succ a => rw [nI_pred, if_neg (fun h => Int32.lt_irrefl (Int32.lt_trans h (m1_lt (by omega))))]
  | succ s =>
    rw [nI_pred, mxL ha (by omega)]
set_option maxRecDepth 20000 in
set_option maxHeartbeats 200000 in
theorem lq_X0_findLatest (d : Nat) (g : RG) (tr : Int64) {n q dn : Nat} (hc : CI n q dn g) {S L : Nat} (hS : S < 2 ^ n) (hL : L < 1000) (R : Nat → Int32) (hR : ∀ x, x < S → R x = nI (la (vC n q dn g) n dn (L + 1) x) - 1) (r : Option Value) (w2 : AW) : ∀ (j t a : Nat), t + j = n → a ≤ 1000 → Ev (d + 2) 3 57 [.ref 83, .ref 16, .int (nI L), .int (nI S), .null, .null] [] (wC (va_up g 103 (upd R S (nI (fo (laS (vC n q dn g) n dn (L + 1) S) j t a) - 1))) tr) r w2 → Ev (d + 2) 3 21 [.ref 83, .ref 16, .int (nI L), .int (nI S), .int (nI t), .null] [] (wC (va_up g 103 (upd R S (nI a - 1))) tr) r w2 := by
  have hb := hc.b
  have h64 := pow_n hb.1
  have hU := WF_U hc.w
  intro j
  induction j with
  | zero =>
    intro t a ht ha K
    have hc2 : CI n q dn (va_up g 103 (upd R S (nI a - 1))) := hc
    refine Ev.sn e_X0_findLatest 4 (i' := 25) (ls' := [_, _, _, _, _, _]) (st' := [_, _]) rfl ?_
    refine Ev.brT (i1 := 57) (i2 := 26) e_X0_findLatest rfl rfl (ge_t hc2.hn (by omega) (by omega)) ?_
    exact Ev.weak (lle_c (lle_c (lle_c (lle_c (lle_n (lle_n lle_0)))))) K
  | succ j ih =>
    intro t a ht ha K
    have hc2 : CI n q dn (va_up g 103 (upd R S (nI a - 1))) := hc
    have htn : t < n := by omega
    have hb1 := bit_1 (show S < 64 by omega) (show t < 6 by omega)
    have hx64 := xor_64 S (by omega) t (by omega)
    rw [fo_s] at K
    by_cases hz : S.testBit t = true
    · have hx := xlt (show S < 64 by omega) hz
      have hRx : upd R S (nI a - 1) (S ^^^ 2 ^ t) = nI (la (vC n q dn g) n dn (L + 1) (S ^^^ 2 ^ t)) - 1 := by
        rw [pk_un (by omega)]
        exact hR _ hx.1
      have hla := la_le (n := n) (L := L + 1) hU (by omega) hb.1 hx64
      have hls := lsN_le (t := t) (L := la (vC n q dn g) n dn (L + 1) (S ^^^ 2 ^ t)) hU
      have E := c_X0_latestStartOf (d + 0) (va_up g 103 (upd R S (nI a - 1))) tr hc2 htn hla
      rw [show vC n q dn (va_up g 103 (upd R S (nI a - 1))) = vC n q dn g from rfl] at E
      rw [show laS (vC n q dn g) n dn (L + 1) S t a = max a (lsN (vC n q dn g) dn t (la (vC n q dn g) n dn (L + 1) (S ^^^ 2 ^ t))) from if_pos hz] at K
      refine Ev.sn e_X0_findLatest 4 (i' := 25) (ls' := [_, _, _, _, _, _]) (st' := [_, _]) rfl ?_
      refine Ev.brF (i1 := 57) (i2 := 26) e_X0_findLatest rfl rfl (ge_f hc2.hn (by omega) (by omega)) ?_
      refine Ev.sn e_X0_findLatest 6 (i' := 32) (ls' := [_, _, _, _, _, _]) (st' := [_, _]) rfl ?_
      refine Ev.brT (i1 := 33) (i2 := 55) e_X0_findLatest rfl rfl ((hb1.mpr hz)) ?_
      refine Ev.sn e_X0_findLatest 9 (i' := 42) (ls' := [_, _, _, _, _, _]) (st' := [_, _, _, _]) rfl ?_
      refine Ev.ialdE e_X0_findLatest rfl rfl rfl rfl (m := S ^^^ 2 ^ t) (xor_I S (by omega) t (by omega)) (by omega) ?_
      rw [va_up_self, hRx]
      refine Ev.clS e_X0_findLatest rfl rfl rfl (as := [_, _, _]) rfl rfl rfl rfl rfl (E) rfl ?_
      refine Ev.sn e_X0_findLatest 7 (i' := 51) (ls' := [_, _, _, _, _, _]) (st' := [_, _, _, _]) rfl ?_
      refine Ev.ialdE e_X0_findLatest rfl rfl rfl rfl (m := S) rfl (by omega) ?_
      refine Ev.sn e_X0_findLatest 1 (i' := 53) (ls' := [_, _, _, _, _, _]) (st' := [_, _, _, _]) rfl ?_
      refine Ev.clS e_X0_findLatest rfl rfl rfl (as := [_, _]) rfl rfl rfl rfl rfl (c_J9_max_7cf53 _ _ _ _) rfl ?_
      rw [va_up_self, pk_us, mxL2 (by omega) (by omega)]
      refine Ev.iastE e_X0_findLatest rfl rfl rfl (m := S) rfl (by omega) (wC_103 _ _ _ _) ?_
      refine Ev.sn e_X0_findLatest 2 (i' := 21) (ls' := [_, _, _, _, _, _]) (st' := []) rfl ?_
      rw [va_up_self, upd_two, nI_1]
      exact Ev.weak (lle_c (lle_c (lle_c (lle_c (lle_c (lle_n lle_0)))))) (ih (t + 1) _ (by omega) (by omega) K)
    · rw [show laS (vC n q dn g) n dn (L + 1) S t a = a from if_neg hz] at K
      refine Ev.sn e_X0_findLatest 4 (i' := 25) (ls' := [_, _, _, _, _, _]) (st' := [_, _]) rfl ?_
      refine Ev.brF (i1 := 57) (i2 := 26) e_X0_findLatest rfl rfl (ge_f hc2.hn (by omega) (by omega)) ?_
      refine Ev.sn e_X0_findLatest 6 (i' := 32) (ls' := [_, _, _, _, _, _]) (st' := [_, _]) rfl ?_
      refine Ev.brF (i1 := 33) (i2 := 55) e_X0_findLatest rfl rfl ((fun h => hz (hb1.mp h))) ?_
      refine Ev.sn e_X0_findLatest 2 (i' := 21) (ls' := [_, _, _, _, _, _]) (st' := []) rfl ?_
      rw [nI_1]
      exact ih (t + 1) _ (by omega) (by omega) K
set_option maxRecDepth 20000 in
set_option maxHeartbeats 200000 in
theorem lp_X0_findLatest (d : Nat) (g : RG) (tr : Int64) {n q dn : Nat} (hc : CI n q dn g) {L : Nat} (hL : L < 1000) : ∀ (j S : Nat) (R : Nat → Int32), S + j = 2 ^ n → 0 < S → (∀ x, x < S → R x = nI (la (vC n q dn g) n dn (L + 1) x) - 1) → ∃ R', Ev (d + 2) 3 7 [.ref 83, .ref 16, .int (nI L), .int (nI S), .null, .null] [] (wC (va_up g 103 R) tr) none (wC (va_up g 103 R') tr) ∧ ∀ x, x < 2 ^ n → R' x = nI (la (vC n q dn g) n dn (L + 1) x) - 1 := by
  have hb := hc.b
  have h64 := pow_n hb.1
  have hpp := Nat.two_pow_pos n
  intro j
  induction j with
  | zero =>
    intro S R hj hS0 hR
    refine ⟨R, ?_, fun x hx => hR x (by omega)⟩
    have hal := all_I hb.1 (show (va_up g 103 R) 42 0 = nI n from hc.hn)
    refine Ev.sn e_X0_findLatest 6 (i' := 13) (ls' := [_, _, _, _, _, _]) (st' := [_, _]) rfl ?_
    refine Ev.brT (i1 := 59) (i2 := 14) e_X0_findLatest rfl rfl (ge_t hal (by omega) (by omega)) ?_
    exact Ev.vret e_X0_findLatest rfl rfl rfl
  | succ j ih =>
    intro S R hj hS0 hR
    have hss := la_s (v := (vC n q dn g)) (dn := dn) (L := L + 1) hb.1 (show S < 64 by omega) (by omega)
    obtain ⟨R', a, a2⟩ := ih (S + 1) (upd R S (nI (fo (laS (vC n q dn g) n dn (L + 1) S) n 0 0) - 1)) (by omega) (by omega) (by
      intro x hx
      by_cases e : x = S
      · subst e; rw [pk_us, hss]
      · rw [pk_un e]; exact hR x (by omega))
    refine ⟨R', ?_, a2⟩
    have hal := all_I hb.1 (show (va_up g 103 R) 42 0 = nI n from hc.hn)
    refine Ev.sn e_X0_findLatest 6 (i' := 13) (ls' := [_, _, _, _, _, _]) (st' := [_, _]) rfl ?_
    refine Ev.brF (i1 := 59) (i2 := 14) e_X0_findLatest rfl rfl (ge_f hal (by omega) (by omega)) ?_
    refine Ev.sn e_X0_findLatest 4 (i' := 18) (ls' := [_, _, _, _, _, _]) (st' := [_, _, _]) rfl ?_
    refine Ev.iastE e_X0_findLatest rfl rfl rfl (m := S) rfl (by omega) (wC_103 _ _ _ _) ?_
    refine Ev.sn e_X0_findLatest 2 (i' := 21) (ls' := [_, _, _, _, _, _]) (st' := []) rfl ?_
    refine lq_X0_findLatest d g tr hc (show S < 2 ^ n by omega) hL R hR _ _ n 0 0 (by omega) (by omega) ?_
    refine Ev.sn e_X0_findLatest 2 (i' := 7) (ls' := [_, _, _, _, _, _]) (st' := []) rfl ?_
    rw [nI_1]
    exact a
set_option maxRecDepth 20000 in
set_option maxHeartbeats 200000 in
theorem c_X0_findLatest (d : Nat) (g : RG) (tr : Int64) {n q dn : Nat} (hc : CI n q dn g) {L : Nat} (hL : L < 1000) (R : Nat → Int32) : ∃ R', Ev (d + 2) 3 0 [.ref 83, .ref 16, .int (nI L), .null, .null, .null] [] (wC (va_up g 103 R) tr) none (wC (va_up g 103 R') tr) ∧ ∀ x, x < 2 ^ n → R' x = nI (la (vC n q dn g) n dn (L + 1) x) - 1 := by
  have hb := hc.b
  have hpp := Nat.two_pow_pos n
  obtain ⟨R', a, a2⟩ := lp_X0_findLatest d g tr hc hL (2 ^ n - 1) 1 (upd R 0 (nI L)) (by omega) (by omega) (by
    intro x hx
    have : x = 0 := by omega
    subst this
    rw [pk_us, la_0, nI_pred])
  refine ⟨R', ?_, a2⟩
  refine Ev.sn e_X0_findLatest 4 (i' := 4) (ls' := [_, _, _, _, _, _]) (st' := [_, _, _]) rfl ?_
  refine Ev.iastE e_X0_findLatest rfl rfl rfl (m := 0) rfl (by decide) (wC_103 _ _ _ _) ?_
  refine Ev.sn e_X0_findLatest 2 (i' := 7) (ls' := [_, _, _, _, _, _]) (st' := []) rfl ?_
  exact a
def LOB (v : VW) (n dn L S m : Nat) : Nat → Bool := fun t => S.testBit t && decide (eN v dn t m < la v n dn L (S ^^^ 2 ^ t))
set_option maxRecDepth 20000 in
set_option maxHeartbeats 200000 in
theorem lp_X0_lowestInTime (d : Nat) (g : RG) (tr : Int64) {n q dn : Nat} (hc : CI n q dn g) {S L m : Nat} (hS : S < 2 ^ n) (hL : L ≤ 1000) (hm : m ≤ 1000) (R : Nat → Int32) (hR : ∀ x, x < 2 ^ n → R x = nI (la (vC n q dn g) n dn L x) - 1) : ∀ (j t : Nat), t + j = n → anyN (LOB (vC n q dn g) n dn L S m) j t = true → Ev (d + 2) 4 2 [.ref 83, .ref 16, .int (nI S), .int (nI m), .int (nI t)] [] (wC (va_up g 103 R) tr) (some (.int (nI (firT (LOB (vC n q dn g) n dn L S m) j t)))) (wC (va_up g 103 R) tr) := by
  have hb := hc.b
  have h64 := pow_n hb.1
  have hU := WF_U hc.w
  have hc2 : CI n q dn (va_up g 103 R) := hc
  intro j
  induction j with
  | zero =>
    intro t ht ha
    exact absurd ha (by simp [anyN])
  | succ j ih =>
    intro t ht ha
    rw [anyN_s] at ha
    rw [firT_s]
    have htn : t < n := by omega
    have hb1 := bit_1 (show S < 64 by omega) (show t < 6 by omega)
    have hx64 := xor_64 S (by omega) t (by omega)
    have hen : eN (vC n q dn g) dn t m ≤ 1000 := eN_1000
    have hla := la_le (n := n) (L := L) hU hL hb.1 hx64
    by_cases hz : S.testBit t = true
    · have hx := xlt (show S < 64 by omega) hz
      have hRx := hR (S ^^^ 2 ^ t) (by omega)
      have hcmp : (R (S ^^^ 2 ^ t) < nI (eN (vC n q dn g) dn t m)) ↔ ¬ eN (vC n q dn g) dn t m < la (vC n q dn g) n dn L (S ^^^ 2 ^ t) := by
        rw [hRx]
        cases hl : la (vC n q dn g) n dn L (S ^^^ 2 ^ t) with
        | zero =>
          rw [ni_m1]
          exact ⟨fun _ => by omega, fun _ => m1_lt (by omega)⟩
        | succ l =>
          rw [hl] at hla
          rw [nI_pred, nI_ltI (by omega) (by omega)]
          omega
      by_cases hlt : eN (vC n q dn g) dn t m < la (vC n q dn g) n dn L (S ^^^ 2 ^ t)
      · have hP : (LOB (vC n q dn g) n dn L S m) t = true := by
          unfold LOB
          rw [hz, decide_eq_true hlt]
          rfl
        rw [if_pos hP]
        refine Ev.sn e_X0_lowestInTime 4 (i' := 6) (ls' := [_, _, _, _, _]) (st' := [_, _]) rfl ?_
        refine Ev.brF (i1 := 31) (i2 := 7) e_X0_lowestInTime rfl rfl (ge_f hc2.hn (by omega) (by omega)) ?_
        refine Ev.sn e_X0_lowestInTime 6 (i' := 13) (ls' := [_, _, _, _, _]) (st' := [_, _]) rfl ?_
        refine Ev.brT (i1 := 14) (i2 := 29) e_X0_lowestInTime rfl rfl ((hb1.mpr hz)) ?_
        refine Ev.sn e_X0_lowestInTime 3 (i' := 17) (ls' := [_, _, _, _, _]) (st' := [_, _, _]) rfl ?_
        refine Ev.clS e_X0_lowestInTime rfl rfl rfl (as := [_, _, _]) rfl rfl rfl rfl rfl (c_X0_endOf _ _ _ hc2 htn hm) rfl ?_
        refine Ev.sn e_X0_lowestInTime 7 (i' := 25) (ls' := [_, _, _, _, _]) (st' := [_, _, _]) rfl ?_
        refine Ev.ialdE e_X0_lowestInTime rfl rfl rfl rfl (m := S ^^^ 2 ^ t) (xor_I S (by omega) t (by omega)) (by omega) ?_
        refine Ev.brF (i1 := 29) (i2 := 27) e_X0_lowestInTime rfl rfl ((fun h => hcmp.mp h hlt)) ?_
        refine Ev.sn e_X0_lowestInTime 1 (i' := 28) (ls' := [_, _, _, _, _]) (st' := [_]) rfl ?_
        refine Ev.iret e_X0_lowestInTime rfl rfl rfl ?_ rfl
        rfl
      · have hP : ¬ (LOB (vC n q dn g) n dn L S m) t = true := by
          unfold LOB
          rw [decide_eq_false hlt, Bool.and_false]
          decide
        rw [if_neg hP] at ha ⊢
        refine Ev.sn e_X0_lowestInTime 4 (i' := 6) (ls' := [_, _, _, _, _]) (st' := [_, _]) rfl ?_
        refine Ev.brF (i1 := 31) (i2 := 7) e_X0_lowestInTime rfl rfl (ge_f hc2.hn (by omega) (by omega)) ?_
        refine Ev.sn e_X0_lowestInTime 6 (i' := 13) (ls' := [_, _, _, _, _]) (st' := [_, _]) rfl ?_
        refine Ev.brT (i1 := 14) (i2 := 29) e_X0_lowestInTime rfl rfl ((hb1.mpr hz)) ?_
        refine Ev.sn e_X0_lowestInTime 3 (i' := 17) (ls' := [_, _, _, _, _]) (st' := [_, _, _]) rfl ?_
        refine Ev.clS e_X0_lowestInTime rfl rfl rfl (as := [_, _, _]) rfl rfl rfl rfl rfl (c_X0_endOf _ _ _ hc2 htn hm) rfl ?_
        refine Ev.sn e_X0_lowestInTime 7 (i' := 25) (ls' := [_, _, _, _, _]) (st' := [_, _, _]) rfl ?_
        refine Ev.ialdE e_X0_lowestInTime rfl rfl rfl rfl (m := S ^^^ 2 ^ t) (xor_I S (by omega) t (by omega)) (by omega) ?_
        refine Ev.brT (i1 := 29) (i2 := 27) e_X0_lowestInTime rfl rfl ((hcmp.mpr hlt)) ?_
        refine Ev.sn e_X0_lowestInTime 2 (i' := 2) (ls' := [_, _, _, _, _]) (st' := []) rfl ?_
        rw [nI_1]
        exact ih (t + 1) (by omega) ha
    · have hP : ¬ (LOB (vC n q dn g) n dn L S m) t = true := by
        unfold LOB
        rw [Bool.not_eq_true] at hz
        rw [hz, Bool.false_and]
        decide
      rw [if_neg hP] at ha ⊢
      refine Ev.sn e_X0_lowestInTime 4 (i' := 6) (ls' := [_, _, _, _, _]) (st' := [_, _]) rfl ?_
      refine Ev.brF (i1 := 31) (i2 := 7) e_X0_lowestInTime rfl rfl (ge_f hc2.hn (by omega) (by omega)) ?_
      refine Ev.sn e_X0_lowestInTime 6 (i' := 13) (ls' := [_, _, _, _, _]) (st' := [_, _]) rfl ?_
      refine Ev.brF (i1 := 14) (i2 := 29) e_X0_lowestInTime rfl rfl ((fun h => hz (hb1.mp h))) ?_
      refine Ev.sn e_X0_lowestInTime 2 (i' := 2) (ls' := [_, _, _, _, _]) (st' := []) rfl ?_
      rw [nI_1]
      exact ih (t + 1) (by omega) ha
def gN (v : VW) (n dn L : Nat) : Nat → Nat → Nat → Nat
  | 0, S, m => firT (LOB v n dn L S m) n 0
  | j + 1, S, m => gN v n dn L j (S ^^^ 2 ^ firT (LOB v n dn L S m) n 0) (eN v dn (firT (LOB v n dn L S m) n 0) m)
theorem LOB_ex {v : VW} {n dn L S m : Nat} (hU : UB v dn) (hL : L ≤ 1000) (hn : n ≤ 6) (hS : S < 2 ^ n) (h0 : ¬ S = 0) (hm : m < la v n dn L S) : anyN (LOB v n dn L S m) n 0 = true := by
  have h64 := pow_n hn
  obtain ⟨t, h1, h2, h3⟩ := (la_max hn (by omega) h0 m).mp hm
  have hx := xlt (show S < 64 by omega) h2
  have h4 := (ls_iff (la_le hU hL hn (show S ^^^ 2 ^ t < 64 by omega))).mpr h3
  refine (anyN_iff _ _ _).mpr ⟨t, by omega, by omega, ?_⟩
  unfold LOB
  rw [h2, decide_eq_true h4]
  rfl
set_option maxRecDepth 20000 in
set_option maxHeartbeats 200000 in
theorem c_X0_lowestInTime (d : Nat) (g : RG) (tr : Int64) {n q dn : Nat} (hc : CI n q dn g) {S L m : Nat} (hS : S < 2 ^ n) (hL : L ≤ 1000) (hm : m ≤ 1000) (R : Nat → Int32) (hR : ∀ x, x < 2 ^ n → R x = nI (la (vC n q dn g) n dn L x) - 1) (ha : anyN (LOB (vC n q dn g) n dn L S m) n 0 = true) {t : Nat} (et : t = firT (LOB (vC n q dn g) n dn L S m) n 0) : Ev (d + 2) 4 0 [.ref 83, .ref 16, .int (nI S), .int (nI m), .null] [] (wC (va_up g 103 R) tr) (some (.int (nI t))) (wC (va_up g 103 R) tr) := by
  subst et
  refine Ev.sn e_X0_lowestInTime 2 (i' := 2) (ls' := [_, _, _, _, _]) (st' := []) rfl ?_
  exact lp_X0_lowestInTime d g tr hc hS hL hm R hR n 0 (by omega) ha
set_option maxRecDepth 20000 in
set_option maxHeartbeats 200000 in
theorem lp_X0_inFirstOrder (d : Nat) (g : RG) (tr : Int64) {n q dn : Nat} (hc : CI n q dn g) {L k : Nat} (hL : L ≤ 1000) (hk : k < 2000) (R : Nat → Int32) (hR : ∀ x, x < 2 ^ n → R x = nI (la (vC n q dn g) n dn L x) - 1) : ∀ (j i S m : Nat), i + j = k → S < 2 ^ n → m < la (vC n q dn g) n dn L S → j < pcN S → Ev (d + 3) 2 18 [.ref 83, .ref 16, .null, .int (nI k), .int (nI S), .int (nI m), .null, .int (nI i)] [] (wC (va_up g 103 R) tr) (some (.int (nI (gN (vC n q dn g) n dn L j S m)))) (wC (va_up g 103 R) tr) := by
  have hb := hc.b
  have h64 := pow_n hb.1
  have hU := WF_U hc.w
  have hc2 : CI n q dn (va_up g 103 R) := hc
  intro j
  induction j with
  | zero =>
    intro i S m hi hS hm hp
    have hla := la_le (n := n) (L := L) hU hL hb.1 (show S < 64 by omega)
    have h0 : ¬ S = 0 := fun e => by rw [e, pcN_0] at hp; omega
    have hex := LOB_ex hU hL hb.1 hS h0 hm
    have A := lp_X0_lowestInTime d g tr hc hS hL (show m ≤ 1000 by omega) R hR n 0 (by omega) hex
    have hf := firT_ok _ _ _ hex
    obtain ⟨t, et⟩ : ∃ t, t = firT (LOB (vC n q dn g) n dn L S m) n 0 := ⟨_, rfl⟩
    rw [← et] at A hf
    have htn : t < n := by omega
    have hF := hf.1
    unfold LOB at hF
    simp only [Bool.and_eq_true, decide_eq_true_eq] at hF
    have hx := xlt (show S < 64 by omega) hF.1
    have hS0 : ¬ nI S = 0 := nI_ne0 (by omega) (by omega)
    show Ev (d + 3) 2 18 _ [] _ (some (.int (nI (firT (LOB (vC n q dn g) n dn L S m) n 0)))) _
    rw [← et]
    refine Ev.sn e_X0_inFirstOrder 2 (i' := 20) (ls' := [_, _, _, _, _, _, _, _]) (st' := [_, _]) rfl ?_
    refine Ev.brF (i1 := 47) (i2 := 21) e_X0_inFirstOrder rfl rfl ((nI_nlt (by omega) (by omega))) ?_
    refine Ev.sn e_X0_inFirstOrder 1 (i' := 22) (ls' := [_, _, _, _, _, _, _, _]) (st' := [_]) rfl ?_
    refine Ev.brF (i1 := 47) (i2 := 23) e_X0_inFirstOrder rfl rfl (hS0) ?_
    refine Ev.sn e_X0_inFirstOrder 4 (i' := 27) (ls' := [_, _, _, _, _, _, _, _]) (st' := [_, _, _, _]) rfl ?_
    refine Ev.clV e_X0_inFirstOrder rfl rfl (as := [_, _, _]) rfl rfl rfl kl_X0_lowestInTime rfl rfl rfl (c_X0_lowestInTime d g tr hc hS hL (show m ≤ 1000 by omega) R hR hex et) rfl ?_
    refine Ev.sn e_X0_inFirstOrder 3 (i' := 31) (ls' := [_, _, _, _, _, _, _, _]) (st' := [_, _]) rfl ?_
    refine Ev.brF (i1 := 32) (i2 := 34) e_X0_inFirstOrder rfl rfl ((nI_n9 (by omega))) ?_
    refine Ev.sn e_X0_inFirstOrder 3 (i' := 37) (ls' := [_, _, _, _, _, _, _, _]) (st' := [_, _, _]) rfl ?_
    refine Ev.clS e_X0_inFirstOrder rfl rfl rfl (as := [_, _, _]) rfl rfl rfl rfl rfl (c_X0_endOf _ _ _ hc2 htn (show m ≤ 1000 by omega)) rfl ?_
    refine Ev.sn e_X0_inFirstOrder 9 (i' := 18) (ls' := [_, _, _, _, _, _, _, _]) (st' := []) rfl ?_
    rw [xor_I S (by omega) t (by omega), nI_1]
    refine Ev.sn e_X0_inFirstOrder 2 (i' := 20) (ls' := [_, _, _, _, _, _, _, _]) (st' := [_, _]) rfl ?_
    refine Ev.brT (i1 := 47) (i2 := 21) e_X0_inFirstOrder rfl rfl ((nI_lt (by omega) (by omega))) ?_
    refine Ev.sn e_X0_inFirstOrder 1 (i' := 48) (ls' := [_, _, _, _, _, _, _, _]) (st' := [_]) rfl ?_
    refine Ev.iret e_X0_inFirstOrder rfl rfl rfl ?_ rfl
    rfl
  | succ j ih =>
    intro i S m hi hS hm hp
    have hla := la_le (n := n) (L := L) hU hL hb.1 (show S < 64 by omega)
    have h0 : ¬ S = 0 := fun e => by rw [e, pcN_0] at hp; omega
    have hex := LOB_ex hU hL hb.1 hS h0 hm
    have A := lp_X0_lowestInTime d g tr hc hS hL (show m ≤ 1000 by omega) R hR n 0 (by omega) hex
    have hf := firT_ok _ _ _ hex
    obtain ⟨t, et⟩ : ∃ t, t = firT (LOB (vC n q dn g) n dn L S m) n 0 := ⟨_, rfl⟩
    rw [← et] at A hf
    have htn : t < n := by omega
    have hF := hf.1
    unfold LOB at hF
    simp only [Bool.and_eq_true, decide_eq_true_eq] at hF
    have hx := xlt (show S < 64 by omega) hF.1
    have hS0 : ¬ nI S = 0 := nI_ne0 (by omega) (by omega)
    show Ev (d + 3) 2 18 _ [] _ (some (.int (nI (gN (vC n q dn g) n dn L j (S ^^^ 2 ^ firT (LOB (vC n q dn g) n dn L S m) n 0) (eN (vC n q dn g) dn (firT (LOB (vC n q dn g) n dn L S m) n 0) m))))) _
    rw [← et]
    have a := ih (i + 1) (S ^^^ 2 ^ t) (eN (vC n q dn g) dn t m) (by omega) (by omega) hF.2 (by omega)
    refine Ev.sn e_X0_inFirstOrder 2 (i' := 20) (ls' := [_, _, _, _, _, _, _, _]) (st' := [_, _]) rfl ?_
    refine Ev.brF (i1 := 47) (i2 := 21) e_X0_inFirstOrder rfl rfl ((nI_nlt (by omega) (by omega))) ?_
    refine Ev.sn e_X0_inFirstOrder 1 (i' := 22) (ls' := [_, _, _, _, _, _, _, _]) (st' := [_]) rfl ?_
    refine Ev.brF (i1 := 47) (i2 := 23) e_X0_inFirstOrder rfl rfl (hS0) ?_
    refine Ev.sn e_X0_inFirstOrder 4 (i' := 27) (ls' := [_, _, _, _, _, _, _, _]) (st' := [_, _, _, _]) rfl ?_
    refine Ev.clV e_X0_inFirstOrder rfl rfl (as := [_, _, _]) rfl rfl rfl kl_X0_lowestInTime rfl rfl rfl (c_X0_lowestInTime d g tr hc hS hL (show m ≤ 1000 by omega) R hR hex et) rfl ?_
    refine Ev.sn e_X0_inFirstOrder 3 (i' := 31) (ls' := [_, _, _, _, _, _, _, _]) (st' := [_, _]) rfl ?_
    refine Ev.brF (i1 := 32) (i2 := 34) e_X0_inFirstOrder rfl rfl ((nI_n9 (by omega))) ?_
    refine Ev.sn e_X0_inFirstOrder 3 (i' := 37) (ls' := [_, _, _, _, _, _, _, _]) (st' := [_, _, _]) rfl ?_
    refine Ev.clS e_X0_inFirstOrder rfl rfl rfl (as := [_, _, _]) rfl rfl rfl rfl rfl (c_X0_endOf _ _ _ hc2 htn (show m ≤ 1000 by omega)) rfl ?_
    refine Ev.sn e_X0_inFirstOrder 9 (i' := 18) (ls' := [_, _, _, _, _, _, _, _]) (st' := []) rfl ?_
    rw [xor_I S (by omega) t (by omega), nI_1]
    exact Ev.weak (lle_c (lle_c (lle_n (lle_c (lle_c (lle_c (lle_n (lle_c lle_0)))))))) a
set_option maxRecDepth 20000 in
set_option maxHeartbeats 200000 in
theorem c_X0_inFirstOrder (d : Nat) (g : RG) (tr : Int64) {n q dn : Nat} (hc : CI n q dn g) {L k : Nat} (hL : L < 1000) (hk : k < 2000) (hm : 0 < la (vC n q dn g) n dn (L + 1) (2 ^ n - 1)) (hp : k < pcN (2 ^ n - 1)) (R : Nat → Int32) : ∃ R', Ev (d + 3) 2 0 [.ref 83, .ref 16, .int (nI L), .int (nI k), .null, .null, .null, .null] [] (wC (va_up g 103 R) tr) (some (.int (nI (gN (vC n q dn g) n dn (L + 1) k (2 ^ n - 1) 0)))) (wC (va_up g 103 R') tr) := by
  have hb := hc.b
  have hpp := Nat.two_pow_pos n
  have h64 := pow_n hb.1
  obtain ⟨R1, a1, hR1⟩ := c_X0_findLatest d g tr hc hL R
  have hal := all_1 hb.1 (show (va_up g 103 R1) 42 0 = nI n from hc.hn)
  refine ⟨R1, ?_⟩
  refine Ev.sn e_X0_inFirstOrder 3 (i' := 3) (ls' := [_, _, _, _, _, _, _, _]) (st' := [_, _, _]) rfl ?_
  refine Ev.clV e_X0_inFirstOrder rfl rfl (as := [_, _]) rfl rfl rfl kl_X0_findLatest rfl rfl rfl (a1) rfl ?_
  refine Ev.sn e_X0_inFirstOrder 7 (i' := 11) (ls' := [_, _, _, _, _, _, _, _]) (st' := [_]) rfl ?_
  rw [hal]
  refine Ev.sn e_X0_inFirstOrder 7 (i' := 18) (ls' := [_, _, _, _, _, _, _, _]) (st' := []) rfl ?_
  exact Ev.weak (lle_c (lle_c (lle_n (lle_c (lle_c (lle_c (lle_n (lle_c lle_0)))))))) (lp_X0_inFirstOrder d g tr hc (show L + 1 ≤ 1000 by omega) (by omega) R1 hR1 k 0 (2 ^ n - 1) 0 (by omega) (by omega) hm hp)
theorem pc_all : ∀ n, n < 7 → pcN (2 ^ n - 1) = n := by decide +kernel
def S_car (v : VW) (n dn : Nat) (k : Int32) : Int32 := if k < -1 then -1 else if so v n dn (2 ^ n - 1) = 1000 then -9 else if k = -1 then nI (so v n dn (2 ^ n - 1)) else if k < nI n then nI (gN v n dn (so v n dn (2 ^ n - 1) + 1) k.toNatClampNeg (2 ^ n - 1) 0) else -5
theorem la_so {v : VW} {n dn : Nat} (hU : UB v dn) (hn : n ≤ 6) (h : ¬ so v n dn (2 ^ n - 1) = 1000) : 0 < la v n dn (so v n dn (2 ^ n - 1) + 1) (2 ^ n - 1) := by
  have hpp := Nat.two_pow_pos n
  have h64 := pow_n hn
  have h1 := so_1000 (v := v) (dn := dn) hn (show 2 ^ n - 1 < 64 by omega)
  obtain ⟨l, h2, h3⟩ := so_ex (v := v) (dn := dn) hn _ (2 ^ n - 1) rfl (by omega) (by omega)
  exact (la_iff hU (by omega) hn _ (2 ^ n - 1) rfl (by omega) (by omega) 0).mpr ⟨l, h2, by omega⟩
theorem va_102 (g : RG) : va_up g 102 (g 102) = g := va_same g 102
theorem va_103 (g : RG) : va_up g 103 (g 103) = g := va_same g 103
set_option maxRecDepth 20000 in
set_option maxHeartbeats 200000 in
theorem c_X8_carried (d : Nat) (g : RG) (tr : Int64) {n q dn : Nat} (hc : CI n q dn g) (k : Int32) : ∃ g', Ev (d + 4) 95 0 [.ref 0, .int k, .null] [] (wC g tr) (some (.int (S_car (vC n q dn g) n dn k))) (wC g' tr) ∧ ∀ x, x ≠ 102 → x ≠ 103 → g' x = g x := by
  have hb := hc.b
  have hpp := Nat.two_pow_pos n
  have h64 := pow_n hb.1
  have hU := WF_U hc.w
  have hso := so_1000 (v := (vC n q dn g)) (dn := dn) hb.1 (show 2 ^ n - 1 < 64 by omega)
  obtain ⟨R1, a1⟩ := c_X0_fewestMinutes (d + 1) g tr hc (g 102)
  rw [va_102] at a1
  unfold S_car
  by_cases h1 : k < -1
  · refine ⟨g, ?_, fun x _ _ => rfl⟩
    rw [if_pos h1]
    refine Ev.sn e_X8_carried 2 (i' := 2) (ls' := [_, _, _]) (st' := [_, _]) rfl ?_
    refine Ev.brF (i1 := 5) (i2 := 3) e_X8_carried rfl rfl ((Int32.not_le.mpr h1)) ?_
    refine Ev.sn e_X8_carried 1 (i' := 4) (ls' := [_, _, _]) (st' := [_]) rfl ?_
    refine Ev.iret e_X8_carried rfl rfl rfl ?_ rfl
    rfl
  · rw [if_neg h1]
    have h1' : (-1 : Int32) ≤ k := Int32.not_lt.mp h1
    have hg : ∀ x, x ≠ 102 → x ≠ 103 → (va_up g 102 R1) x = g x := fun x h _ => va_up_ne _ _ h
    by_cases h2 : so (vC n q dn g) n dn (2 ^ n - 1) = 1000
    · refine ⟨va_up g 102 R1, ?_, hg⟩
      rw [if_pos h2]
      have e : S_few (vC n q dn g) n dn = -9 := if_pos h2
      rw [e] at a1
      refine Ev.sn e_X8_carried 2 (i' := 2) (ls' := [_, _, _]) (st' := [_, _]) rfl ?_
      refine Ev.brT (i1 := 5) (i2 := 3) e_X8_carried rfl rfl (h1') ?_
      refine Ev.sn e_X8_carried 4 (i' := 9) (ls' := [_, _, _]) (st' := [_, _]) rfl ?_
      refine Ev.clV e_X8_carried rfl rfl (as := [_]) rfl rfl rfl kl_X0_fewestMinutes rfl rfl rfl (a1) rfl ?_
      refine Ev.sn e_X8_carried 3 (i' := 13) (ls' := [_, _, _]) (st' := [_, _]) rfl ?_
      refine Ev.brT (i1 := 17) (i2 := 14) e_X8_carried rfl rfl (rfl) ?_
      refine Ev.sn e_X8_carried 1 (i' := 18) (ls' := [_, _, _]) (st' := [_]) rfl ?_
      refine Ev.iret e_X8_carried rfl rfl rfl ?_ rfl
      rfl
    · rw [if_neg h2]
      have e : S_few (vC n q dn g) n dn = nI (so (vC n q dn g) n dn (2 ^ n - 1)) := if_neg h2
      rw [e] at a1
      by_cases h3 : k = -1
      · refine ⟨va_up g 102 R1, ?_, hg⟩
        rw [if_pos h3]
        refine Ev.sn e_X8_carried 2 (i' := 2) (ls' := [_, _, _]) (st' := [_, _]) rfl ?_
        refine Ev.brT (i1 := 5) (i2 := 3) e_X8_carried rfl rfl (h1') ?_
        refine Ev.sn e_X8_carried 4 (i' := 9) (ls' := [_, _, _]) (st' := [_, _]) rfl ?_
        refine Ev.clV e_X8_carried rfl rfl (as := [_]) rfl rfl rfl kl_X0_fewestMinutes rfl rfl rfl (a1) rfl ?_
        refine Ev.sn e_X8_carried 3 (i' := 13) (ls' := [_, _, _]) (st' := [_, _]) rfl ?_
        refine Ev.brF (i1 := 17) (i2 := 14) e_X8_carried rfl rfl ((nI_n9 (by omega))) ?_
        refine Ev.sn e_X8_carried 2 (i' := 16) (ls' := [_, _, _]) (st' := [_, _]) rfl ?_
        refine Ev.brT (i1 := 17) (i2 := 19) e_X8_carried rfl rfl (h3) ?_
        refine Ev.sn e_X8_carried 1 (i' := 18) (ls' := [_, _, _]) (st' := [_]) rfl ?_
        refine Ev.iret e_X8_carried rfl rfl rfl ?_ rfl
        rfl
      · rw [if_neg h3]
        have hk0 : ¬ k < 0 := by
          rw [Int32.lt_iff_toInt_lt] at h1 ⊢
          have h3' : ¬ k.toInt = -1 := fun h => h3 (Int32.toInt_inj.mp h)
          have e1 : (-1 : Int32).toInt = -1 := rfl
          have e0 : (0 : Int32).toInt = 0 := rfl
          omega
        by_cases h4 : k < nI n
        · rw [if_pos h4]
          obtain ⟨j, hj, rfl⟩ := ix_of (n := n) rfl (by omega) hk0 (Int32.not_le.mpr h4)
          rw [nI_clamp (by omega)]
          have hc2 : CI n q dn (va_up g 102 R1) := hc
          obtain ⟨R2, a2⟩ := c_X0_inFirstOrder d (va_up g 102 R1) tr hc2 (L := so (vC n q dn g) n dn (2 ^ n - 1)) (k := j) (by omega) (by omega) (la_so hU hb.1 h2) (by rw [pc_all n (by omega)]; exact hj) ((va_up g 102 R1) 103)
          rw [va_103] at a2
          refine ⟨va_up (va_up g 102 R1) 103 R2, ?_, fun x h5 h6 => by rw [va_up_ne _ _ h6, va_up_ne _ _ h5]⟩
          refine Ev.sn e_X8_carried 2 (i' := 2) (ls' := [_, _, _]) (st' := [_, _]) rfl ?_
          refine Ev.brT (i1 := 5) (i2 := 3) e_X8_carried rfl rfl (h1') ?_
          refine Ev.sn e_X8_carried 4 (i' := 9) (ls' := [_, _, _]) (st' := [_, _]) rfl ?_
          refine Ev.clV e_X8_carried rfl rfl (as := [_]) rfl rfl rfl kl_X0_fewestMinutes rfl rfl rfl (a1) rfl ?_
          refine Ev.sn e_X8_carried 3 (i' := 13) (ls' := [_, _, _]) (st' := [_, _]) rfl ?_
          refine Ev.brF (i1 := 17) (i2 := 14) e_X8_carried rfl rfl ((nI_n9 (by omega))) ?_
          refine Ev.sn e_X8_carried 2 (i' := 16) (ls' := [_, _, _]) (st' := [_, _]) rfl ?_
          refine Ev.brF (i1 := 17) (i2 := 19) e_X8_carried rfl rfl (h3) ?_
          refine Ev.sn e_X8_carried 5 (i' := 24) (ls' := [_, _, _]) (st' := [_, _]) rfl ?_
          refine Ev.brT (i1 := 27) (i2 := 25) e_X8_carried rfl rfl ((by show _ < g 42 0; rw [hc.hn]; exact h4)) ?_
          refine Ev.sn e_X8_carried 6 (i' := 33) (ls' := [_, _, _]) (st' := [_, _, _, _]) rfl ?_
          refine Ev.clV e_X8_carried rfl rfl (as := [_, _, _]) rfl rfl rfl kl_X0_inFirstOrder rfl rfl rfl (a2) rfl ?_
          refine Ev.iret e_X8_carried rfl rfl rfl ?_ rfl
          rfl
        · refine ⟨va_up g 102 R1, ?_, hg⟩
          rw [if_neg h4]
          refine Ev.sn e_X8_carried 2 (i' := 2) (ls' := [_, _, _]) (st' := [_, _]) rfl ?_
          refine Ev.brT (i1 := 5) (i2 := 3) e_X8_carried rfl rfl (h1') ?_
          refine Ev.sn e_X8_carried 4 (i' := 9) (ls' := [_, _, _]) (st' := [_, _]) rfl ?_
          refine Ev.clV e_X8_carried rfl rfl (as := [_]) rfl rfl rfl kl_X0_fewestMinutes rfl rfl rfl (a1) rfl ?_
          refine Ev.sn e_X8_carried 3 (i' := 13) (ls' := [_, _, _]) (st' := [_, _]) rfl ?_
          refine Ev.brF (i1 := 17) (i2 := 14) e_X8_carried rfl rfl ((nI_n9 (by omega))) ?_
          refine Ev.sn e_X8_carried 2 (i' := 16) (ls' := [_, _, _]) (st' := [_, _]) rfl ?_
          refine Ev.brF (i1 := 17) (i2 := 19) e_X8_carried rfl rfl (h3) ?_
          refine Ev.sn e_X8_carried 5 (i' := 24) (ls' := [_, _, _]) (st' := [_, _]) rfl ?_
          refine Ev.brF (i1 := 27) (i2 := 25) e_X8_carried rfl rfl ((by show ¬ _ < g 42 0; rw [hc.hn]; exact h4)) ?_
          refine Ev.sn e_X8_carried 1 (i' := 26) (ls' := [_, _, _]) (st' := [_]) rfl ?_
          refine Ev.iret e_X8_carried rfl rfl rfl ?_ rfl
          rfl
