/-! who can have what: the reference -/
def cU (v : VW) (u : Int32) (T : Nat) : Nat → Nat
  | 0 => 0
  | m + 1 => (if v 0 m = u ∧ T.testBit m = false then 1 else 0) + cU v u T m
theorem tb_or (T t m : Nat) : (T ||| 2 ^ t).testBit m = (T.testBit m || decide (t = m)) := by rw [Nat.testBit_or, Nat.testBit_two_pow]
theorem cU_ge (v : VW) (u : Int32) (T t : Nat) : ∀ m, m ≤ t → cU v u (T ||| 2 ^ t) m = cU v u T m
  | 0, _ => rfl
  | m + 1, h => by
    unfold cU
    rw [cU_ge v u T t m (by omega), tb_or, decide_eq_false (by omega), Bool.or_false]
theorem cU_lt (v : VW) (u : Int32) (T t : Nat) (h1 : v 0 t = u) (h2 : T.testBit t = false) : ∀ m, t < m → cU v u (T ||| 2 ^ t) m + 1 = cU v u T m
  | 0, h => absurd h (by omega)
  | m + 1, h => by
    unfold cU
    by_cases e : t = m
    · subst e
      rw [cU_ge v u T t t (by omega), if_neg (by rw [tb_or]; simp), if_pos ⟨h1, h2⟩]
      omega
    · have := cU_lt v u T t h1 h2 m (by omega)
      rw [tb_or, decide_eq_false e, Bool.or_false]
      omega
theorem pig (v : VW) (n : Nat) (u : Int32) (S : Nat) : ∀ k p T, EXB v n u S k p T = true → cnB S k p ≤ cU v u T n
  | 0, _, _, _ => by simp [cnB]
  | k + 1, p, T, h => by
    rw [EXB_s] at h
    unfold cnB
    by_cases hz : S.testBit p = true
    · rw [if_pos hz] at h ⊢
      obtain ⟨t, -, h1, h2⟩ := (anyN_iff _ _ _).mp h
      unfold FXB okB at h2
      simp only [Bool.and_eq_true, decide_eq_true_eq, Bool.not_eq_true'] at h2
      have h3 := pig v n u S k (p + 1) _ h2.2
      have h4 := cU_lt v u T t h2.1.1 h2.1.2.1 n (by omega)
      omega
    · rw [if_neg hz] at h ⊢
      have := pig v n u S k (p + 1) T h
      omega
theorem cU_3 (v : VW) : ∀ m, cU v 0 0 m + cU v 1 0 m + cU v 2 0 m ≤ m
  | 0 => by simp [cU]
  | m + 1 => by
    have := cU_3 v m
    unfold cU
    have nn : ∀ a b : Int32, v 0 m = a → ¬ a = b → ¬ (v 0 m = b ∧ Nat.testBit 0 m = false) := fun a b h1 h2 h3 => h2 (h1.symm.trans h3.1)
    by_cases h0 : v 0 m = 0
    · rw [if_neg (nn 0 1 h0 (by decide)), if_neg (nn 0 2 h0 (by decide))]
      split <;> omega
    · rw [if_neg (fun h => h0 h.1)]
      by_cases h1 : v 0 m = 1
      · rw [if_neg (nn 1 2 h1 (by decide))]
        split <;> omega
      · rw [if_neg (fun h => h1 h.1)]
        split <;> omega
theorem pc_cn : ∀ q, q < 6 → ∀ S, S < 32 → S < 2 ^ q → pcN S = cnB S q 0 := by decide +kernel
theorem pig3 {v : VW} {n q S : Nat} (hq : q ≤ 5) (hS : S < 2 ^ q) (h : CHB v n q S = true) : 3 * pcN S ≤ n := by
  have h32 := pow_q hq
  rw [pc_cn q (by omega) S (by omega) hS]
  unfold CHB at h
  simp only [Bool.and_eq_true] at h
  have a := pig v n 0 S q 0 0 h.1
  have b := pig v n 1 S q 0 0 h.2.1
  have c := pig v n 2 S q 0 0 h.2.2
  have e := cU_3 v n
  omega
theorem one_pc {S : Nat} (h : S < 64) : ONE (nI S) = nI (pcN S) := (ONE_bc S h).trans (pc_bc h).1
set_option maxRecDepth 20000 in
set_option maxHeartbeats 200000 in
theorem lp_X9_housedSet (d : Nat) (g : RG) (tr : Int64) {n q dn : Nat} (hc : RI n q dn g) : ∀ (j S b : Nat), S + j = 2 ^ q → b < 32 → Ev (d + 4) 156 4 [.ref 0, .int (nI b), .int (nI S)] [] (wR g tr) (some (.int (nI (fo (stM (vR n q dn g) n q) j S b)))) (wR g tr) := by
  have hb := hc.b
  have h32 := pow_q hb.2.1
  have hbd : (1 : Int32) <<< (g 2 1 &&& 31) = nI (2 ^ q) := by
    rw [hc.hq]
    exact bitI_nI q (by omega)
  intro j
  induction j with
  | zero =>
    intro S b hj hb2
    refine Ev.sn e_X9_housedSet 5 (i' := 9) (ls' := [_, _, _]) (st' := [_, _, _, _]) rfl ?_
    refine Ev.ialdE e_X9_housedSet rfl rfl rfl rfl (m := 1) rfl (by decide) ?_
    refine Ev.sn e_X9_housedSet 1 (i' := 11) (ls' := [_, _, _]) (st' := [_, _]) rfl ?_
    refine Ev.brT (i1 := 53) (i2 := 12) e_X9_housedSet rfl rfl (ge_t hbd (by omega) (by omega)) ?_
    refine Ev.sn e_X9_housedSet 1 (i' := 54) (ls' := [_, _, _]) (st' := [_]) rfl ?_
    refine Ev.iret e_X9_housedSet rfl rfl rfl ?_ rfl
    rfl
  | succ j ih =>
    intro S b hj hb2
    rw [fo_s]
    have hoS := one_pc (show S < 64 by omega)
    have hob := one_pc (show b < 64 by omega)
    have hp6 := (pc_bc (show S < 64 by omega)).2
    have hp7 := (pc_bc (show b < 64 by omega)).2
    have E := fun u : Int32 => c_X9_canHave d g tr hc (show S < 64 by omega) (show 0 < 64 by omega) u (show 0 + q = q by omega) (x := 0) (y := 0) rfl rfl
    by_cases hp : pcN b < pcN S
    · have hle : ¬ ONE (nI S) ≤ ONE (nI b) := by
        rw [hoS, hob]
        exact nI_ge hp (by omega)
      have h3 : 3 * ONE (nI S) = nI (3 * pcN S) := by rw [hoS, show (3 : Int32) = nI 3 from rfl, pk_mul]
      by_cases h3n : 3 * pcN S ≤ n
      · have hgt : ¬ g 2 0 < 3 * ONE (nI S) := by
          rw [hc.hn, h3]
          exact nI_nlt h3n (by omega)
        cases e0 : EXB (vR n q dn g) n 0 S q 0 0 with
        | false =>
          rw [show stM (vR n q dn g) n q S b = b from if_neg (fun h => by have := h.2; simp [CHB, e0] at this)]
          refine Ev.sn e_X9_housedSet 5 (i' := 9) (ls' := [_, _, _]) (st' := [_, _, _, _]) rfl ?_
          refine Ev.ialdE e_X9_housedSet rfl rfl rfl rfl (m := 1) rfl (by decide) ?_
          refine Ev.sn e_X9_housedSet 1 (i' := 11) (ls' := [_, _, _]) (st' := [_, _]) rfl ?_
          refine Ev.brF (i1 := 53) (i2 := 12) e_X9_housedSet rfl rfl (ge_f hbd (by omega) (by omega)) ?_
          refine Ev.sn e_X9_housedSet 1 (i' := 13) (ls' := [_, _, _]) (st' := [_]) rfl ?_
          refine Ev.clS e_X9_housedSet rfl rfl rfl (as := [_]) rfl rfl rfl rfl rfl (c_X9_ones _ _ _) rfl ?_
          refine Ev.sn e_X9_housedSet 1 (i' := 15) (ls' := [_, _, _]) (st' := [_, _]) rfl ?_
          refine Ev.clS e_X9_housedSet rfl rfl rfl (as := [_]) rfl rfl rfl rfl rfl (c_X9_ones _ _ _) rfl ?_
          refine Ev.brF (i1 := 51) (i2 := 17) e_X9_housedSet rfl rfl (hle) ?_
          refine Ev.sn e_X9_housedSet 2 (i' := 19) (ls' := [_, _, _]) (st' := [_, _]) rfl ?_
          refine Ev.clS e_X9_housedSet rfl rfl rfl (as := [_]) rfl rfl rfl rfl rfl (c_X9_ones _ _ _) rfl ?_
          refine Ev.sn e_X9_housedSet 4 (i' := 24) (ls' := [_, _, _]) (st' := [_, _, _]) rfl ?_
          refine Ev.ialdE e_X9_housedSet rfl rfl rfl rfl (m := 0) rfl (by decide) ?_
          refine Ev.brF (i1 := 51) (i2 := 26) e_X9_housedSet rfl rfl (hgt) ?_
          refine Ev.sn e_X9_housedSet 5 (i' := 31) (ls' := [_, _, _]) (st' := [_, _, _, _, _]) rfl ?_
          refine Ev.clV e_X9_housedSet rfl rfl (as := [_, _, _, _]) rfl rfl rfl kl_X9_canHave rfl rfl rfl (E 0) rfl ?_
          refine Ev.brT (i1 := 49) (i2 := 33) e_X9_housedSet rfl rfl (bT e0) ?_
          refine Ev.sn e_X9_housedSet 4 (i' := 4) (ls' := [_, _, _]) (st' := []) rfl ?_
          rw [nI_1]
          exact ih (S + 1) b (by omega) (by omega)
        | true =>
          cases e1 : EXB (vR n q dn g) n 1 S q 0 0 with
          | false =>
            rw [show stM (vR n q dn g) n q S b = b from if_neg (fun h => by have := h.2; simp [CHB, e1] at this)]
            refine Ev.sn e_X9_housedSet 5 (i' := 9) (ls' := [_, _, _]) (st' := [_, _, _, _]) rfl ?_
            refine Ev.ialdE e_X9_housedSet rfl rfl rfl rfl (m := 1) rfl (by decide) ?_
            refine Ev.sn e_X9_housedSet 1 (i' := 11) (ls' := [_, _, _]) (st' := [_, _]) rfl ?_
            refine Ev.brF (i1 := 53) (i2 := 12) e_X9_housedSet rfl rfl (ge_f hbd (by omega) (by omega)) ?_
            refine Ev.sn e_X9_housedSet 1 (i' := 13) (ls' := [_, _, _]) (st' := [_]) rfl ?_
            refine Ev.clS e_X9_housedSet rfl rfl rfl (as := [_]) rfl rfl rfl rfl rfl (c_X9_ones _ _ _) rfl ?_
            refine Ev.sn e_X9_housedSet 1 (i' := 15) (ls' := [_, _, _]) (st' := [_, _]) rfl ?_
            refine Ev.clS e_X9_housedSet rfl rfl rfl (as := [_]) rfl rfl rfl rfl rfl (c_X9_ones _ _ _) rfl ?_
            refine Ev.brF (i1 := 51) (i2 := 17) e_X9_housedSet rfl rfl (hle) ?_
            refine Ev.sn e_X9_housedSet 2 (i' := 19) (ls' := [_, _, _]) (st' := [_, _]) rfl ?_
            refine Ev.clS e_X9_housedSet rfl rfl rfl (as := [_]) rfl rfl rfl rfl rfl (c_X9_ones _ _ _) rfl ?_
            refine Ev.sn e_X9_housedSet 4 (i' := 24) (ls' := [_, _, _]) (st' := [_, _, _]) rfl ?_
            refine Ev.ialdE e_X9_housedSet rfl rfl rfl rfl (m := 0) rfl (by decide) ?_
            refine Ev.brF (i1 := 51) (i2 := 26) e_X9_housedSet rfl rfl (hgt) ?_
            refine Ev.sn e_X9_housedSet 5 (i' := 31) (ls' := [_, _, _]) (st' := [_, _, _, _, _]) rfl ?_
            refine Ev.clV e_X9_housedSet rfl rfl (as := [_, _, _, _]) rfl rfl rfl kl_X9_canHave rfl rfl rfl (E 0) rfl ?_
            refine Ev.brF (i1 := 49) (i2 := 33) e_X9_housedSet rfl rfl (bF e0) ?_
            refine Ev.sn e_X9_housedSet 5 (i' := 38) (ls' := [_, _, _]) (st' := [_, _, _, _, _]) rfl ?_
            refine Ev.clV e_X9_housedSet rfl rfl (as := [_, _, _, _]) rfl rfl rfl kl_X9_canHave rfl rfl rfl (E 1) rfl ?_
            refine Ev.brT (i1 := 49) (i2 := 40) e_X9_housedSet rfl rfl (bT e1) ?_
            refine Ev.sn e_X9_housedSet 4 (i' := 4) (ls' := [_, _, _]) (st' := []) rfl ?_
            rw [nI_1]
            exact ih (S + 1) b (by omega) (by omega)
          | true =>
            cases e2 : EXB (vR n q dn g) n 2 S q 0 0 with
            | false =>
              rw [show stM (vR n q dn g) n q S b = b from if_neg (fun h => by have := h.2; simp [CHB, e2] at this)]
              refine Ev.sn e_X9_housedSet 5 (i' := 9) (ls' := [_, _, _]) (st' := [_, _, _, _]) rfl ?_
              refine Ev.ialdE e_X9_housedSet rfl rfl rfl rfl (m := 1) rfl (by decide) ?_
              refine Ev.sn e_X9_housedSet 1 (i' := 11) (ls' := [_, _, _]) (st' := [_, _]) rfl ?_
              refine Ev.brF (i1 := 53) (i2 := 12) e_X9_housedSet rfl rfl (ge_f hbd (by omega) (by omega)) ?_
              refine Ev.sn e_X9_housedSet 1 (i' := 13) (ls' := [_, _, _]) (st' := [_]) rfl ?_
              refine Ev.clS e_X9_housedSet rfl rfl rfl (as := [_]) rfl rfl rfl rfl rfl (c_X9_ones _ _ _) rfl ?_
              refine Ev.sn e_X9_housedSet 1 (i' := 15) (ls' := [_, _, _]) (st' := [_, _]) rfl ?_
              refine Ev.clS e_X9_housedSet rfl rfl rfl (as := [_]) rfl rfl rfl rfl rfl (c_X9_ones _ _ _) rfl ?_
              refine Ev.brF (i1 := 51) (i2 := 17) e_X9_housedSet rfl rfl (hle) ?_
              refine Ev.sn e_X9_housedSet 2 (i' := 19) (ls' := [_, _, _]) (st' := [_, _]) rfl ?_
              refine Ev.clS e_X9_housedSet rfl rfl rfl (as := [_]) rfl rfl rfl rfl rfl (c_X9_ones _ _ _) rfl ?_
              refine Ev.sn e_X9_housedSet 4 (i' := 24) (ls' := [_, _, _]) (st' := [_, _, _]) rfl ?_
              refine Ev.ialdE e_X9_housedSet rfl rfl rfl rfl (m := 0) rfl (by decide) ?_
              refine Ev.brF (i1 := 51) (i2 := 26) e_X9_housedSet rfl rfl (hgt) ?_
              refine Ev.sn e_X9_housedSet 5 (i' := 31) (ls' := [_, _, _]) (st' := [_, _, _, _, _]) rfl ?_
              refine Ev.clV e_X9_housedSet rfl rfl (as := [_, _, _, _]) rfl rfl rfl kl_X9_canHave rfl rfl rfl (E 0) rfl ?_
              refine Ev.brF (i1 := 49) (i2 := 33) e_X9_housedSet rfl rfl (bF e0) ?_
              refine Ev.sn e_X9_housedSet 5 (i' := 38) (ls' := [_, _, _]) (st' := [_, _, _, _, _]) rfl ?_
              refine Ev.clV e_X9_housedSet rfl rfl (as := [_, _, _, _]) rfl rfl rfl kl_X9_canHave rfl rfl rfl (E 1) rfl ?_
              refine Ev.brF (i1 := 49) (i2 := 40) e_X9_housedSet rfl rfl (bF e1) ?_
              refine Ev.sn e_X9_housedSet 5 (i' := 45) (ls' := [_, _, _]) (st' := [_, _, _, _, _]) rfl ?_
              refine Ev.clV e_X9_housedSet rfl rfl (as := [_, _, _, _]) rfl rfl rfl kl_X9_canHave rfl rfl rfl (E 2) rfl ?_
              refine Ev.brT (i1 := 49) (i2 := 47) e_X9_housedSet rfl rfl (bT e2) ?_
              refine Ev.sn e_X9_housedSet 4 (i' := 4) (ls' := [_, _, _]) (st' := []) rfl ?_
              rw [nI_1]
              exact ih (S + 1) b (by omega) (by omega)
            | true =>
              rw [show stM (vR n q dn g) n q S b = S from if_pos ⟨hp, by simp [CHB, e0, e1, e2]⟩]
              refine Ev.sn e_X9_housedSet 5 (i' := 9) (ls' := [_, _, _]) (st' := [_, _, _, _]) rfl ?_
              refine Ev.ialdE e_X9_housedSet rfl rfl rfl rfl (m := 1) rfl (by decide) ?_
              refine Ev.sn e_X9_housedSet 1 (i' := 11) (ls' := [_, _, _]) (st' := [_, _]) rfl ?_
              refine Ev.brF (i1 := 53) (i2 := 12) e_X9_housedSet rfl rfl (ge_f hbd (by omega) (by omega)) ?_
              refine Ev.sn e_X9_housedSet 1 (i' := 13) (ls' := [_, _, _]) (st' := [_]) rfl ?_
              refine Ev.clS e_X9_housedSet rfl rfl rfl (as := [_]) rfl rfl rfl rfl rfl (c_X9_ones _ _ _) rfl ?_
              refine Ev.sn e_X9_housedSet 1 (i' := 15) (ls' := [_, _, _]) (st' := [_, _]) rfl ?_
              refine Ev.clS e_X9_housedSet rfl rfl rfl (as := [_]) rfl rfl rfl rfl rfl (c_X9_ones _ _ _) rfl ?_
              refine Ev.brF (i1 := 51) (i2 := 17) e_X9_housedSet rfl rfl (hle) ?_
              refine Ev.sn e_X9_housedSet 2 (i' := 19) (ls' := [_, _, _]) (st' := [_, _]) rfl ?_
              refine Ev.clS e_X9_housedSet rfl rfl rfl (as := [_]) rfl rfl rfl rfl rfl (c_X9_ones _ _ _) rfl ?_
              refine Ev.sn e_X9_housedSet 4 (i' := 24) (ls' := [_, _, _]) (st' := [_, _, _]) rfl ?_
              refine Ev.ialdE e_X9_housedSet rfl rfl rfl rfl (m := 0) rfl (by decide) ?_
              refine Ev.brF (i1 := 51) (i2 := 26) e_X9_housedSet rfl rfl (hgt) ?_
              refine Ev.sn e_X9_housedSet 5 (i' := 31) (ls' := [_, _, _]) (st' := [_, _, _, _, _]) rfl ?_
              refine Ev.clV e_X9_housedSet rfl rfl (as := [_, _, _, _]) rfl rfl rfl kl_X9_canHave rfl rfl rfl (E 0) rfl ?_
              refine Ev.brF (i1 := 49) (i2 := 33) e_X9_housedSet rfl rfl (bF e0) ?_
              refine Ev.sn e_X9_housedSet 5 (i' := 38) (ls' := [_, _, _]) (st' := [_, _, _, _, _]) rfl ?_
              refine Ev.clV e_X9_housedSet rfl rfl (as := [_, _, _, _]) rfl rfl rfl kl_X9_canHave rfl rfl rfl (E 1) rfl ?_
              refine Ev.brF (i1 := 49) (i2 := 40) e_X9_housedSet rfl rfl (bF e1) ?_
              refine Ev.sn e_X9_housedSet 5 (i' := 45) (ls' := [_, _, _]) (st' := [_, _, _, _, _]) rfl ?_
              refine Ev.clV e_X9_housedSet rfl rfl (as := [_, _, _, _]) rfl rfl rfl kl_X9_canHave rfl rfl rfl (E 2) rfl ?_
              refine Ev.brF (i1 := 49) (i2 := 47) e_X9_housedSet rfl rfl (bF e2) ?_
              refine Ev.sn e_X9_housedSet 5 (i' := 4) (ls' := [_, _, _]) (st' := []) rfl ?_
              rw [nI_1]
              exact ih (S + 1) S (by omega) (by omega)
      · have hgt : g 2 0 < 3 * ONE (nI S) := by
          rw [hc.hn, h3]
          exact nI_lt (by omega) (by omega)
        rw [show stM (vR n q dn g) n q S b = b from if_neg (fun h => h3n (pig3 hb.2.1 (by omega) h.2))]
        refine Ev.sn e_X9_housedSet 5 (i' := 9) (ls' := [_, _, _]) (st' := [_, _, _, _]) rfl ?_
        refine Ev.ialdE e_X9_housedSet rfl rfl rfl rfl (m := 1) rfl (by decide) ?_
        refine Ev.sn e_X9_housedSet 1 (i' := 11) (ls' := [_, _, _]) (st' := [_, _]) rfl ?_
        refine Ev.brF (i1 := 53) (i2 := 12) e_X9_housedSet rfl rfl (ge_f hbd (by omega) (by omega)) ?_
        refine Ev.sn e_X9_housedSet 1 (i' := 13) (ls' := [_, _, _]) (st' := [_]) rfl ?_
        refine Ev.clS e_X9_housedSet rfl rfl rfl (as := [_]) rfl rfl rfl rfl rfl (c_X9_ones _ _ _) rfl ?_
        refine Ev.sn e_X9_housedSet 1 (i' := 15) (ls' := [_, _, _]) (st' := [_, _]) rfl ?_
        refine Ev.clS e_X9_housedSet rfl rfl rfl (as := [_]) rfl rfl rfl rfl rfl (c_X9_ones _ _ _) rfl ?_
        refine Ev.brF (i1 := 51) (i2 := 17) e_X9_housedSet rfl rfl (hle) ?_
        refine Ev.sn e_X9_housedSet 2 (i' := 19) (ls' := [_, _, _]) (st' := [_, _]) rfl ?_
        refine Ev.clS e_X9_housedSet rfl rfl rfl (as := [_]) rfl rfl rfl rfl rfl (c_X9_ones _ _ _) rfl ?_
        refine Ev.sn e_X9_housedSet 4 (i' := 24) (ls' := [_, _, _]) (st' := [_, _, _]) rfl ?_
        refine Ev.ialdE e_X9_housedSet rfl rfl rfl rfl (m := 0) rfl (by decide) ?_
        refine Ev.brT (i1 := 51) (i2 := 26) e_X9_housedSet rfl rfl (hgt) ?_
        refine Ev.sn e_X9_housedSet 2 (i' := 4) (ls' := [_, _, _]) (st' := []) rfl ?_
        rw [nI_1]
        exact ih (S + 1) b (by omega) (by omega)
    · have hle : ONE (nI S) ≤ ONE (nI b) := by
        rw [hoS, hob]
        exact nI_le (by omega) (by omega)
      rw [show stM (vR n q dn g) n q S b = b from if_neg (fun h => hp h.1)]
      refine Ev.sn e_X9_housedSet 5 (i' := 9) (ls' := [_, _, _]) (st' := [_, _, _, _]) rfl ?_
      refine Ev.ialdE e_X9_housedSet rfl rfl rfl rfl (m := 1) rfl (by decide) ?_
      refine Ev.sn e_X9_housedSet 1 (i' := 11) (ls' := [_, _, _]) (st' := [_, _]) rfl ?_
      refine Ev.brF (i1 := 53) (i2 := 12) e_X9_housedSet rfl rfl (ge_f hbd (by omega) (by omega)) ?_
      refine Ev.sn e_X9_housedSet 1 (i' := 13) (ls' := [_, _, _]) (st' := [_]) rfl ?_
      refine Ev.clS e_X9_housedSet rfl rfl rfl (as := [_]) rfl rfl rfl rfl rfl (c_X9_ones _ _ _) rfl ?_
      refine Ev.sn e_X9_housedSet 1 (i' := 15) (ls' := [_, _, _]) (st' := [_, _]) rfl ?_
      refine Ev.clS e_X9_housedSet rfl rfl rfl (as := [_]) rfl rfl rfl rfl rfl (c_X9_ones _ _ _) rfl ?_
      refine Ev.brT (i1 := 51) (i2 := 17) e_X9_housedSet rfl rfl (hle) ?_
      refine Ev.sn e_X9_housedSet 2 (i' := 4) (ls' := [_, _, _]) (st' := []) rfl ?_
      rw [nI_1]
      exact ih (S + 1) b (by omega) (by omega)
set_option maxRecDepth 20000 in
set_option maxHeartbeats 200000 in
theorem c_X9_housedSet (d : Nat) (g : RG) (tr : Int64) {n q dn : Nat} (hc : RI n q dn g) : Ev (d + 4) 156 0 [.ref 0, .null, .null] [] (wR g tr) (some (.int (nI (MPB (vR n q dn g) n q)))) (wR g tr) := by
  have hp := Nat.two_pow_pos q
  refine Ev.sn e_X9_housedSet 4 (i' := 4) (ls' := [_, _, _]) (st' := []) rfl ?_
  exact lp_X9_housedSet d g tr hc (2 ^ q - 1) 1 0 (by omega) (by omega)
set_option maxRecDepth 20000 in
set_option maxHeartbeats 200000 in
theorem c_X9_housed_b (d : Nat) (g : RG) (tr : Int64) (x : Int32) (h : (decide (x = 0) || decide (x = 1)) = false) : Ev (d + 1) 157 0 [.ref 0, .int x, .null] [] (wR g tr) (some (.int (-1))) (wR g tr) := by
  refine Ev.sn e_X9_housed 2 (i' := 2) (ls' := [_, _, _]) (st' := [_, _]) rfl ?_
  refine Ev.put e_X9_housed rfl rfl rfl rfl rfl rfl (w1 := wR g tr) rfl ?_
  refine Ev.sn e_X9_housed 3 (i' := 6) (ls' := [_, _, _]) (st' := [_, _, _]) rfl ?_
  refine Ev.clS e_X9_housed rfl rfl rfl (as := [_, _, _]) rfl rfl rfl rfl rfl (c_X9_in _ _ _ _ _) rfl ?_
  refine Ev.brT (i1 := 8) (i2 := 10) e_X9_housed rfl rfl ((by rw [r01]; exact bT h)) ?_
  refine Ev.sn e_X9_housed 1 (i' := 9) (ls' := [_, _, _]) (st' := [_]) rfl ?_
  refine Ev.iret e_X9_housed rfl rfl rfl ?_ rfl
  rfl
set_option maxRecDepth 20000 in
set_option maxHeartbeats 200000 in
theorem c_X9_housed_s (d : Nat) (g : RG) (tr : Int64) {n q dn : Nat} (hc : RI n q dn g) (x : Int32) (h : (decide (x = 0) || decide (x = 1)) = true) : Ev (d + 5) 157 0 [.ref 0, .int x, .null] [] (wR g tr) (some (.int (S_housed (vR n q dn g) n q x))) (wR g tr) := by
  have hb := hc.b
  have hM := MPB_ok (v := (vR n q dn g)) (n := n) hb.2.1
  have h1 : ONE (nI (MPB (vR n q dn g) n q)) = bcI (nI (MPB (vR n q dn g) n q)) := ONE_bc _ (by omega)
  unfold S_housed
  refine Ev.sn e_X9_housed 2 (i' := 2) (ls' := [_, _, _]) (st' := [_, _]) rfl ?_
  refine Ev.put e_X9_housed rfl rfl rfl rfl rfl rfl (w1 := wR g tr) rfl ?_
  refine Ev.sn e_X9_housed 3 (i' := 6) (ls' := [_, _, _]) (st' := [_, _, _]) rfl ?_
  refine Ev.clS e_X9_housed rfl rfl rfl (as := [_, _, _]) rfl rfl rfl rfl rfl (c_X9_in _ _ _ _ _) rfl ?_
  refine Ev.brF (i1 := 8) (i2 := 10) e_X9_housed rfl rfl ((by rw [r01]; exact bF h)) ?_
  refine Ev.sn e_X9_housed 1 (i' := 11) (ls' := [_, _, _]) (st' := [_]) rfl ?_
  refine Ev.clV e_X9_housed rfl rfl (as := []) rfl rfl rfl kl_X9_housedSet rfl rfl rfl (c_X9_housedSet _ _ _ hc) rfl ?_
  refine Ev.sn e_X9_housed 2 (i' := 14) (ls' := [_, _, _]) (st' := [_]) rfl ?_
  refine Ev.br (i1 := 15) (i2 := 18) e_X9_housed rfl rfl (fun hx => ?_) (fun hx => ?_)
  · refine Ev.sn e_X9_housed 1 (i' := 16) (ls' := [_, _, _]) (st' := [_]) rfl ?_
    refine Ev.clS e_X9_housed rfl rfl rfl (as := [_]) rfl rfl rfl rfl rfl (c_X9_ones _ _ _) rfl ?_
    refine Ev.sn e_X9_housed 1 (i' := 19) (ls' := [_, _, _]) (st' := [_]) rfl ?_
    refine Ev.iret e_X9_housed rfl rfl rfl ?_ rfl
    rw [if_pos (show x = 0 from hx), h1]
  · refine Ev.sn e_X9_housed 1 (i' := 19) (ls' := [_, _, _]) (st' := [_]) rfl ?_
    refine Ev.iret e_X9_housed rfl rfl rfl ?_ rfl
    rw [if_neg (show ¬ x = 0 from hx)]
set_option maxRecDepth 20000 in
set_option maxHeartbeats 200000 in
theorem lq_X9_laying (d : Nat) (g : RG) (tr : Int64) {n q dn : Nat} (hc : RI n q dn g) {S P u : Nat} (hS : S < 64) (hu3 : u < 3) {k e T : Nat} (hk : e + (k + 1) = q) (hT : T < 64) (L : Nat → Int32) (r : Option Value) (w2 : AW) : ∀ (j t : Nat), t + j = n → anyN (FXB (vR n q dn g) n (nI u) S k e T) j t = true → Ev (d + 4) 158 73 [.ref 0, .int (nI P), .int (nI u), .int (nI S), .int (nI T), .int (nI e), .int (nI (firT (FXB (vR n q dn g) n (nI u) S k e T) j t))] [] (wR (va_up g 13 L) tr) r w2 → Ev (d + 4) 158 41 [.ref 0, .int (nI P), .int (nI u), .int (nI S), .int (nI T), .int (nI e), .int (nI t)] [] (wR (va_up g 13 L) tr) r w2 := by
  have hb := hc.b
  have hc2 : RI n q dn (va_up g 13 L) := hc
  intro j
  induction j with
  | zero =>
    intro t ht ha K
    exact absurd ha (by simp [anyN])
  | succ j ih =>
    intro t ht ha K
    have htn : t < n := by omega
    have hb1 := bit_1 hT (show t < 6 by omega)
    rw [anyN_s] at ha
    rw [firT_s] at K
    have A := c_X9_canHave d (va_up g 13 L) tr hc2 hS (or_lt T hT t (by omega)) (nI u) (show e + 1 + k = q by omega) (x := nI e + 1) (y := nI T ||| 1 <<< (nI t &&& 31)) (nI_1 e) (or_I (by omega))
    refine Ev.sn e_X9_laying 2 (i' := 43) (ls' := [_, _, _, _, _, _, _]) (st' := [_, _]) rfl ?_
    refine Ev.clV e_X9_laying rfl rfl (as := [_]) rfl rfl rfl kl_X9_useOf rfl rfl rfl (c_X9_useOf _ _ _ hc2 htn) rfl ?_
    refine Ev.sn e_X9_laying 1 (i' := 45) (ls' := [_, _, _, _, _, _, _]) (st' := [_, _]) rfl ?_
    refine Ev.br (i1 := 46) (i2 := 71) e_X9_laying rfl rfl (fun hu => ?_) (fun hu => ?_)
    · refine Ev.sn e_X9_laying 6 (i' := 52) (ls' := [_, _, _, _, _, _, _]) (st' := [_, _]) rfl ?_
      refine Ev.br (i1 := 71) (i2 := 53) e_X9_laying rfl rfl (fun hq => ?_) (fun hq => ?_)
      · refine Ev.sn e_X9_laying 2 (i' := 41) (ls' := [_, _, _, _, _, _, _]) (st' := []) rfl ?_
        have hF : ¬ (FXB (vR n q dn g) n (nI u) S k e T) t = true := by
          have hq2 : T.testBit t = true := hb1.mp hq
          simp [FXB, okB, hq2]
        rw [if_neg hF] at ha K
        rw [nI_1]
        exact ih (t + 1) (by omega) ha K
      · refine Ev.sn e_X9_laying 3 (i' := 56) (ls' := [_, _, _, _, _, _, _]) (st' := [_, _, _]) rfl ?_
        refine Ev.clV e_X9_laying rfl rfl (as := [_, _]) rfl rfl rfl kl_X9_isFit rfl rfl rfl (c_X9_isFit _ _ _ hc2 htn (show e < q by omega)) rfl ?_
        refine Ev.brB (i1 := 71) (i2 := 58) e_X9_laying rfl rfl (fun hf => ?_) (fun hf => ?_)
        · refine Ev.sn e_X9_laying 2 (i' := 41) (ls' := [_, _, _, _, _, _, _]) (st' := []) rfl ?_
          have hF : ¬ (FXB (vR n q dn g) n (nI u) S k e T) t = true := by
            have hf2 : fpB (vR n q dn g) t e = false := hf
            simp [FXB, okB, hf2]
          rw [if_neg hF] at ha K
          rw [nI_1]
          exact ih (t + 1) (by omega) ha K
        · refine Ev.sn e_X9_laying 11 (i' := 69) (ls' := [_, _, _, _, _, _, _]) (st' := [_, _, _, _, _]) rfl ?_
          refine Ev.clV e_X9_laying rfl rfl (as := [_, _, _, _]) rfl rfl rfl kl_X9_canHave rfl rfl rfl (A) rfl ?_
          refine Ev.brB (i1 := 71) (i2 := 73) e_X9_laying rfl rfl (fun hx => ?_) (fun hx => ?_)
          · refine Ev.sn e_X9_laying 2 (i' := 41) (ls' := [_, _, _, _, _, _, _]) (st' := []) rfl ?_
            have hF : ¬ (FXB (vR n q dn g) n (nI u) S k e T) t = true := by
              have hx2 : EXB (vR n q dn g) n (nI u) S k (e + 1) (T ||| 2 ^ t) = false := hx
              simp [FXB, hx2]
            rw [if_neg hF] at ha K
            rw [nI_1]
            exact ih (t + 1) (by omega) ha K
          · have hF : (FXB (vR n q dn g) n (nI u) S k e T) t = true := by
              have hu2 : (vR n q dn g) 0 t = nI u := hu
              have hq2 : T.testBit t = false := by
                cases hz : T.testBit t with
                | false => rfl
                | true => exact absurd (hb1.mpr hz) hq
              have hf2 : fpB (vR n q dn g) t e = true := hf
              have hx2 : EXB (vR n q dn g) n (nI u) S k (e + 1) (T ||| 2 ^ t) = true := hx
              simp [FXB, okB, hu2, hq2, hf2, hx2]
            rw [if_pos hF] at K
            exact K
    · refine Ev.sn e_X9_laying 2 (i' := 41) (ls' := [_, _, _, _, _, _, _]) (st' := []) rfl ?_
      have hF : ¬ (FXB (vR n q dn g) n (nI u) S k e T) t = true := by
        have hu2 : ¬ (vR n q dn g) 0 t = nI u := hu
        simp [FXB, okB, hu2]
      rw [if_neg hF] at ha K
      rw [nI_1]
      exact ih (t + 1) (by omega) ha K
theorem wR_13 (g : RG) (tr : Int64) (L F : Nat → Int32) : (wR (va_up g 13 L) tr).set 13 (.inl (0, 15, .inl F)) = wR (va_up g 13 F) tr := rfl
set_option maxRecDepth 20000 in
set_option maxHeartbeats 200000 in
theorem lp_X9_laying (d : Nat) (g : RG) (tr : Int64) {n q dn : Nat} (hc : RI n q dn g) {S P u : Nat} (hS : S < 64) (hu3 : u < 3) (hP : S.testBit P = true) (hPq : P < q) : ∀ (j e k T : Nat) (L : Nat → Int32), e + j = P → e + k = q → T < 64 → EXB (vR n q dn g) n (nI u) S k e T = true → ∃ L', Ev (d + 4) 158 29 [.ref 0, .int (nI P), .int (nI u), .int (nI S), .int (nI T), .int (nI e), .null] [] (wR (va_up g 13 L) tr) (some (.int (nI (gpk (vR n q dn g) n (nI u) S k e T P)))) (wR (va_up g 13 L') tr) := by
  have hb := hc.b
  intro j
  induction j with
  | zero =>
    intro e k T L hj hk hT hE
    have he : e = P := by omega
    subst he
    obtain ⟨k, rfl⟩ : ∃ z, k = z + 1 := ⟨k - 1, by omega⟩
    rw [EXB_s, if_pos hP] at hE
    have hf := firT_ok _ _ _ hE
    have hb1 := bit_1 hS (show e < 6 by omega)
    unfold gpk
    rw [if_pos hP, if_pos rfl]
    obtain ⟨t, et⟩ : ∃ t, t = firT (FXB (vR n q dn g) n (nI u) S k e T) n 0 := ⟨_, rfl⟩
    refine ⟨upd L (3 * e + u) (nI t), ?_⟩
    rw [← et]
    refine Ev.sn e_X9_laying 2 (i' := 31) (ls' := [_, _, _, _, _, _, _]) (st' := [_, _]) rfl ?_
    refine Ev.brF (i1 := 90) (i2 := 32) e_X9_laying rfl rfl ((nI_nlt (by omega) (by omega))) ?_
    refine Ev.sn e_X9_laying 6 (i' := 38) (ls' := [_, _, _, _, _, _, _]) (st' := [_, _]) rfl ?_
    refine Ev.brT (i1 := 39) (i2 := 88) e_X9_laying rfl rfl ((hb1.mpr hP)) ?_
    refine Ev.sn e_X9_laying 2 (i' := 41) (ls' := [_, _, _, _, _, _, _]) (st' := []) rfl ?_
    refine lq_X9_laying d g tr hc hS hu3 hk hT L _ _ n 0 (by omega) hE ?_
    rw [← et]
    refine Ev.sn e_X9_laying 14 (i' := 87) (ls' := [_, _, _, _, _, _, _]) (st' := [_, _, _]) rfl ?_
    refine Ev.iastE e_X9_laying rfl rfl rfl (m := 3 * e + u) (by rw [show (3 : Int32) = nI 3 from rfl, pk_mul, nI_add]) (by omega) (wR_13 _ _ _ _) ?_
    refine Ev.sn e_X9_laying 2 (i' := 29) (ls' := [_, _, _, _, _, _, _]) (st' := []) rfl ?_
    rw [nI_1]
    refine Ev.sn e_X9_laying 2 (i' := 31) (ls' := [_, _, _, _, _, _, _]) (st' := [_, _]) rfl ?_
    refine Ev.brT (i1 := 90) (i2 := 32) e_X9_laying rfl rfl ((nI_lt (by omega) (by omega))) ?_
    refine Ev.sn e_X9_laying 7 (i' := 97) (ls' := [_, _, _, _, _, _, _]) (st' := [_, _]) rfl ?_
    refine Ev.ialdE e_X9_laying rfl rfl rfl rfl (m := 3 * e + u) (by rw [show (3 : Int32) = nI 3 from rfl, pk_mul, nI_add]) (by omega) ?_
    refine Ev.iret e_X9_laying rfl rfl rfl ?_ rfl
    exact pk_us
  | succ j ih =>
    intro e k T L hj hk hT hE
    obtain ⟨k, rfl⟩ : ∃ z, k = z + 1 := ⟨k - 1, by omega⟩
    rw [EXB_s] at hE
    have hb1 := bit_1 hS (show e < 6 by omega)
    unfold gpk
    by_cases hz : S.testBit e = true
    · rw [if_pos hz] at hE ⊢
      rw [if_neg (show ¬ e = P by omega)]
      have hf := firT_ok _ _ _ hE
      obtain ⟨t, et⟩ : ∃ t, t = firT (FXB (vR n q dn g) n (nI u) S k e T) n 0 := ⟨_, rfl⟩
      rw [← et] at hf ⊢
      have hF := hf.1
      unfold FXB at hF
      rw [Bool.and_eq_true] at hF
      obtain ⟨L', a⟩ := ih (e + 1) k (T ||| 2 ^ t) (upd L (3 * e + u) (nI t)) (by omega) (by omega) (or_lt T hT t (by omega)) hF.2
      refine ⟨L', ?_⟩
      refine Ev.sn e_X9_laying 2 (i' := 31) (ls' := [_, _, _, _, _, _, _]) (st' := [_, _]) rfl ?_
      refine Ev.brF (i1 := 90) (i2 := 32) e_X9_laying rfl rfl ((nI_nlt (by omega) (by omega))) ?_
      refine Ev.sn e_X9_laying 6 (i' := 38) (ls' := [_, _, _, _, _, _, _]) (st' := [_, _]) rfl ?_
      refine Ev.brT (i1 := 39) (i2 := 88) e_X9_laying rfl rfl ((hb1.mpr hz)) ?_
      refine Ev.sn e_X9_laying 2 (i' := 41) (ls' := [_, _, _, _, _, _, _]) (st' := []) rfl ?_
      refine lq_X9_laying d g tr hc hS hu3 hk hT L _ _ n 0 (by omega) hE ?_
      rw [← et]
      refine Ev.sn e_X9_laying 14 (i' := 87) (ls' := [_, _, _, _, _, _, _]) (st' := [_, _, _]) rfl ?_
      refine Ev.iastE e_X9_laying rfl rfl rfl (m := 3 * e + u) (by rw [show (3 : Int32) = nI 3 from rfl, pk_mul, nI_add]) (by omega) (wR_13 _ _ _ _) ?_
      refine Ev.sn e_X9_laying 2 (i' := 29) (ls' := [_, _, _, _, _, _, _]) (st' := []) rfl ?_
      rw [nI_1, or_I (by omega)]
      exact Ev.weak (lle_c (lle_c (lle_c (lle_c (lle_c (lle_c (lle_n lle_0))))))) a
    · rw [if_neg hz] at hE ⊢
      obtain ⟨L', a⟩ := ih (e + 1) k T L (by omega) (by omega) hT hE
      refine ⟨L', ?_⟩
      refine Ev.sn e_X9_laying 2 (i' := 31) (ls' := [_, _, _, _, _, _, _]) (st' := [_, _]) rfl ?_
      refine Ev.brF (i1 := 90) (i2 := 32) e_X9_laying rfl rfl ((nI_nlt (by omega) (by omega))) ?_
      refine Ev.sn e_X9_laying 6 (i' := 38) (ls' := [_, _, _, _, _, _, _]) (st' := [_, _]) rfl ?_
      refine Ev.brF (i1 := 39) (i2 := 88) e_X9_laying rfl rfl ((fun h => hz (hb1.mp h))) ?_
      refine Ev.sn e_X9_laying 2 (i' := 29) (ls' := [_, _, _, _, _, _, _]) (st' := []) rfl ?_
      rw [nI_1]
      exact a
theorem u02 (u : Int32) : (decide (0 ≤ u) && decide (u ≤ 2)) = (decide (0 ≤ u) && decide (u < 3)) := by
  apply congrArg
  apply decide_eq_decide.mpr
  rw [Int32.le_iff_toInt_le, Int32.lt_iff_toInt_lt]
  show u.toInt ≤ 2 ↔ u.toInt < 3
  omega
set_option maxRecDepth 20000 in
set_option maxHeartbeats 200000 in
theorem c_X9_laying_b (d : Nat) (g : RG) (tr : Int64) {n q dn : Nat} (hc : RI n q dn g) (p u : Int32) (h : ((decide (0 ≤ p) && decide (p < nI q)) && (decide (0 ≤ u) && decide (u < 3))) = false) : Ev (d + 2) 158 0 [.ref 0, .int p, .int u, .null, .null, .null, .null] [] (wR g tr) (some (.int (-1))) (wR g tr) := by
  refine Ev.sn e_X9_laying 2 (i' := 2) (ls' := [_, _, _, _, _, _, _]) (st' := [_, _]) rfl ?_
  refine Ev.put e_X9_laying rfl rfl rfl rfl rfl rfl (w1 := wR g tr) rfl ?_
  refine Ev.sn e_X9_laying 2 (i' := 5) (ls' := [_, _, _, _, _, _, _]) (st' := [_, _]) rfl ?_
  refine Ev.clV e_X9_laying rfl rfl (as := [_]) rfl rfl rfl kl_X9_isPerson rfl rfl rfl (c_X9_isPerson _ _ _ hc _) rfl ?_
  refine Ev.brB (i1 := 12) (i2 := 7) e_X9_laying rfl rfl (fun h0 => ?_) (fun h0 => ?_)
  · refine Ev.sn e_X9_laying 1 (i' := 13) (ls' := [_, _, _, _, _, _, _]) (st' := [_]) rfl ?_
    refine Ev.iret e_X9_laying rfl rfl rfl ?_ rfl
    rfl
  · refine Ev.sn e_X9_laying 3 (i' := 10) (ls' := [_, _, _, _, _, _, _]) (st' := [_, _, _]) rfl ?_
    refine Ev.clS e_X9_laying rfl rfl rfl (as := [_, _, _]) rfl rfl rfl rfl rfl (c_X9_in _ _ _ _ _) rfl ?_
    refine Ev.brB (i1 := 12) (i2 := 14) e_X9_laying rfl rfl (fun h1 => ?_) (fun h1 => ?_)
    · refine Ev.sn e_X9_laying 1 (i' := 13) (ls' := [_, _, _, _, _, _, _]) (st' := [_]) rfl ?_
      refine Ev.iret e_X9_laying rfl rfl rfl ?_ rfl
      rfl
    · exact absurd h (by rw [u02] at h1; rw [h0, h1]; decide)
set_option maxRecDepth 20000 in
set_option maxHeartbeats 200000 in
theorem c_X9_laying_s (d : Nat) (g : RG) (tr : Int64) {n q dn : Nat} (hc : RI n q dn g) {p u : Nat} (hp : p < q) (hu : u < 3) : ∃ L', Ev (d + 5) 158 0 [.ref 0, .int (nI p), .int (nI u), .null, .null, .null, .null] [] (wR g tr) (some (.int (S_laying (vR n q dn g) n q p u))) (wR (va_up g 13 L') tr) := by
  have hb := hc.b
  have hM := MPB_ok (v := (vR n q dn g)) (n := n) hb.2.1
  have h1 : (decide (0 ≤ nI p) && decide (nI p < nI q)) = true := by
    simp only [Bool.and_eq_true, decide_eq_true_eq]
    exact ⟨nI_pos' (by omega), nI_lt hp (by omega)⟩
  have h2 : (decide (0 ≤ nI u) && decide (nI u ≤ 2)) = true := by
    simp only [Bool.and_eq_true, decide_eq_true_eq]
    exact ⟨nI_pos' (by omega), nI_le (b := 2) (by omega) (by omega)⟩
  have hb0 := bit_0 (show MPB (vR n q dn g) n q < 64 by omega) (show p < 6 by omega)
  unfold S_laying
  cases hz : (MPB (vR n q dn g) n q).testBit p with
  | false =>
    refine ⟨g 13, ?_⟩
    rw [va_same]
    refine Ev.sn e_X9_laying 2 (i' := 2) (ls' := [_, _, _, _, _, _, _]) (st' := [_, _]) rfl ?_
    refine Ev.put e_X9_laying rfl rfl rfl rfl rfl rfl (w1 := wR g tr) rfl ?_
    refine Ev.sn e_X9_laying 2 (i' := 5) (ls' := [_, _, _, _, _, _, _]) (st' := [_, _]) rfl ?_
    refine Ev.clV e_X9_laying rfl rfl (as := [_]) rfl rfl rfl kl_X9_isPerson rfl rfl rfl (c_X9_isPerson _ _ _ hc _) rfl ?_
    refine Ev.brF (i1 := 12) (i2 := 7) e_X9_laying rfl rfl (bF h1) ?_
    refine Ev.sn e_X9_laying 3 (i' := 10) (ls' := [_, _, _, _, _, _, _]) (st' := [_, _, _]) rfl ?_
    refine Ev.clS e_X9_laying rfl rfl rfl (as := [_, _, _]) rfl rfl rfl rfl rfl (c_X9_in _ _ _ _ _) rfl ?_
    refine Ev.brF (i1 := 12) (i2 := 14) e_X9_laying rfl rfl (bF h2) ?_
    refine Ev.sn e_X9_laying 1 (i' := 15) (ls' := [_, _, _, _, _, _, _]) (st' := [_]) rfl ?_
    refine Ev.clV e_X9_laying rfl rfl (as := []) rfl rfl rfl kl_X9_housedSet rfl rfl rfl (c_X9_housedSet _ _ _ hc) rfl ?_
    refine Ev.sn e_X9_laying 6 (i' := 22) (ls' := [_, _, _, _, _, _, _]) (st' := [_]) rfl ?_
    refine Ev.brT (i1 := 23) (i2 := 25) e_X9_laying rfl rfl ((hb0.mpr hz)) ?_
    refine Ev.sn e_X9_laying 1 (i' := 24) (ls' := [_, _, _, _, _, _, _]) (st' := [_]) rfl ?_
    refine Ev.iret e_X9_laying rfl rfl rfl ?_ rfl
    rfl
  | true =>
    have hE : EXB (vR n q dn g) n (nI u) (MPB (vR n q dn g) n q) q 0 0 = true := by
      rcases hM.2 with h | h
      · rw [h] at hz; rw [Nat.zero_testBit] at hz; exact absurd hz (by decide)
      · exact CHB_u hu h
    obtain ⟨L', a⟩ := lp_X9_laying (d + 1) g tr hc (show MPB (vR n q dn g) n q < 64 by omega) hu hz hp p 0 q 0 (g 13) (by omega) (by omega) (by omega) hE
    rw [va_same] at a
    refine ⟨L', ?_⟩
    refine Ev.sn e_X9_laying 2 (i' := 2) (ls' := [_, _, _, _, _, _, _]) (st' := [_, _]) rfl ?_
    refine Ev.put e_X9_laying rfl rfl rfl rfl rfl rfl (w1 := wR g tr) rfl ?_
    refine Ev.sn e_X9_laying 2 (i' := 5) (ls' := [_, _, _, _, _, _, _]) (st' := [_, _]) rfl ?_
    refine Ev.clV e_X9_laying rfl rfl (as := [_]) rfl rfl rfl kl_X9_isPerson rfl rfl rfl (c_X9_isPerson _ _ _ hc _) rfl ?_
    refine Ev.brF (i1 := 12) (i2 := 7) e_X9_laying rfl rfl (bF h1) ?_
    refine Ev.sn e_X9_laying 3 (i' := 10) (ls' := [_, _, _, _, _, _, _]) (st' := [_, _, _]) rfl ?_
    refine Ev.clS e_X9_laying rfl rfl rfl (as := [_, _, _]) rfl rfl rfl rfl rfl (c_X9_in _ _ _ _ _) rfl ?_
    refine Ev.brF (i1 := 12) (i2 := 14) e_X9_laying rfl rfl (bF h2) ?_
    refine Ev.sn e_X9_laying 1 (i' := 15) (ls' := [_, _, _, _, _, _, _]) (st' := [_]) rfl ?_
    refine Ev.clV e_X9_laying rfl rfl (as := []) rfl rfl rfl kl_X9_housedSet rfl rfl rfl (c_X9_housedSet _ _ _ hc) rfl ?_
    refine Ev.sn e_X9_laying 6 (i' := 22) (ls' := [_, _, _, _, _, _, _]) (st' := [_]) rfl ?_
    refine Ev.brF (i1 := 23) (i2 := 25) e_X9_laying rfl rfl ((fun h => absurd (hb0.mp h) (by rw [hz]; decide))) ?_
    refine Ev.sn e_X9_laying 4 (i' := 29) (ls' := [_, _, _, _, _, _, _]) (st' := []) rfl ?_
    exact a
