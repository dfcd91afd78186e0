/-! the reference: strangers, scales, what is done -/
def stLA (k : Nat) (u v : VW) (z : Int32) (t s : Nat) (a : Int32 × Int32) : Int32 × Int32 := if ALW k u v z (nI s) = true then (if fitB v t (v 1 t) (nI s) z = true then (a.1 + 1, a.2) else (a.1, a.2 + 1)) else a
theorem LA2_st (k : Nat) (u v : VW) (z : Int32) (t : Nat) : LA2 k u v z t = fo (stLA k u v z t) 48 1 (0, 0) := rfl
theorem mx2_le (a : Int32 × Int32) : mx2 a = if a.1 ≤ a.2 then a.2 else a.1 := by
  unfold mx2
  by_cases h : a.1 < a.2
  · rw [if_pos h, if_pos (Int32.le_of_lt h)]
  · rw [if_neg h]
    by_cases h2 : a.1 ≤ a.2
    · rw [if_pos h2]
      exact Int32.le_antisymm h2 (Int32.not_lt.mp h)
    · rw [if_neg h2]
set_option maxRecDepth 20000 in
set_option maxHeartbeats 200000 in
theorem lp_X9_worst (d : Nat) (g : Nat → Nat → Int32) (tr : Int64) {n q dn : Nat} (hc : RI n q dn g) {k : Nat} (hk : g 0 7 = nI k) (ht : TI n k (tR k g)) (z : Int32) {t : Nat} (ht0 : t < n) : ∀ (j p : Nat) (a : Int32 × Int32), p + j = 49 → Ev (d + 3) 163 6 [.ref 0, .int (nI t), .int z, .int a.1, .int a.2, .int (nI p), .null, .null] [] (wR g tr) (some (.int (mx2 (fo (stLA k (tR k g) (vR n q dn g) z t) j p a)))) (wR g tr) := by
  intro j
  induction j with
  | zero =>
    intro p a hp
    rw [mx2_le]
    refine Ev.sn e_X9_worst 2 (i' := 8) (ls' := [_, _, _, _, _, _, _, _]) (st' := [_, _]) rfl ?_
    refine Ev.brT (i1 := 48) (i2 := 9) e_X9_worst rfl rfl (ge_t (n := 49) rfl (by omega) (by omega)) ?_
    refine Ev.sn e_X9_worst 2 (i' := 50) (ls' := [_, _, _, _, _, _, _, _]) (st' := [_, _]) rfl ?_
    refine Ev.br (i1 := 53) (i2 := 51) e_X9_worst rfl rfl (fun h0 => ?_) (fun h0 => ?_)
    · refine Ev.sn e_X9_worst 1 (i' := 54) (ls' := [_, _, _, _, _, _, _, _]) (st' := [_]) rfl ?_
      refine Ev.iret e_X9_worst rfl rfl rfl ?_ rfl
      exact (if_pos h0).symm
    · refine Ev.sn e_X9_worst 2 (i' := 54) (ls' := [_, _, _, _, _, _, _, _]) (st' := [_]) rfl ?_
      refine Ev.iret e_X9_worst rfl rfl rfl ?_ rfl
      exact (if_neg h0).symm
  | succ j ih =>
    intro p a hp
    rw [fo_s (k := j)]
    have hb := hc.b
    have hv : (vR n q dn g) 1 t = g 7 (6 + t) := cut_lt (f := fun t => g 7 (6 + t)) ht0
    refine Ev.sn e_X9_worst 2 (i' := 8) (ls' := [_, _, _, _, _, _, _, _]) (st' := [_, _]) rfl ?_
    refine Ev.brF (i1 := 48) (i2 := 9) e_X9_worst rfl rfl (ge_f (n := 49) rfl (by omega) (by omega)) ?_
    refine Ev.sn e_X9_worst 3 (i' := 12) (ls' := [_, _, _, _, _, _, _, _]) (st' := [_, _, _]) rfl ?_
    refine Ev.clV e_X9_worst rfl rfl (as := [_, _]) rfl rfl rfl kl_X9_mayBeAt rfl rfl rfl (c_X9_mayBeAt _ _ _ hc hk ht _ _) rfl ?_
    refine Ev.sn e_X9_worst 8 (i' := 21) (ls' := [_, _, _, _, _, _, _, _]) (st' := [_, _, _, _]) rfl ?_
    refine Ev.ialdE e_X9_worst rfl rfl rfl rfl (nI_add 6 t) (by omega) ?_
    refine Ev.sn e_X9_worst 2 (i' := 24) (ls' := [_, _, _, _, _, _, _, _]) (st' := [_, _, _, _, _]) rfl ?_
    refine Ev.clV e_X9_worst rfl rfl (as := [_, _, _, _]) rfl rfl rfl kl_X9_fits rfl rfl rfl (by rw [← hv]; exact c_X9_fits _ _ _ hc ht0 _ _ _) rfl ?_
    refine Ev.sn e_X9_worst 3 (i' := 28) (ls' := [_, _, _, _, _, _, _, _]) (st' := [_, _]) rfl ?_
    refine Ev.brB (i1 := 33) (i2 := 29) e_X9_worst rfl rfl (fun h28 => ?_) (fun h28 => ?_)
    · refine Ev.sn e_X9_worst 5 (i' := 38) (ls' := [_, _, _, _, _, _, _, _]) (st' := [_, _]) rfl ?_
      refine Ev.brB (i1 := 43) (i2 := 39) e_X9_worst rfl rfl (fun h38 => ?_) (fun h38 => ?_)
      · refine Ev.sn e_X9_worst 5 (i' := 6) (ls' := [_, _, _, _, _, _, _, _]) (st' := []) rfl ?_
        refine Ev.weak (lle_c (lle_c (lle_c (lle_c (lle_c (lle_c (lle_n (lle_n lle_0)))))))) (Ev.cg (ih (p + 1) (stLA k (tR k g) (vR n q dn g) z t p a) (by omega)) ?_)
        simp_all [stLA, nI_1]
      · refine Ev.sn e_X9_worst 1 (i' := 40) (ls' := [_, _, _, _, _, _, _, _]) (st' := [_, _]) rfl ?_
        refine Ev.brB (i1 := 41) (i2 := 43) e_X9_worst rfl rfl (fun h40 => ?_) (fun h40 => ?_)
        · refine Ev.sn e_X9_worst 6 (i' := 6) (ls' := [_, _, _, _, _, _, _, _]) (st' := []) rfl ?_
          refine Ev.weak (lle_c (lle_c (lle_c (lle_c (lle_c (lle_c (lle_n (lle_n lle_0)))))))) (Ev.cg (ih (p + 1) (stLA k (tR k g) (vR n q dn g) z t p a) (by omega)) ?_)
          simp_all [stLA, nI_1]
        · refine Ev.sn e_X9_worst 5 (i' := 6) (ls' := [_, _, _, _, _, _, _, _]) (st' := []) rfl ?_
          refine Ev.weak (lle_c (lle_c (lle_c (lle_c (lle_c (lle_c (lle_n (lle_n lle_0)))))))) (Ev.cg (ih (p + 1) (stLA k (tR k g) (vR n q dn g) z t p a) (by omega)) ?_)
          simp_all [stLA, nI_1]
    · refine Ev.sn e_X9_worst 1 (i' := 30) (ls' := [_, _, _, _, _, _, _, _]) (st' := [_, _]) rfl ?_
      refine Ev.brB (i1 := 33) (i2 := 31) e_X9_worst rfl rfl (fun h30 => ?_) (fun h30 => ?_)
      · refine Ev.sn e_X9_worst 5 (i' := 38) (ls' := [_, _, _, _, _, _, _, _]) (st' := [_, _]) rfl ?_
        refine Ev.brB (i1 := 43) (i2 := 39) e_X9_worst rfl rfl (fun h38 => ?_) (fun h38 => ?_)
        · refine Ev.sn e_X9_worst 5 (i' := 6) (ls' := [_, _, _, _, _, _, _, _]) (st' := []) rfl ?_
          refine Ev.weak (lle_c (lle_c (lle_c (lle_c (lle_c (lle_c (lle_n (lle_n lle_0)))))))) (Ev.cg (ih (p + 1) (stLA k (tR k g) (vR n q dn g) z t p a) (by omega)) ?_)
          simp_all [stLA, nI_1]
        · refine Ev.sn e_X9_worst 1 (i' := 40) (ls' := [_, _, _, _, _, _, _, _]) (st' := [_, _]) rfl ?_
          refine Ev.brB (i1 := 41) (i2 := 43) e_X9_worst rfl rfl (fun h40 => ?_) (fun h40 => ?_)
          · refine Ev.sn e_X9_worst 6 (i' := 6) (ls' := [_, _, _, _, _, _, _, _]) (st' := []) rfl ?_
            refine Ev.weak (lle_c (lle_c (lle_c (lle_c (lle_c (lle_c (lle_n (lle_n lle_0)))))))) (Ev.cg (ih (p + 1) (stLA k (tR k g) (vR n q dn g) z t p a) (by omega)) ?_)
            simp_all [stLA, nI_1]
          · refine Ev.sn e_X9_worst 5 (i' := 6) (ls' := [_, _, _, _, _, _, _, _]) (st' := []) rfl ?_
            refine Ev.weak (lle_c (lle_c (lle_c (lle_c (lle_c (lle_c (lle_n (lle_n lle_0)))))))) (Ev.cg (ih (p + 1) (stLA k (tR k g) (vR n q dn g) z t p a) (by omega)) ?_)
            simp_all [stLA, nI_1]
      · refine Ev.sn e_X9_worst 6 (i' := 38) (ls' := [_, _, _, _, _, _, _, _]) (st' := [_, _]) rfl ?_
        refine Ev.brB (i1 := 43) (i2 := 39) e_X9_worst rfl rfl (fun h38 => ?_) (fun h38 => ?_)
        · refine Ev.sn e_X9_worst 5 (i' := 6) (ls' := [_, _, _, _, _, _, _, _]) (st' := []) rfl ?_
          refine Ev.weak (lle_c (lle_c (lle_c (lle_c (lle_c (lle_c (lle_n (lle_n lle_0)))))))) (Ev.cg (ih (p + 1) (stLA k (tR k g) (vR n q dn g) z t p a) (by omega)) ?_)
          simp_all [stLA, nI_1]
        · refine Ev.sn e_X9_worst 1 (i' := 40) (ls' := [_, _, _, _, _, _, _, _]) (st' := [_, _]) rfl ?_
          refine Ev.brB (i1 := 41) (i2 := 43) e_X9_worst rfl rfl (fun h40 => ?_) (fun h40 => ?_)
          · refine Ev.sn e_X9_worst 6 (i' := 6) (ls' := [_, _, _, _, _, _, _, _]) (st' := []) rfl ?_
            refine Ev.weak (lle_c (lle_c (lle_c (lle_c (lle_c (lle_c (lle_n (lle_n lle_0)))))))) (Ev.cg (ih (p + 1) (stLA k (tR k g) (vR n q dn g) z t p a) (by omega)) ?_)
            simp_all [stLA, nI_1]
          · refine Ev.sn e_X9_worst 5 (i' := 6) (ls' := [_, _, _, _, _, _, _, _]) (st' := []) rfl ?_
            refine Ev.weak (lle_c (lle_c (lle_c (lle_c (lle_c (lle_c (lle_n (lle_n lle_0)))))))) (Ev.cg (ih (p + 1) (stLA k (tR k g) (vR n q dn g) z t p a) (by omega)) ?_)
            simp_all [stLA, nI_1]
set_option maxRecDepth 20000 in
set_option maxHeartbeats 200000 in
theorem c_X9_worst (d : Nat) (g : Nat → Nat → Int32) (tr : Int64) {n q dn : Nat} (hc : RI n q dn g) {k : Nat} (hk : g 0 7 = nI k) (ht : TI n k (tR k g)) (z : Int32) {t : Nat} (ht0 : t < n) : Ev (d + 3) 163 0 [.ref 0, .int (nI t), .int z, .null, .null, .null, .null, .null] [] (wR g tr) (some (.int (LAW k (tR k g) (vR n q dn g) z t))) (wR g tr) := by
  have hb := hc.b
  refine Ev.sn e_X9_worst 6 (i' := 6) (ls' := [_, _, _, _, _, _, _, _]) (st' := []) rfl ?_
  exact lp_X9_worst _ _ _ hc hk ht z ht0 48 1 (0, 0) rfl
def stMB (k : Nat) (u v : VW) (z : Int32) (s : Nat) (a : Int32 × Int32) : Int32 × Int32 := if ALW k u v z (nI s) = true then (a.1 + 1, if a.1 = 0 then nI s else a.2) else a
theorem stMB_ok {k : Nat} {u v : VW} {z : Int32} (j : Nat) : ∀ (p c : Nat) (l : Int32), c + j ≤ 100 → (fo (stMB k u v z) j p (nI c, l)).1 = fo (fun s a => if ALW k u v z (nI s) = true then a + 1 else a) j p (nI c) ∧ (fo (stMB k u v z) j p (nI c, l)).2 = if c = 0 then firN (fun s => ALW k u v z (nI s)) l j p else l := by
  induction j with
  | zero =>
    intro p c l _
    refine ⟨rfl, ?_⟩
    split <;> rfl
  | succ j ih =>
    intro p c l hc
    rw [fo_s, fo_s]
    by_cases h : ALW k u v z (nI p) = true
    · have e : stMB k u v z p (nI c, l) = (nI (c + 1), if c = 0 then nI p else l) := by
        unfold stMB
        rw [if_pos h, nI_1]
        by_cases h0 : c = 0
        · subst h0; rfl
        · simp only [if_neg h0, if_neg (nI_ne0 (show 0 < c by omega) (by omega))]
      obtain ⟨i1, i2⟩ := ih (p + 1) (c + 1) (if c = 0 then nI p else l) (by omega)
      rw [e, if_pos h, nI_1]
      refine ⟨i1, ?_⟩
      rw [i2, if_neg (by omega)]
      by_cases h0 : c = 0
      · rw [if_pos h0, if_pos h0]
        show nI p = if ALW k u v z (nI p) = true then nI p else _
        rw [if_pos h]
      · rw [if_neg h0, if_neg h0]
    · have e : stMB k u v z p (nI c, l) = (nI c, l) := if_neg h
      obtain ⟨i1, i2⟩ := ih (p + 1) c l (by omega)
      rw [e, if_neg h]
      refine ⟨i1, ?_⟩
      rw [i2]
      by_cases h0 : c = 0
      · rw [if_pos h0, if_pos h0]
        show _ = if ALW k u v z (nI p) = true then nI p else _
        rw [if_neg h]
      · rw [if_neg h0, if_neg h0]
set_option maxRecDepth 20000 in
set_option maxHeartbeats 200000 in
theorem lp_X9_mayBe (d : Nat) (g : Nat → Nat → Int32) (tr : Int64) {n q dn : Nat} (hc : RI n q dn g) {k : Nat} (hk : g 0 7 = nI k) (ht : TI n k (tR k g)) (z x : Int32) : ∀ (j p : Nat) (a : Int32 × Int32), p + j = 49 → Ev (d + 3) 162 21 [.ref 0, .int z, .int x, .int a.1, .int a.2, .int (nI p)] [] (wR g tr) (some (.int (if x = 0 then (fo (stMB k (tR k g) (vR n q dn g) z) j p a).1 else (fo (stMB k (tR k g) (vR n q dn g) z) j p a).2))) (wR g tr) := by
  intro j
  induction j with
  | zero =>
    intro p a hp
    refine Ev.sn e_X9_mayBe 2 (i' := 23) (ls' := [_, _, _, _, _, _]) (st' := [_, _]) rfl ?_
    refine Ev.brT (i1 := 38) (i2 := 24) e_X9_mayBe rfl rfl (ge_t (n := 49) rfl (by omega) (by omega)) ?_
    refine Ev.sn e_X9_mayBe 1 (i' := 39) (ls' := [_, _, _, _, _, _]) (st' := [_]) rfl ?_
    refine Ev.br (i1 := 40) (i2 := 42) e_X9_mayBe rfl rfl (fun h0 => ?_) (fun h0 => ?_)
    · refine Ev.sn e_X9_mayBe 2 (i' := 43) (ls' := [_, _, _, _, _, _]) (st' := [_]) rfl ?_
      refine Ev.iret e_X9_mayBe rfl rfl rfl ?_ rfl
      rw [if_pos h0]
      rfl
    · refine Ev.sn e_X9_mayBe 1 (i' := 43) (ls' := [_, _, _, _, _, _]) (st' := [_]) rfl ?_
      refine Ev.iret e_X9_mayBe rfl rfl rfl ?_ rfl
      rw [if_neg h0]
      rfl
  | succ j ih =>
    intro p a hp
    rw [fo_s (k := j)]
    refine Ev.sn e_X9_mayBe 2 (i' := 23) (ls' := [_, _, _, _, _, _]) (st' := [_, _]) rfl ?_
    refine Ev.brF (i1 := 38) (i2 := 24) e_X9_mayBe rfl rfl (ge_f (n := 49) rfl (by omega) (by omega)) ?_
    refine Ev.sn e_X9_mayBe 3 (i' := 27) (ls' := [_, _, _, _, _, _]) (st' := [_, _, _]) rfl ?_
    refine Ev.clV e_X9_mayBe rfl rfl (as := [_, _]) rfl rfl rfl kl_X9_mayBeAt rfl rfl rfl (c_X9_mayBeAt _ _ _ hc hk ht _ _) rfl ?_
    refine Ev.brB (i1 := 36) (i2 := 29) e_X9_mayBe rfl rfl (fun h0 => ?_) (fun h0 => ?_)
    · refine Ev.sn e_X9_mayBe 2 (i' := 21) (ls' := [_, _, _, _, _, _]) (st' := []) rfl ?_
      refine Ev.cg (ih (p + 1) (stMB k (tR k g) (vR n q dn g) z p a) (by omega)) ?_
      simp [stMB, nI_1, h0]
    · refine Ev.sn e_X9_mayBe 1 (i' := 30) (ls' := [_, _, _, _, _, _]) (st' := [_]) rfl ?_
      refine Ev.br (i1 := 31) (i2 := 33) e_X9_mayBe rfl rfl (fun h1 => ?_) (fun h1 => ?_)
      · refine Ev.sn e_X9_mayBe 6 (i' := 21) (ls' := [_, _, _, _, _, _]) (st' := []) rfl ?_
        refine Ev.cg (ih (p + 1) (stMB k (tR k g) (vR n q dn g) z p a) (by omega)) ?_
        simp [stMB, nI_1, h0, h1]
      · refine Ev.sn e_X9_mayBe 5 (i' := 21) (ls' := [_, _, _, _, _, _]) (st' := []) rfl ?_
        refine Ev.cg (ih (p + 1) (stMB k (tR k g) (vR n q dn g) z p a) (by omega)) ?_
        simp [stMB, nI_1, h0, h1]
set_option maxRecDepth 20000 in
set_option maxHeartbeats 200000 in
theorem c_X9_mayBe (d : Nat) (g : Nat → Nat → Int32) (tr : Int64) {n q dn : Nat} (hc : RI n q dn g) {k : Nat} (hk : g 0 7 = nI k) (ht : TI n k (tR k g)) (z x : Int32) : Ev (d + 3) 162 0 [.ref 0, .int z, .int x, .null, .null, .null] [] (wR g tr) (some (.int (S_mayBe k (tR k g) (vR n q dn g) z x))) (wR g tr) := by
  have hb := hc.b
  by_cases hg : gSz z x = true
  · rw [show S_mayBe k (tR k g) (vR n q dn g) z x = if x = 0 then SLF k (tR k g) (vR n q dn g) z else LSC k (tR k g) (vR n q dn g) z from if_pos hg]
    obtain ⟨i1, i2⟩ := stMB_ok (k := k) (u := (tR k g)) (v := (vR n q dn g)) (z := z) 48 1 0 (-9) (by omega)
    refine Ev.sn e_X9_mayBe 2 (i' := 2) (ls' := [_, _, _, _, _, _]) (st' := [_, _]) rfl ?_
    refine Ev.put e_X9_mayBe rfl rfl rfl rfl rfl rfl (w1 := wR g tr) rfl ?_
    refine Ev.sn e_X9_mayBe 3 (i' := 6) (ls' := [_, _, _, _, _, _]) (st' := [_, _, _]) rfl ?_
    refine Ev.clS e_X9_mayBe rfl rfl rfl (as := [_, _, _]) rfl rfl rfl rfl rfl (c_X9_in _ _ _ _ _) rfl ?_
    refine Ev.brF (i1 := 13) (i2 := 8) e_X9_mayBe rfl rfl (bF (by simp only [gSz, Bool.and_eq_true] at hg; simpa using hg.1)) ?_
    refine Ev.sn e_X9_mayBe 3 (i' := 11) (ls' := [_, _, _, _, _, _]) (st' := [_, _, _]) rfl ?_
    refine Ev.clS e_X9_mayBe rfl rfl rfl (as := [_, _, _]) rfl rfl rfl rfl rfl (c_X9_in _ _ _ _ _) rfl ?_
    refine Ev.brF (i1 := 13) (i2 := 15) e_X9_mayBe rfl rfl ((by rw [r01]; exact bF (by simp only [gSz, Bool.and_eq_true] at hg; exact hg.2))) ?_
    refine Ev.sn e_X9_mayBe 6 (i' := 21) (ls' := [_, _, _, _, _, _]) (st' := []) rfl ?_
    have := lp_X9_mayBe d g tr hc hk ht z x 48 1 (nI 0, -9) rfl
    rw [i1, i2, if_pos rfl] at this
    exact this
  · rw [show S_mayBe k (tR k g) (vR n q dn g) z x = -1 from if_neg hg]
    refine Ev.sn e_X9_mayBe 2 (i' := 2) (ls' := [_, _, _, _, _, _]) (st' := [_, _]) rfl ?_
    refine Ev.put e_X9_mayBe rfl rfl rfl rfl rfl rfl (w1 := wR g tr) rfl ?_
    refine Ev.sn e_X9_mayBe 3 (i' := 6) (ls' := [_, _, _, _, _, _]) (st' := [_, _, _]) rfl ?_
    refine Ev.clS e_X9_mayBe rfl rfl rfl (as := [_, _, _]) rfl rfl rfl rfl rfl (c_X9_in _ _ _ _ _) rfl ?_
    refine Ev.brB (i1 := 13) (i2 := 8) e_X9_mayBe rfl rfl (fun h0 => ?_) (fun h0 => ?_)
    · refine Ev.sn e_X9_mayBe 1 (i' := 14) (ls' := [_, _, _, _, _, _]) (st' := [_]) rfl ?_
      refine Ev.iret e_X9_mayBe rfl rfl rfl ?_ rfl
      rfl
    · refine Ev.sn e_X9_mayBe 3 (i' := 11) (ls' := [_, _, _, _, _, _]) (st' := [_, _, _]) rfl ?_
      refine Ev.clS e_X9_mayBe rfl rfl rfl (as := [_, _, _]) rfl rfl rfl rfl rfl (c_X9_in _ _ _ _ _) rfl ?_
      refine Ev.brB (i1 := 13) (i2 := 15) e_X9_mayBe rfl rfl (fun h1 => ?_) (fun h1 => ?_)
      · refine Ev.sn e_X9_mayBe 1 (i' := 14) (ls' := [_, _, _, _, _, _]) (st' := [_]) rfl ?_
        refine Ev.iret e_X9_mayBe rfl rfl rfl ?_ rfl
        rfl
      · exfalso
        rw [r01] at h1
        exact hg (by simp only [gSz, Bool.and_eq_true]; exact ⟨by simpa using h0, h1⟩)
def stB2 (k : Nat) (u v : VW) (z : Int32) (t : Nat) (a : Int32) : Int32 := if a = -9 then nI t else if LAW k u v z t < LAW k u v z a.toNatClampNeg then nI t else a
theorem cnt_le {c : Nat → Bool} (j : Nat) : ∀ (p m : Nat), ∃ m', m' ≤ m + j ∧ fo (fun s a => if c s = true then a + 1 else a) j p (nI m) = nI m' := by
  induction j with
  | zero => intro p m; exact ⟨m, by omega, rfl⟩
  | succ j ih =>
    intro p m
    rw [fo_s]
    by_cases h : c p = true
    · rw [if_pos h, nI_1]
      obtain ⟨m', h1, h2⟩ := ih (p + 1) (m + 1)
      exact ⟨m', by omega, h2⟩
    · rw [if_neg h]
      obtain ⟨m', h1, h2⟩ := ih (p + 1) m
      exact ⟨m', by omega, h2⟩
theorem LA2_le {k : Nat} {u v : VW} {z : Int32} {t : Nat} (j : Nat) : ∀ (p m m2 : Nat), ∃ m' m2', m' ≤ m + j ∧ m2' ≤ m2 + j ∧ fo (stLA k u v z t) j p (nI m, nI m2) = (nI m', nI m2') := by
  induction j with
  | zero => intro p m m2; exact ⟨m, m2, by omega, by omega, rfl⟩
  | succ j ih =>
    intro p m m2
    rw [fo_s]
    unfold stLA
    by_cases h : ALW k u v z (nI p) = true
    · rw [if_pos h]
      by_cases h2 : fitB v t (v 1 t) (nI p) z = true
      · rw [if_pos h2, nI_1]
        obtain ⟨a, b, h3, h4, h5⟩ := ih (p + 1) (m + 1) m2
        exact ⟨a, b, by omega, by omega, h5⟩
      · rw [if_neg h2, nI_1]
        obtain ⟨a, b, h3, h4, h5⟩ := ih (p + 1) m (m2 + 1)
        exact ⟨a, b, by omega, by omega, h5⟩
    · rw [if_neg h]
      obtain ⟨a, b, h3, h4, h5⟩ := ih (p + 1) m m2
      exact ⟨a, b, by omega, by omega, h5⟩
theorem LAW_lt (k : Nat) (u v : VW) (z : Int32) (t : Nat) : LAW k u v z t < 49 := by
  obtain ⟨a, b, h3, h4, h5⟩ := LA2_le (k := k) (u := u) (v := v) (z := z) (t := t) 48 1 0 0
  unfold LAW mx2
  rw [LA2_st, show ((0 : Int32), (0 : Int32)) = (nI 0, nI 0) from rfl, h5]
  simp only
  split
  · exact nI_lt (b := 49) (by omega) (by omega)
  · exact nI_lt (b := 49) (by omega) (by omega)
theorem B2_ok {k : Nat} {u v : VW} {z : Int32} (j : Nat) : ∀ (p : Nat) (a : Int32 × Int32), p + j < 2000 → ((a.1 = -9 ∧ a.2 = 49) ∨ ∃ t, t < p ∧ a.1 = nI t ∧ a.2 = LAW k u v z t) → fo (stB2 k u v z) j p a.1 = (fo (stBT k u v z) j p a).1 := by
  induction j with
  | zero => intro p a _ _; rfl
  | succ j ih =>
    intro p a hp ha
    rw [fo_s, fo_s]
    have e : stB2 k u v z p a.1 = (stBT k u v z p a).1 ∧ (((stBT k u v z p a).1 = -9 ∧ (stBT k u v z p a).2 = 49) ∨ ∃ t, t < p + 1 ∧ (stBT k u v z p a).1 = nI t ∧ (stBT k u v z p a).2 = LAW k u v z t) := by
      unfold stB2 stBT
      rcases ha with ⟨h1, h2⟩ | ⟨t, h1, h2, h3⟩
      · rw [if_pos h1, h2, if_pos (LAW_lt k u v z p)]
        exact ⟨rfl, Or.inr ⟨p, by omega, rfl, rfl⟩⟩
      · rw [h2, if_neg (nI_n9 (by omega)), nI_clamp (by omega), h3]
        by_cases h4 : LAW k u v z p < LAW k u v z t
        · rw [if_pos h4, if_pos h4]
          exact ⟨rfl, Or.inr ⟨p, by omega, rfl, rfl⟩⟩
        · rw [if_neg h4, if_neg h4]
          exact ⟨h2.symm, Or.inr ⟨t, by omega, h2, h3⟩⟩
    rw [e.1]
    exact ih (p + 1) _ (by omega) e.2
set_option maxRecDepth 20000 in
set_option maxHeartbeats 200000 in
theorem lp_X9_next (d : Nat) (g : Nat → Nat → Int32) (tr : Int64) {n q dn : Nat} (hc : RI n q dn g) {k : Nat} (hk : g 0 7 = nI k) (ht : TI n k (tR k g)) (z x : Int32) : ∀ (j p : Nat) (a : Int32), p + j = n → (a = -9 ∨ ∃ t, t < n ∧ a = nI t) → Ev (d + 4) 164 19 [.ref 0, .int z, .int x, .int a, .int (nI p)] [] (wR g tr) (some (.int (if fo (stB2 k (tR k g) (vR n q dn g) z) j p a = -9 then fo (stB2 k (tR k g) (vR n q dn g) z) j p a else if x = 0 then fo (stB2 k (tR k g) (vR n q dn g) z) j p a else LAW k (tR k g) (vR n q dn g) z (fo (stB2 k (tR k g) (vR n q dn g) z) j p a).toNatClampNeg))) (wR g tr) := by
  intro j
  induction j with
  | zero =>
    intro p a hp ha
    have hb := hc.b
    show Ev _ _ _ _ _ _ (some (.int (if a = -9 then a else if x = 0 then a else LAW k (tR k g) (vR n q dn g) z a.toNatClampNeg))) _
    refine Ev.sn e_X9_next 4 (i' := 23) (ls' := [_, _, _, _, _]) (st' := [_, _, _]) rfl ?_
    refine Ev.ialdE e_X9_next rfl rfl rfl rfl (m := 0) rfl (by decide) ?_
    refine Ev.brT (i1 := 43) (i2 := 25) e_X9_next rfl rfl (ge_t hc.hn (by omega) (by omega)) ?_
    refine Ev.sn e_X9_next 2 (i' := 45) (ls' := [_, _, _, _, _]) (st' := [_, _]) rfl ?_
    refine Ev.br (i1 := 48) (i2 := 46) e_X9_next rfl rfl (fun h0 => ?_) (fun h0 => ?_)
    · refine Ev.sn e_X9_next 2 (i' := 54) (ls' := [_, _, _, _, _]) (st' := [_]) rfl ?_
      refine Ev.iret e_X9_next rfl rfl rfl ?_ rfl
      rw [if_pos h0]
    · refine Ev.sn e_X9_next 1 (i' := 47) (ls' := [_, _, _, _, _]) (st' := [_]) rfl ?_
      refine Ev.br (i1 := 48) (i2 := 50) e_X9_next rfl rfl (fun h1 => ?_) (fun h1 => ?_)
      · refine Ev.sn e_X9_next 2 (i' := 54) (ls' := [_, _, _, _, _]) (st' := [_]) rfl ?_
        refine Ev.iret e_X9_next rfl rfl rfl ?_ rfl
        rw [if_neg h0, if_pos h1]
      · obtain ⟨t, ht1, ea⟩ := ha.resolve_left h0
        refine Ev.sn e_X9_next 3 (i' := 53) (ls' := [_, _, _, _, _]) (st' := [_, _, _]) rfl ?_
        refine Ev.clV e_X9_next rfl rfl (as := [_, _]) rfl rfl rfl kl_X9_worst rfl rfl rfl (by rw [ea]; exact c_X9_worst _ _ _ hc hk ht z ht1) rfl ?_
        refine Ev.iret e_X9_next rfl rfl rfl ?_ rfl
        rw [if_neg h0, if_neg h1, ea, nI_clamp (by omega)]
  | succ j ih =>
    intro p a hp ha
    have hb := hc.b
    rw [fo_s (k := j)]
    refine Ev.sn e_X9_next 4 (i' := 23) (ls' := [_, _, _, _, _]) (st' := [_, _, _]) rfl ?_
    refine Ev.ialdE e_X9_next rfl rfl rfl rfl (m := 0) rfl (by decide) ?_
    refine Ev.brF (i1 := 43) (i2 := 25) e_X9_next rfl rfl (ge_f hc.hn (by omega) (by omega)) ?_
    refine Ev.sn e_X9_next 2 (i' := 27) (ls' := [_, _, _, _, _]) (st' := [_, _]) rfl ?_
    refine Ev.br (i1 := 37) (i2 := 28) e_X9_next rfl rfl (fun h0 => ?_) (fun h0 => ?_)
    · refine Ev.sn e_X9_next 5 (i' := 19) (ls' := [_, _, _, _, _]) (st' := []) rfl ?_
      rw [nI_1, show stB2 k (tR k g) (vR n q dn g) z p a = nI p by unfold stB2; rw [if_pos h0]]
      exact ih (p + 1) _ (by omega) (Or.inr ⟨p, by omega, rfl⟩)
    · obtain ⟨t, ht1, ea⟩ := ha.resolve_left h0
      refine Ev.sn e_X9_next 3 (i' := 31) (ls' := [_, _, _, _, _]) (st' := [_, _, _]) rfl ?_
      refine Ev.clV e_X9_next rfl rfl (as := [_, _]) rfl rfl rfl kl_X9_worst rfl rfl rfl (c_X9_worst _ _ _ hc hk ht z (by omega)) rfl ?_
      refine Ev.sn e_X9_next 3 (i' := 35) (ls' := [_, _, _, _, _]) (st' := [_, _, _, _]) rfl ?_
      refine Ev.clV e_X9_next rfl rfl (as := [_, _]) rfl rfl rfl kl_X9_worst rfl rfl rfl (by rw [ea]; exact c_X9_worst _ _ _ hc hk ht z ht1) rfl ?_
      refine Ev.br (i1 := 39) (i2 := 37) e_X9_next rfl rfl (fun h1 => ?_) (fun h1 => ?_)
      · refine Ev.sn e_X9_next 4 (i' := 19) (ls' := [_, _, _, _, _]) (st' := []) rfl ?_
        rw [nI_1, show stB2 k (tR k g) (vR n q dn g) z p a = a by unfold stB2; rw [if_neg h0, ea, nI_clamp (by omega), if_neg (Int32.not_lt.mpr h1)]]
        exact ih (p + 1) _ (by omega) ha
      · refine Ev.sn e_X9_next 5 (i' := 19) (ls' := [_, _, _, _, _]) (st' := []) rfl ?_
        rw [nI_1, show stB2 k (tR k g) (vR n q dn g) z p a = nI p by unfold stB2; rw [if_neg h0, ea, nI_clamp (by omega), if_pos (Int32.not_le.mp h1)]]
        exact ih (p + 1) _ (by omega) (Or.inr ⟨p, by omega, rfl⟩)
set_option maxRecDepth 20000 in
set_option maxHeartbeats 200000 in
theorem c_X9_next (d : Nat) (g : Nat → Nat → Int32) (tr : Int64) {n q dn : Nat} (hc : RI n q dn g) {k : Nat} (hk : g 0 7 = nI k) (ht : TI n k (tR k g)) (z x : Int32) : Ev (d + 4) 164 0 [.ref 0, .int z, .int x, .null, .null] [] (wR g tr) (some (.int (S_next n k (tR k g) (vR n q dn g) z x))) (wR g tr) := by
  have hb := hc.b
  by_cases hg : gSz z x = true
  · have e0 : fo (stB2 k (tR k g) (vR n q dn g) z) n 0 (-9) = (BTT n k (tR k g) (vR n q dn g) z).1 := B2_ok n 0 (-9, 49) (by omega) (Or.inl ⟨rfl, rfl⟩)
    rw [show S_next n k (tR k g) (vR n q dn g) z x = (if (BTT n k (tR k g) (vR n q dn g) z).1 = -9 then (BTT n k (tR k g) (vR n q dn g) z).1 else if x = 0 then (BTT n k (tR k g) (vR n q dn g) z).1 else LAW k (tR k g) (vR n q dn g) z (BTT n k (tR k g) (vR n q dn g) z).1.toNatClampNeg) from if_pos hg, ← e0]
    refine Ev.sn e_X9_next 2 (i' := 2) (ls' := [_, _, _, _, _]) (st' := [_, _]) rfl ?_
    refine Ev.put e_X9_next rfl rfl rfl rfl rfl rfl (w1 := wR g tr) rfl ?_
    refine Ev.sn e_X9_next 3 (i' := 6) (ls' := [_, _, _, _, _]) (st' := [_, _, _]) rfl ?_
    refine Ev.clS e_X9_next rfl rfl rfl (as := [_, _, _]) rfl rfl rfl rfl rfl (c_X9_in _ _ _ _ _) rfl ?_
    refine Ev.brF (i1 := 13) (i2 := 8) e_X9_next rfl rfl (bF (by simp only [gSz, Bool.and_eq_true] at hg; simpa using hg.1)) ?_
    refine Ev.sn e_X9_next 3 (i' := 11) (ls' := [_, _, _, _, _]) (st' := [_, _, _]) rfl ?_
    refine Ev.clS e_X9_next rfl rfl rfl (as := [_, _, _]) rfl rfl rfl rfl rfl (c_X9_in _ _ _ _ _) rfl ?_
    refine Ev.brF (i1 := 13) (i2 := 15) e_X9_next rfl rfl ((by rw [r01]; exact bF (by simp only [gSz, Bool.and_eq_true] at hg; exact hg.2))) ?_
    refine Ev.sn e_X9_next 4 (i' := 19) (ls' := [_, _, _, _, _]) (st' := []) rfl ?_
    exact lp_X9_next d g tr hc hk ht z x n 0 (-9) (by omega) (Or.inl rfl)
  · rw [show S_next n k (tR k g) (vR n q dn g) z x = -1 from if_neg hg]
    refine Ev.sn e_X9_next 2 (i' := 2) (ls' := [_, _, _, _, _]) (st' := [_, _]) rfl ?_
    refine Ev.put e_X9_next rfl rfl rfl rfl rfl rfl (w1 := wR g tr) rfl ?_
    refine Ev.sn e_X9_next 3 (i' := 6) (ls' := [_, _, _, _, _]) (st' := [_, _, _]) rfl ?_
    refine Ev.clS e_X9_next rfl rfl rfl (as := [_, _, _]) rfl rfl rfl rfl rfl (c_X9_in _ _ _ _ _) rfl ?_
    refine Ev.brB (i1 := 13) (i2 := 8) e_X9_next rfl rfl (fun h0 => ?_) (fun h0 => ?_)
    · refine Ev.sn e_X9_next 1 (i' := 14) (ls' := [_, _, _, _, _]) (st' := [_]) rfl ?_
      refine Ev.iret e_X9_next rfl rfl rfl ?_ rfl
      rfl
    · refine Ev.sn e_X9_next 3 (i' := 11) (ls' := [_, _, _, _, _]) (st' := [_, _, _]) rfl ?_
      refine Ev.clS e_X9_next rfl rfl rfl (as := [_, _, _]) rfl rfl rfl rfl rfl (c_X9_in _ _ _ _ _) rfl ?_
      refine Ev.brB (i1 := 13) (i2 := 15) e_X9_next rfl rfl (fun h1 => ?_) (fun h1 => ?_)
      · refine Ev.sn e_X9_next 1 (i' := 14) (ls' := [_, _, _, _, _]) (st' := [_]) rfl ?_
        refine Ev.iret e_X9_next rfl rfl rfl ?_ rfl
        rfl
      · exfalso
        rw [r01] at h1
        exact hg (by simp only [gSz, Bool.and_eq_true]; exact ⟨by simpa using h0, h1⟩)
set_option maxRecDepth 20000 in
set_option maxHeartbeats 200000 in
theorem lq_X9_fitsAt (d : Nat) (g : Nat → Nat → Int32) (tr : Int64) {n q dn : Nat} (hc : RI n q dn g) (s : Int32) {t : Nat} (ht : t < n) (r : Option Value) (w2 : AW) : ∀ (k p : Nat) (a : Int32), p + k = q → Ev (d + 2) 165 45 [.ref 0, .int s, .int (fo (fun p a => if fitB (vR n q dn g) t s ((vR n q dn g) 4 p) ((vR n q dn g) 5 p) = true then a + 1 else a) k p a), .int (nI t), .null] [] (wR g tr) r w2 → Ev (d + 2) 165 12 [.ref 0, .int s, .int a, .int (nI t), .int (nI p)] [] (wR g tr) r w2 := by
  intro k
  induction k with
  | zero =>
    intro p a hp K
    have hb := hc.b
    refine Ev.sn e_X9_fitsAt 4 (i' := 16) (ls' := [_, _, _, _, _]) (st' := [_, _, _]) rfl ?_
    refine Ev.ialdE e_X9_fitsAt rfl rfl rfl rfl (m := 1) rfl (by decide) ?_
    refine Ev.brT (i1 := 45) (i2 := 18) e_X9_fitsAt rfl rfl (ge_t hc.hq (by omega) (by omega)) ?_
    exact Ev.weak (lle_c (lle_c (lle_c (lle_c (lle_n lle_0))))) K
  | succ k ih =>
    intro p a hp K
    have hb := hc.b
    have hv : (vR n q dn g) 4 p = g 7 (12 + p) := cut_lt (f := fun t => g 7 (12 + t)) (by omega)
    have hv2 : (vR n q dn g) 5 p = g 4 (2 * p + 1) := cut_lt (f := fun t => g 4 (2 * t + 1)) (by omega)
    refine Ev.sn e_X9_fitsAt 4 (i' := 16) (ls' := [_, _, _, _, _]) (st' := [_, _, _]) rfl ?_
    refine Ev.ialdE e_X9_fitsAt rfl rfl rfl rfl (m := 1) rfl (by decide) ?_
    refine Ev.brF (i1 := 45) (i2 := 18) e_X9_fitsAt rfl rfl (ge_f hc.hq (by omega) (by omega)) ?_
    refine Ev.sn e_X9_fitsAt 9 (i' := 27) (ls' := [_, _, _, _, _]) (st' := [_, _, _, _, _, _]) rfl ?_
    refine Ev.ialdE e_X9_fitsAt rfl rfl rfl rfl (nI_add 12 p) (by omega) ?_
    refine Ev.sn e_X9_fitsAt 7 (i' := 35) (ls' := [_, _, _, _, _]) (st' := [_, _, _, _, _, _, _]) rfl ?_
    refine Ev.ialdE e_X9_fitsAt rfl rfl rfl rfl (ixm 2 1 p) (by omega) ?_
    refine Ev.clV e_X9_fitsAt rfl rfl (as := [_, _, _, _]) rfl rfl rfl kl_X9_fits rfl rfl rfl (c_X9_fits _ _ _ hc ht _ _ _) rfl ?_
    refine Ev.brB (i1 := 40) (i2 := 38) e_X9_fitsAt rfl rfl (fun h0 => ?_) (fun h0 => ?_)
    · refine Ev.sn e_X9_fitsAt 5 (i' := 12) (ls' := [_, _, _, _, _]) (st' := []) rfl ?_
      refine Ev.cg (ih (p + 1) ((fun p a => if fitB (vR n q dn g) t s ((vR n q dn g) 4 p) ((vR n q dn g) 5 p) = true then a + 1 else a) p a) (by omega) K) ?_
      simp [nI_1, hv, hv2, h0]
    · refine Ev.sn e_X9_fitsAt 6 (i' := 12) (ls' := [_, _, _, _, _]) (st' := []) rfl ?_
      refine Ev.cg (ih (p + 1) ((fun p a => if fitB (vR n q dn g) t s ((vR n q dn g) 4 p) ((vR n q dn g) 5 p) = true then a + 1 else a) p a) (by omega) K) ?_
      simp [nI_1, hv, hv2, h0]
set_option maxRecDepth 20000 in
set_option maxHeartbeats 200000 in
theorem lp_X9_fitsAt (d : Nat) (g : Nat → Nat → Int32) (tr : Int64) {n q dn : Nat} (hc : RI n q dn g) (s : Int32) : ∀ (k t : Nat) (a : Int32), t + k = n → Ev (d + 2) 165 4 [.ref 0, .int s, .int a, .int (nI t), .null] [] (wR g tr) (some (.int (fo (fun t a => fo (fun p a => if fitB (vR n q dn g) t s ((vR n q dn g) 4 p) ((vR n q dn g) 5 p) = true then a + 1 else a) q 0 a) k t a))) (wR g tr) := by
  intro k
  induction k with
  | zero =>
    intro t a hp
    have hb := hc.b
    refine Ev.sn e_X9_fitsAt 4 (i' := 8) (ls' := [_, _, _, _, _]) (st' := [_, _, _]) rfl ?_
    refine Ev.ialdE e_X9_fitsAt rfl rfl rfl rfl (m := 0) rfl (by decide) ?_
    refine Ev.brT (i1 := 47) (i2 := 10) e_X9_fitsAt rfl rfl (ge_t hc.hn (by omega) (by omega)) ?_
    refine Ev.sn e_X9_fitsAt 1 (i' := 48) (ls' := [_, _, _, _, _]) (st' := [_]) rfl ?_
    refine Ev.iret e_X9_fitsAt rfl rfl rfl ?_ rfl
    rfl
  | succ k ih =>
    intro t a hp
    have hb := hc.b
    refine Ev.sn e_X9_fitsAt 4 (i' := 8) (ls' := [_, _, _, _, _]) (st' := [_, _, _]) rfl ?_
    refine Ev.ialdE e_X9_fitsAt rfl rfl rfl rfl (m := 0) rfl (by decide) ?_
    refine Ev.brF (i1 := 47) (i2 := 10) e_X9_fitsAt rfl rfl (ge_f hc.hn (by omega) (by omega)) ?_
    refine Ev.sn e_X9_fitsAt 2 (i' := 12) (ls' := [_, _, _, _, _]) (st' := []) rfl ?_
    refine lq_X9_fitsAt _ _ _ hc _ (by omega) _ _ q 0 a (by omega) ?_
    refine Ev.sn e_X9_fitsAt 2 (i' := 4) (ls' := [_, _, _, _, _]) (st' := []) rfl ?_
    rw [nI_1]
    exact ih (t + 1) _ (by omega)
set_option maxRecDepth 20000 in
set_option maxHeartbeats 200000 in
theorem c_X9_fitsAt (d : Nat) (g : Nat → Nat → Int32) (tr : Int64) {n q dn : Nat} (hc : RI n q dn g) (s : Int32) : Ev (d + 2) 165 0 [.ref 0, .int s, .null, .null, .null] [] (wR g tr) (some (.int (TWO n q (vR n q dn g) s))) (wR g tr) := by
  have hb := hc.b
  refine Ev.sn e_X9_fitsAt 4 (i' := 4) (ls' := [_, _, _, _, _]) (st' := []) rfl ?_
  exact lp_X9_fitsAt _ _ _ hc _ n 0 0 (by omega)
set_option maxRecDepth 20000 in
set_option maxHeartbeats 200000 in
theorem lp_X9_bestScale (d : Nat) (g : Nat → Nat → Int32) (tr : Int64) {n q dn : Nat} (hc : RI n q dn g) (x : Int32) : ∀ (k p b : Nat), p + k = 49 → 1 ≤ b → b ≤ 48 → 1 ≤ p → Ev (d + 3) 166 14 [.ref 0, .int x, .int (nI b), .int (nI p)] [] (wR g tr) (some (.int (if x = 0 then nI (fo (stAM (fun s => TWO n q (vR n q dn g) (nI s))) k p b) else (fun s => TWO n q (vR n q dn g) (nI s)) (fo (stAM (fun s => TWO n q (vR n q dn g) (nI s))) k p b)))) (wR g tr) := by
  intro k
  induction k with
  | zero =>
    intro p b hp h1 h2 h3
    refine Ev.sn e_X9_bestScale 2 (i' := 16) (ls' := [_, _, _, _]) (st' := [_, _]) rfl ?_
    refine Ev.brT (i1 := 30) (i2 := 17) e_X9_bestScale rfl rfl (ge_t (n := 49) rfl (by omega) (by omega)) ?_
    refine Ev.sn e_X9_bestScale 1 (i' := 31) (ls' := [_, _, _, _]) (st' := [_]) rfl ?_
    refine Ev.br (i1 := 32) (i2 := 34) e_X9_bestScale rfl rfl (fun h0 => ?_) (fun h0 => ?_)
    · refine Ev.sn e_X9_bestScale 2 (i' := 37) (ls' := [_, _, _, _]) (st' := [_]) rfl ?_
      refine Ev.iret e_X9_bestScale rfl rfl rfl ?_ rfl
      rw [if_pos h0]
      rfl
    · refine Ev.sn e_X9_bestScale 2 (i' := 36) (ls' := [_, _, _, _]) (st' := [_, _]) rfl ?_
      refine Ev.clV e_X9_bestScale rfl rfl (as := [_]) rfl rfl rfl kl_X9_fitsAt rfl rfl rfl (c_X9_fitsAt _ _ _ hc _) rfl ?_
      refine Ev.iret e_X9_bestScale rfl rfl rfl ?_ rfl
      rw [if_neg h0]
      rfl
  | succ k ih =>
    intro p b hp h1 h2 h3
    rw [fo_s (k := k)]
    refine Ev.sn e_X9_bestScale 2 (i' := 16) (ls' := [_, _, _, _]) (st' := [_, _]) rfl ?_
    refine Ev.brF (i1 := 30) (i2 := 17) e_X9_bestScale rfl rfl (ge_f (n := 49) rfl (by omega) (by omega)) ?_
    refine Ev.sn e_X9_bestScale 2 (i' := 19) (ls' := [_, _, _, _]) (st' := [_, _]) rfl ?_
    refine Ev.clV e_X9_bestScale rfl rfl (as := [_]) rfl rfl rfl kl_X9_fitsAt rfl rfl rfl (c_X9_fitsAt _ _ _ hc _) rfl ?_
    refine Ev.sn e_X9_bestScale 2 (i' := 22) (ls' := [_, _, _, _]) (st' := [_, _, _]) rfl ?_
    refine Ev.clV e_X9_bestScale rfl rfl (as := [_]) rfl rfl rfl kl_X9_fitsAt rfl rfl rfl (c_X9_fitsAt _ _ _ hc _) rfl ?_
    refine Ev.br (i1 := 26) (i2 := 24) e_X9_bestScale rfl rfl (fun h0 => ?_) (fun h0 => ?_)
    · refine Ev.sn e_X9_bestScale 4 (i' := 14) (ls' := [_, _, _, _]) (st' := []) rfl ?_
      rw [nI_1, show stAM (fun s => TWO n q (vR n q dn g) (nI s)) p b = b from if_pos h0]
      exact ih (p + 1) b (by omega) h1 h2 (by omega)
    · refine Ev.sn e_X9_bestScale 5 (i' := 14) (ls' := [_, _, _, _]) (st' := []) rfl ?_
      rw [nI_1, show stAM (fun s => TWO n q (vR n q dn g) (nI s)) p b = p from if_neg h0]
      exact ih (p + 1) p (by omega) (by omega) (by omega) (by omega)
set_option maxRecDepth 20000 in
set_option maxHeartbeats 200000 in
theorem c_X9_bestScale_s (d : Nat) (g : Nat → Nat → Int32) (tr : Int64) {n q dn : Nat} (hc : RI n q dn g) (x : Int32) (hg : (decide (x = 0) || decide (x = 1)) = true) : Ev (d + 3) 166 0 [.ref 0, .int x, .null, .null] [] (wR g tr) (some (.int (S_best (fun s => TWO n q (vR n q dn g) (nI s)) x))) (wR g tr) := by
  have hb := hc.b
  refine Ev.sn e_X9_bestScale 2 (i' := 2) (ls' := [_, _, _, _]) (st' := [_, _]) rfl ?_
  refine Ev.put e_X9_bestScale rfl rfl rfl rfl rfl rfl (w1 := wR g tr) rfl ?_
  refine Ev.sn e_X9_bestScale 3 (i' := 6) (ls' := [_, _, _, _]) (st' := [_, _, _]) rfl ?_
  refine Ev.clS e_X9_bestScale rfl rfl rfl (as := [_, _, _]) rfl rfl rfl rfl rfl (c_X9_in _ _ _ _ _) rfl ?_
  refine Ev.brF (i1 := 8) (i2 := 10) e_X9_bestScale rfl rfl ((by rw [r01]; exact bF hg)) ?_
  refine Ev.sn e_X9_bestScale 4 (i' := 14) (ls' := [_, _, _, _]) (st' := []) rfl ?_
  exact lp_X9_bestScale _ _ _ hc _ 47 2 1 rfl (by omega) (by omega) (by omega)
set_option maxRecDepth 20000 in
set_option maxHeartbeats 200000 in
theorem c_X9_bestScale_b (d : Nat) (g : Nat → Nat → Int32) (tr : Int64) {n q dn : Nat} (hc : RI n q dn g) (x : Int32) (hg : (decide (x = 0) || decide (x = 1)) = false) : Ev (d + 3) 166 0 [.ref 0, .int x, .null, .null] [] (wR g tr) (some (.int (-1))) (wR g tr) := by
  have hb := hc.b
  refine Ev.sn e_X9_bestScale 2 (i' := 2) (ls' := [_, _, _, _]) (st' := [_, _]) rfl ?_
  refine Ev.put e_X9_bestScale rfl rfl rfl rfl rfl rfl (w1 := wR g tr) rfl ?_
  refine Ev.sn e_X9_bestScale 3 (i' := 6) (ls' := [_, _, _, _]) (st' := [_, _, _]) rfl ?_
  refine Ev.clS e_X9_bestScale rfl rfl rfl (as := [_, _, _]) rfl rfl rfl rfl rfl (c_X9_in _ _ _ _ _) rfl ?_
  refine Ev.brT (i1 := 8) (i2 := 10) e_X9_bestScale rfl rfl ((by rw [r01]; exact bT hg)) ?_
  refine Ev.sn e_X9_bestScale 1 (i' := 9) (ls' := [_, _, _, _]) (st' := [_]) rfl ?_
  refine Ev.iret e_X9_bestScale rfl rfl rfl ?_ rfl
  rfl
set_option maxRecDepth 20000 in
set_option maxHeartbeats 200000 in
theorem lp_X9_oneMore (d : Nat) (g : Nat → Nat → Int32) (tr : Int64) {n q dn : Nat} (hc : RI n q dn g) (z x : Int32) : ∀ (k p b : Nat), p + k = 49 → 1 ≤ b → b ≤ 48 → 1 ≤ p → Ev (d + 3) 168 19 [.ref 0, .int z, .int x, .int (nI b), .int (nI p)] [] (wR g tr) (some (.int (if x = 0 then nI (fo (stAM (fun s => THF n (vR n q dn g) z (nI s))) k p b) else (fun s => THF n (vR n q dn g) z (nI s)) (fo (stAM (fun s => THF n (vR n q dn g) z (nI s))) k p b)))) (wR g tr) := by
  intro k
  induction k with
  | zero =>
    intro p b hp h1 h2 h3
    refine Ev.sn e_X9_oneMore 2 (i' := 21) (ls' := [_, _, _, _, _]) (st' := [_, _]) rfl ?_
    refine Ev.brT (i1 := 37) (i2 := 22) e_X9_oneMore rfl rfl (ge_t (n := 49) rfl (by omega) (by omega)) ?_
    refine Ev.sn e_X9_oneMore 1 (i' := 38) (ls' := [_, _, _, _, _]) (st' := [_]) rfl ?_
    refine Ev.br (i1 := 39) (i2 := 41) e_X9_oneMore rfl rfl (fun h0 => ?_) (fun h0 => ?_)
    · refine Ev.sn e_X9_oneMore 2 (i' := 45) (ls' := [_, _, _, _, _]) (st' := [_]) rfl ?_
      refine Ev.iret e_X9_oneMore rfl rfl rfl ?_ rfl
      rw [if_pos h0]
      rfl
    · refine Ev.sn e_X9_oneMore 3 (i' := 44) (ls' := [_, _, _, _, _]) (st' := [_, _, _]) rfl ?_
      refine Ev.clV e_X9_oneMore rfl rfl (as := [_, _]) rfl rfl rfl kl_X9_fitsHim rfl rfl rfl (c_X9_fitsHim _ _ _ hc _ _) rfl ?_
      refine Ev.iret e_X9_oneMore rfl rfl rfl ?_ rfl
      rw [if_neg h0]
      rfl
  | succ k ih =>
    intro p b hp h1 h2 h3
    rw [fo_s (k := k)]
    refine Ev.sn e_X9_oneMore 2 (i' := 21) (ls' := [_, _, _, _, _]) (st' := [_, _]) rfl ?_
    refine Ev.brF (i1 := 37) (i2 := 22) e_X9_oneMore rfl rfl (ge_f (n := 49) rfl (by omega) (by omega)) ?_
    refine Ev.sn e_X9_oneMore 3 (i' := 25) (ls' := [_, _, _, _, _]) (st' := [_, _, _]) rfl ?_
    refine Ev.clV e_X9_oneMore rfl rfl (as := [_, _]) rfl rfl rfl kl_X9_fitsHim rfl rfl rfl (c_X9_fitsHim _ _ _ hc _ _) rfl ?_
    refine Ev.sn e_X9_oneMore 3 (i' := 29) (ls' := [_, _, _, _, _]) (st' := [_, _, _, _]) rfl ?_
    refine Ev.clV e_X9_oneMore rfl rfl (as := [_, _]) rfl rfl rfl kl_X9_fitsHim rfl rfl rfl (c_X9_fitsHim _ _ _ hc _ _) rfl ?_
    refine Ev.br (i1 := 33) (i2 := 31) e_X9_oneMore rfl rfl (fun h0 => ?_) (fun h0 => ?_)
    · refine Ev.sn e_X9_oneMore 4 (i' := 19) (ls' := [_, _, _, _, _]) (st' := []) rfl ?_
      rw [nI_1, show stAM (fun s => THF n (vR n q dn g) z (nI s)) p b = b from if_pos h0]
      exact ih (p + 1) b (by omega) h1 h2 (by omega)
    · refine Ev.sn e_X9_oneMore 5 (i' := 19) (ls' := [_, _, _, _, _]) (st' := []) rfl ?_
      rw [nI_1, show stAM (fun s => THF n (vR n q dn g) z (nI s)) p b = p from if_neg h0]
      exact ih (p + 1) p (by omega) (by omega) (by omega) (by omega)
set_option maxRecDepth 20000 in
set_option maxHeartbeats 200000 in
theorem c_X9_oneMore_s (d : Nat) (g : Nat → Nat → Int32) (tr : Int64) {n q dn : Nat} (hc : RI n q dn g) (z x : Int32) (hg : gSz z x = true) : Ev (d + 3) 168 0 [.ref 0, .int z, .int x, .null, .null] [] (wR g tr) (some (.int (S_best (fun s => THF n (vR n q dn g) z (nI s)) x))) (wR g tr) := by
  have hb := hc.b
  refine Ev.sn e_X9_oneMore 2 (i' := 2) (ls' := [_, _, _, _, _]) (st' := [_, _]) rfl ?_
  refine Ev.put e_X9_oneMore rfl rfl rfl rfl rfl rfl (w1 := wR g tr) rfl ?_
  refine Ev.sn e_X9_oneMore 3 (i' := 6) (ls' := [_, _, _, _, _]) (st' := [_, _, _]) rfl ?_
  refine Ev.clS e_X9_oneMore rfl rfl rfl (as := [_, _, _]) rfl rfl rfl rfl rfl (c_X9_in _ _ _ _ _) rfl ?_
  refine Ev.brF (i1 := 13) (i2 := 8) e_X9_oneMore rfl rfl (bF (by simp only [gSz, Bool.and_eq_true] at hg; simpa using hg.1)) ?_
  refine Ev.sn e_X9_oneMore 3 (i' := 11) (ls' := [_, _, _, _, _]) (st' := [_, _, _]) rfl ?_
  refine Ev.clS e_X9_oneMore rfl rfl rfl (as := [_, _, _]) rfl rfl rfl rfl rfl (c_X9_in _ _ _ _ _) rfl ?_
  refine Ev.brF (i1 := 13) (i2 := 15) e_X9_oneMore rfl rfl ((by rw [r01]; exact bF (by simp only [gSz, Bool.and_eq_true] at hg; exact hg.2))) ?_
  refine Ev.sn e_X9_oneMore 4 (i' := 19) (ls' := [_, _, _, _, _]) (st' := []) rfl ?_
  exact lp_X9_oneMore _ _ _ hc _ _ 47 2 1 rfl (by omega) (by omega) (by omega)
set_option maxRecDepth 20000 in
set_option maxHeartbeats 200000 in
theorem c_X9_oneMore_b (d : Nat) (g : Nat → Nat → Int32) (tr : Int64) {n q dn : Nat} (hc : RI n q dn g) (z x : Int32) (hg : gSz z x = false) : Ev (d + 3) 168 0 [.ref 0, .int z, .int x, .null, .null] [] (wR g tr) (some (.int (-1))) (wR g tr) := by
  have hb := hc.b
  refine Ev.sn e_X9_oneMore 2 (i' := 2) (ls' := [_, _, _, _, _]) (st' := [_, _]) rfl ?_
  refine Ev.put e_X9_oneMore rfl rfl rfl rfl rfl rfl (w1 := wR g tr) rfl ?_
  refine Ev.sn e_X9_oneMore 3 (i' := 6) (ls' := [_, _, _, _, _]) (st' := [_, _, _]) rfl ?_
  refine Ev.clS e_X9_oneMore rfl rfl rfl (as := [_, _, _]) rfl rfl rfl rfl rfl (c_X9_in _ _ _ _ _) rfl ?_
  refine Ev.brB (i1 := 13) (i2 := 8) e_X9_oneMore rfl rfl (fun h0 => ?_) (fun h0 => ?_)
  · refine Ev.sn e_X9_oneMore 1 (i' := 14) (ls' := [_, _, _, _, _]) (st' := [_]) rfl ?_
    refine Ev.iret e_X9_oneMore rfl rfl rfl ?_ rfl
    rfl
  · refine Ev.sn e_X9_oneMore 3 (i' := 11) (ls' := [_, _, _, _, _]) (st' := [_, _, _]) rfl ?_
    refine Ev.clS e_X9_oneMore rfl rfl rfl (as := [_, _, _]) rfl rfl rfl rfl rfl (c_X9_in _ _ _ _ _) rfl ?_
    refine Ev.brB (i1 := 13) (i2 := 15) e_X9_oneMore rfl rfl (fun h1 => ?_) (fun h1 => ?_)
    · refine Ev.sn e_X9_oneMore 1 (i' := 14) (ls' := [_, _, _, _, _]) (st' := [_]) rfl ?_
      refine Ev.iret e_X9_oneMore rfl rfl rfl ?_ rfl
      rfl
    · exfalso
      rw [r01] at h1
      rw [show gSz z x = true by simp only [gSz, Bool.and_eq_true]; exact ⟨by simpa using h0, h1⟩] at hg
      cases hg
