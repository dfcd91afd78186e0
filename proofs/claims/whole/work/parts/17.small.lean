/-! small methods: numbers -/
set_option maxRecDepth 20000 in
set_option maxHeartbeats 200000 in
theorem c_X8_isFirstOrSecond (d : Nat) (w : AW) (x : Int32) : Ev d 111 0 [.int x] [] w (some (.int (bI (decide (x = 0) || decide (x = 1))))) w := by
  refine Ev.sn e_X8_isFirstOrSecond 1 (i' := 1) (ls' := [_]) (st' := [_]) rfl ?_
  refine Ev.br (i1 := 5) (i2 := 2) e_X8_isFirstOrSecond rfl rfl (fun h0 => ?_) (fun h0 => ?_)
  · refine Ev.sn e_X8_isFirstOrSecond 2 (i' := 8) (ls' := [_]) (st' := [_]) rfl ?_
    refine Ev.iret e_X8_isFirstOrSecond rfl rfl rfl ?_ rfl
    simp [h0, bI]
  · refine Ev.sn e_X8_isFirstOrSecond 2 (i' := 4) (ls' := [_]) (st' := [_, _]) rfl ?_
    refine Ev.br (i1 := 5) (i2 := 7) e_X8_isFirstOrSecond rfl rfl (fun h1 => ?_) (fun h1 => ?_)
    · refine Ev.sn e_X8_isFirstOrSecond 2 (i' := 8) (ls' := [_]) (st' := [_]) rfl ?_
      refine Ev.iret e_X8_isFirstOrSecond rfl rfl rfl ?_ rfl
      simp [h0, h1, bI]
    · refine Ev.sn e_X8_isFirstOrSecond 1 (i' := 8) (ls' := [_]) (st' := [_]) rfl ?_
      refine Ev.iret e_X8_isFirstOrSecond rfl rfl rfl ?_ rfl
      simp [h0, h1, bI]
set_option maxRecDepth 20000 in
set_option maxHeartbeats 200000 in
theorem c_X8_isUse (d : Nat) (w : AW) (x : Int32) : Ev d 112 0 [.int x] [] w (some (.int (bI (decide (0 ≤ x) && decide (x < 3))))) w := by
  refine Ev.sn e_X8_isUse 1 (i' := 1) (ls' := [_]) (st' := [_]) rfl ?_
  refine Ev.br (i1 := 7) (i2 := 2) e_X8_isUse rfl rfl (fun h0 => ?_) (fun h0 => ?_)
  · refine Ev.sn e_X8_isUse 1 (i' := 8) (ls' := [_]) (st' := [_]) rfl ?_
    refine Ev.iret e_X8_isUse rfl rfl rfl ?_ rfl
    simp [bI, Int32.not_le.mpr h0]
  · refine Ev.sn e_X8_isUse 2 (i' := 4) (ls' := [_]) (st' := [_, _]) rfl ?_
    refine Ev.br (i1 := 7) (i2 := 5) e_X8_isUse rfl rfl (fun h1 => ?_) (fun h1 => ?_)
    · refine Ev.sn e_X8_isUse 1 (i' := 8) (ls' := [_]) (st' := [_]) rfl ?_
      refine Ev.iret e_X8_isUse rfl rfl rfl ?_ rfl
      simp [bI, Int32.not_lt.mpr h1]
    · refine Ev.sn e_X8_isUse 2 (i' := 8) (ls' := [_]) (st' := [_]) rfl ?_
      refine Ev.iret e_X8_isUse rfl rfl rfl ?_ rfl
      simp [bI, Int32.not_lt.mp h0, Int32.not_le.mp h1]
set_option maxRecDepth 20000 in
set_option maxHeartbeats 200000 in
theorem c_X8_isSize (d : Nat) (w : AW) (x : Int32) : Ev d 113 0 [.int x] [] w (some (.int (bI (decide (1 ≤ x) && decide (x ≤ 99))))) w := by
  refine Ev.sn e_X8_isSize 2 (i' := 2) (ls' := [_]) (st' := [_, _]) rfl ?_
  refine Ev.br (i1 := 8) (i2 := 3) e_X8_isSize rfl rfl (fun h0 => ?_) (fun h0 => ?_)
  · refine Ev.sn e_X8_isSize 1 (i' := 9) (ls' := [_]) (st' := [_]) rfl ?_
    refine Ev.iret e_X8_isSize rfl rfl rfl ?_ rfl
    simp [bI, Int32.not_le.mpr h0]
  · refine Ev.sn e_X8_isSize 2 (i' := 5) (ls' := [_]) (st' := [_, _]) rfl ?_
    refine Ev.br (i1 := 8) (i2 := 6) e_X8_isSize rfl rfl (fun h1 => ?_) (fun h1 => ?_)
    · refine Ev.sn e_X8_isSize 1 (i' := 9) (ls' := [_]) (st' := [_]) rfl ?_
      refine Ev.iret e_X8_isSize rfl rfl rfl ?_ rfl
      simp [bI, Int32.not_le.mpr h1]
    · refine Ev.sn e_X8_isSize 2 (i' := 9) (ls' := [_]) (st' := [_]) rfl ?_
      refine Ev.iret e_X8_isSize rfl rfl rfl ?_ rfl
      simp [bI, Int32.not_lt.mp h0, Int32.not_lt.mp h1]
set_option maxRecDepth 20000 in
set_option maxHeartbeats 200000 in
theorem c_J9_max_7cf53 (d : Nat) (w : AW) (x y : Int32) : Ev d 185 0 [.int x, .int y] [] w (some (.int (if x < y then y else x))) w := by
  refine Ev.sn e_J9_max_7cf53 2 (i' := 2) (ls' := [_, _]) (st' := [_, _]) rfl ?_
  refine Ev.br (i1 := 5) (i2 := 3) e_J9_max_7cf53 rfl rfl (fun h0 => ?_) (fun h0 => ?_)
  · refine Ev.sn e_J9_max_7cf53 1 (i' := 6) (ls' := [_, _]) (st' := [_]) rfl ?_
    refine Ev.iret e_J9_max_7cf53 rfl rfl rfl ?_ rfl
    simp [h0]
  · refine Ev.sn e_J9_max_7cf53 2 (i' := 6) (ls' := [_, _]) (st' := [_]) rfl ?_
    refine Ev.iret e_J9_max_7cf53 rfl rfl rfl ?_ rfl
    simp [h0]
set_option maxRecDepth 20000 in
set_option maxHeartbeats 200000 in
theorem c_J9_min_7cf53 (d : Nat) (w : AW) (x y : Int32) : Ev d 186 0 [.int x, .int y] [] w (some (.int (if y < x then y else x))) w := by
  refine Ev.sn e_J9_min_7cf53 2 (i' := 2) (ls' := [_, _]) (st' := [_, _]) rfl ?_
  refine Ev.br (i1 := 5) (i2 := 3) e_J9_min_7cf53 rfl rfl (fun h0 => ?_) (fun h0 => ?_)
  · refine Ev.sn e_J9_min_7cf53 1 (i' := 6) (ls' := [_, _]) (st' := [_]) rfl ?_
    refine Ev.iret e_J9_min_7cf53 rfl rfl rfl ?_ rfl
    simp [h0]
  · refine Ev.sn e_J9_min_7cf53 2 (i' := 6) (ls' := [_, _]) (st' := [_]) rfl ?_
    refine Ev.iret e_J9_min_7cf53 rfl rfl rfl ?_ rfl
    simp [h0]
def us (x : Int32) (k : Int32) : Int32 := (x.toUInt32 >>> (k.toUInt32 &&& Int32.toUInt32 31)).toInt32
/-- how many bits stand -/
def bcI (x0 : Int32) : Int32 :=
  let x1 := x0 - (us x0 1 &&& 1431655765)
  let x2 := (x1 &&& 858993459) + (us x1 2 &&& 858993459)
  let x3 := (x2 + us x2 4) &&& 252645135
  let x4 := x3 + us x3 8
  let x5 := x4 + us x4 16
  x5 &&& 63
set_option maxRecDepth 20000 in
set_option maxHeartbeats 200000 in
theorem c_J6_bitCount_0f7a4 (d : Nat) (w : AW) (x : Int32) : Ev d 184 0 [.int x] [] w (some (.int (bcI x))) w := by
  refine Ev.sn e_J6_bitCount_0f7a4 40 (i' := 40) (ls' := [_]) (st' := [_, _]) rfl ?_
  refine Ev.sn e_J6_bitCount_0f7a4 1 (i' := 41) (ls' := [_]) (st' := [_]) rfl ?_
  refine Ev.iret e_J6_bitCount_0f7a4 rfl rfl rfl ?_ rfl
  rfl
def gdI : Nat → Int64 → Int64 → Int64
  | 0, a, _ => a
  | k + 1, a, b => if b = 0 then a else gdI k b (a - a / b * b)
theorem lg_cmp_0 {x y : Int64} : lg_cmp x y = 0 ↔ x = y := by
  unfold lg_cmp
  by_cases h1 : x > y
  · rw [if_pos h1]
    constructor
    · intro h; exact absurd h (by decide)
    · intro h; subst h; exact absurd h1 (Int64.lt_irrefl)
  · rw [if_neg h1]
    by_cases h2 : x = y
    · simp [h2]
    · rw [if_neg h2]
      constructor
      · intro h; exact absurd h (by decide)
      · intro h; exact absurd h h2
set_option maxRecDepth 20000 in
set_option maxHeartbeats 200000 in
theorem lp_X8_greatestDivisor (d : Nat) (w : AW) : ∀ (k p : Nat) (a b : Int64) (j5 : Value), p + k = 200 → Ev d 115 2 [.long a, .null, .long b, .null, .int (nI p), .null, .null] [] w (some (.long (gdI k a b))) w := by
  intro k
  induction k with
  | zero =>
    intro p a b j5 hp
    refine Ev.sn e_X8_greatestDivisor 2 (i' := 4) (ls' := [_, _, _, _, _, _, _]) (st' := [_, _]) rfl ?_
    refine Ev.brT (i1 := 19) (i2 := 5) e_X8_greatestDivisor rfl rfl (ge_t (n := 200) rfl (by omega) (by omega)) ?_
    refine Ev.sn e_X8_greatestDivisor 1 (i' := 20) (ls' := [_, _, _, _, _, _, _]) (st' := [_]) rfl ?_
    refine Ev.lret e_X8_greatestDivisor rfl rfl ?_ rfl
    rfl
  | succ k ih =>
    intro p a b j5 hp
    refine Ev.sn e_X8_greatestDivisor 2 (i' := 4) (ls' := [_, _, _, _, _, _, _]) (st' := [_, _]) rfl ?_
    refine Ev.brF (i1 := 19) (i2 := 5) e_X8_greatestDivisor rfl rfl (ge_f (n := 200) rfl (by omega) (by omega)) ?_
    refine Ev.sn e_X8_greatestDivisor 3 (i' := 8) (ls' := [_, _, _, _, _, _, _]) (st' := [_]) rfl ?_
    refine Ev.br (i1 := 19) (i2 := 9) e_X8_greatestDivisor rfl rfl (fun h0 => ?_) (fun h0 => ?_)
    · refine Ev.sn e_X8_greatestDivisor 1 (i' := 20) (ls' := [_, _, _, _, _, _, _]) (st' := [_]) rfl ?_
      refine Ev.lret e_X8_greatestDivisor rfl rfl ?_ rfl
      rw [gdI, if_pos (lg_cmp_0.mp h0)]
    · refine Ev.sn e_X8_greatestDivisor 2 (i' := 11) (ls' := [_, _, _, _, _, _, _]) (st' := [_, _]) rfl ?_
      refine Ev.lrem e_X8_greatestDivisor rfl rfl (fun e => h0 (lg_cmp_0.mpr e)) ?_
      refine Ev.sn e_X8_greatestDivisor 7 (i' := 2) (ls' := [_, _, _, _, _, _, _]) (st' := []) rfl ?_
      rw [nI_1, gdI, if_neg (fun e => h0 (lg_cmp_0.mpr e))]
      exact Ev.weak (lle_c (lle_n (lle_c (lle_n (lle_c (lle_n (lle_n lle_0))))))) (ih (p + 1) _ _ .null (by omega))
set_option maxRecDepth 20000 in
set_option maxHeartbeats 200000 in
theorem c_X8_greatestDivisor (d : Nat) (w : AW) (a b : Int64) : Ev d 115 0 [.long a, .null, .long b, .null, .null, .null, .null] [] w (some (.long (gdI 200 a b))) w := by
  refine Ev.sn e_X8_greatestDivisor 2 (i' := 2) (ls' := [_, _, _, _, _, _, _]) (st' := []) rfl ?_
  exact lp_X8_greatestDivisor _ _ 200 0 a b .null rfl
def ilt (u l : Int64) (what : Int32) : Int64 := if gdI 200 u l = 0 then 0 else (if what = 0 then u else l) / gdI 200 u l
set_option maxRecDepth 20000 in
set_option maxHeartbeats 200000 in
theorem c_X8_inLowestTerms (d : Nat) (w : AW) (a b : Int64) (x : Int32) : Ev (d + 1) 114 0 [.long a, .null, .long b, .null, .int x, .null, .null] [] w (some (.long (ilt a b x))) w := by
  refine Ev.sn e_X8_inLowestTerms 2 (i' := 2) (ls' := [_, _, _, _, _, _, _]) (st' := [_, _]) rfl ?_
  refine Ev.clS e_X8_inLowestTerms rfl rfl rfl (as := [_, _]) rfl rfl rfl rfl rfl (c_X8_greatestDivisor _ _ _ _) rfl ?_
  refine Ev.sn e_X8_inLowestTerms 4 (i' := 7) (ls' := [_, _, _, _, _, _, _]) (st' := [_]) rfl ?_
  refine Ev.br (i1 := 8) (i2 := 10) e_X8_inLowestTerms rfl rfl (fun h0 => ?_) (fun h0 => ?_)
  · refine Ev.sn e_X8_inLowestTerms 1 (i' := 9) (ls' := [_, _, _, _, _, _, _]) (st' := [_]) rfl ?_
    refine Ev.lret e_X8_inLowestTerms rfl rfl ?_ rfl
    rw [ilt, if_pos (lg_cmp_0.mp h0)]
  · refine Ev.sn e_X8_inLowestTerms 1 (i' := 11) (ls' := [_, _, _, _, _, _, _]) (st' := [_]) rfl ?_
    refine Ev.br (i1 := 12) (i2 := 14) e_X8_inLowestTerms rfl rfl (fun h1 => ?_) (fun h1 => ?_)
    · refine Ev.sn e_X8_inLowestTerms 3 (i' := 16) (ls' := [_, _, _, _, _, _, _]) (st' := [_, _]) rfl ?_
      refine Ev.ldiv e_X8_inLowestTerms rfl rfl (fun e => h0 (lg_cmp_0.mpr e)) ?_
      refine Ev.lret e_X8_inLowestTerms rfl rfl ?_ rfl
      rw [ilt, if_neg (fun e => h0 (lg_cmp_0.mpr e))]
      simp [h1]
    · refine Ev.sn e_X8_inLowestTerms 2 (i' := 16) (ls' := [_, _, _, _, _, _, _]) (st' := [_, _]) rfl ?_
      refine Ev.ldiv e_X8_inLowestTerms rfl rfl (fun e => h0 (lg_cmp_0.mpr e)) ?_
      refine Ev.lret e_X8_inLowestTerms rfl rfl ?_ rfl
      rw [ilt, if_neg (fun e => h0 (lg_cmp_0.mpr e))]
      simp [h1]
set_option maxRecDepth 20000 in
set_option maxHeartbeats 200000 in
theorem lp_X8_power (d : Nat) (w : AW) (x : Int32) (e : Nat) (he : e < 2000) : ∀ (kk p : Nat) (a : Int64), p + kk = e → Ev d 117 4 [.int x, .int (nI e), .long a, .null, .int (nI p)] [] w (some (.long (fo (fun _ a => a * x.toInt64) kk p a))) w := by
  intro kk
  induction kk with
  | zero =>
    intro p a hp
    refine Ev.sn e_X8_power 2 (i' := 6) (ls' := [_, _, _, _, _]) (st' := [_, _]) rfl ?_
    refine Ev.brT (i1 := 14) (i2 := 7) e_X8_power rfl rfl (ge_t (n := e) rfl (by omega) (by omega)) ?_
    refine Ev.sn e_X8_power 1 (i' := 15) (ls' := [_, _, _, _, _]) (st' := [_]) rfl ?_
    refine Ev.lret e_X8_power rfl rfl ?_ rfl
    rfl
  | succ kk ih =>
    intro p a hp
    rw [fo_s (k := kk)]
    refine Ev.sn e_X8_power 2 (i' := 6) (ls' := [_, _, _, _, _]) (st' := [_, _]) rfl ?_
    refine Ev.brF (i1 := 14) (i2 := 7) e_X8_power rfl rfl (ge_f (n := e) rfl (by omega) (by omega)) ?_
    refine Ev.sn e_X8_power 7 (i' := 4) (ls' := [_, _, _, _, _]) (st' := []) rfl ?_
    refine Ev.weak (lle_c (lle_c (lle_c (lle_n (lle_c lle_0))))) (Ev.cg (ih (p + 1) ((fun _ a => a * x.toInt64) p a) (by omega)) ?_)
    simp [nI_1]
def pwI (x : Int32) (e : Nat) : Int64 := fo (fun _ a => a * x.toInt64) e 0 1
set_option maxRecDepth 20000 in
set_option maxHeartbeats 200000 in
theorem c_X8_power (d : Nat) (w : AW) (x : Int32) (e : Nat) (he : e < 2000) : Ev d 117 0 [.int x, .int (nI e), .null, .null, .null] [] w (some (.long (pwI x e))) w := by
  refine Ev.sn e_X8_power 4 (i' := 4) (ls' := [_, _, _, _, _]) (st' := []) rfl ?_
  exact lp_X8_power _ _ _ _ he e 0 1 (by omega)
def wyI (x : Int32) (e : Nat) : Int64 := fo (fun j a => a * (x - nI j + 1).toInt64 / (nI j).toInt64) e 1 1
theorem nI_l0 {p : Nat} (h : 0 < p) (h2 : p < 2000) : ¬ (nI p).toInt64 = 0 := by
  rw [nI_l (by omega)]
  intro e
  have : lN p = lN 0 := e
  rw [lN_eq (by omega) (by omega)] at this
  omega
set_option maxRecDepth 20000 in
set_option maxHeartbeats 200000 in
theorem lp_X8_waysToChoose (d : Nat) (w : AW) (x : Int32) (e : Nat) (he : e < 2000) : ∀ (k p : Nat) (a : Int64), p + k = e + 1 → 0 < p → Ev d 116 4 [.int x, .int (nI e), .long a, .null, .int (nI p)] [] w (some (.long (fo (fun j a => a * (x - nI j + 1).toInt64 / (nI j).toInt64) k p a))) w := by
  intro k
  induction k with
  | zero =>
    intro p a hp h0
    refine Ev.sn e_X8_waysToChoose 2 (i' := 6) (ls' := [_, _, _, _, _]) (st' := [_, _]) rfl ?_
    refine Ev.brT (i1 := 21) (i2 := 7) e_X8_waysToChoose rfl rfl (nI_lt (by omega) (by omega)) ?_
    refine Ev.sn e_X8_waysToChoose 1 (i' := 22) (ls' := [_, _, _, _, _]) (st' := [_]) rfl ?_
    refine Ev.lret e_X8_waysToChoose rfl rfl ?_ rfl
    rfl
  | succ k ih =>
    intro p a hp h0
    refine Ev.sn e_X8_waysToChoose 2 (i' := 6) (ls' := [_, _, _, _, _]) (st' := [_, _]) rfl ?_
    refine Ev.brF (i1 := 21) (i2 := 7) e_X8_waysToChoose rfl rfl (nI_nlt (by omega) (by omega)) ?_
    refine Ev.sn e_X8_waysToChoose 10 (i' := 17) (ls' := [_, _, _, _, _]) (st' := [_, _]) rfl ?_
    refine Ev.ldiv e_X8_waysToChoose rfl rfl (nI_l0 h0 (by omega)) ?_
    refine Ev.sn e_X8_waysToChoose 3 (i' := 4) (ls' := [_, _, _, _, _]) (st' := []) rfl ?_
    rw [nI_1]
    exact ih (p + 1) _ (by omega) (by omega)
set_option maxRecDepth 20000 in
set_option maxHeartbeats 200000 in
theorem c_X8_waysToChoose (d : Nat) (w : AW) (x : Int32) (e : Nat) (he : e < 2000) : Ev d 116 0 [.int x, .int (nI e), .null, .null, .null] [] w (some (.long (wyI x e))) w := by
  refine Ev.sn e_X8_waysToChoose 4 (i' := 4) (ls' := [_, _, _, _, _]) (st' := []) rfl ?_
  exact lp_X8_waysToChoose _ _ _ _ he e 1 1 (by omega) (by omega)
