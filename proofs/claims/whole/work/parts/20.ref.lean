/-! the reference: its questions -/
theorem le_pred {x : Int32} {n : Nat} (hn : n < 2000) : x ≤ nI n - 1 ↔ x < nI n := by
  rw [Int32.le_iff_toInt_le, Int32.lt_iff_toInt_lt, nI_toInt (by omega)]
  have h : (nI n - 1).toInt = (n : Int) - 1 := pk_sub_toInt (b := 1) (by omega) (by omega)
  rw [h]
  omega
theorem z_add (x : Int32) : 0 + x = x := Int32.zero_add x
theorem own_R {g : Nat → Nat → Int32} {n q dn t p : Nat} (hc : RI n q dn g) (ht : t < n) (hp : p < 2000) : vR n q dn g 12 t = nI p ↔ g 7 t = nI p + 1 := by
  have hv : vR n q dn g 12 t = if g 7 t = 0 then -9 else g 7 t - 1 := cut_lt (f := fun t => if g 7 t = 0 then -9 else g 7 t - 1) ht
  rw [hv]
  constructor
  · intro h
    split at h
    · have h2 := congrArg Int32.toInt h
      rw [nI_toInt (by omega)] at h2
      have h3 : (-9 : Int32).toInt = -9 := by decide
      omega
    · rw [← h, Int32.sub_add_cancel]
  · intro h
    rw [if_neg, h, Int32.add_sub_cancel]
    intro e
    rw [h, nI_1] at e
    exact nI_ne0 (n := p + 1) (by omega) (by omega) e
theorem own_cases {g : Nat → Nat → Int32} {n q dn t : Nat} (hc : RI n q dn g) (ht : t < n) : (g 7 t = 0 ∧ vR n q dn g 12 t = -9) ∨ ∃ p, p < q ∧ g 7 t = nI (p + 1) ∧ vR n q dn g 12 t = nI p := by
  have hv : vR n q dn g 12 t = if g 7 t = 0 then -9 else g 7 t - 1 := cut_lt (f := fun t => if g 7 t = 0 then -9 else g 7 t - 1) ht
  have hb := hc.b
  rcases hc.o t ht with h | ⟨p, h1, h2⟩
  · exact Or.inl ⟨h, by rw [hv, if_pos h]⟩
  · exact Or.inr ⟨p, h1, h2, by rw [hv, if_neg (by rw [h2]; exact nI_ne0 (by omega) (by omega)), h2, nI_pred]⟩
set_option maxRecDepth 20000 in
set_option maxHeartbeats 200000 in
theorem c_X9_in (d : Nat) (w : AW) (x a b : Int32) : Ev d 120 0 [.int x, .int a, .int b] [] w (some (.int (bI (decide (a ≤ x) && decide (x ≤ b))))) w := by
  refine Ev.sn e_X9_in 2 (i' := 2) (ls' := [_, _, _]) (st' := [_, _]) rfl ?_
  refine Ev.br (i1 := 8) (i2 := 3) e_X9_in rfl rfl (fun h0 => ?_) (fun h0 => ?_)
  · refine Ev.sn e_X9_in 1 (i' := 9) (ls' := [_, _, _]) (st' := [_]) rfl ?_
    refine Ev.iret e_X9_in rfl rfl rfl ?_ rfl
    simp [bI, Int32.not_le.mpr h0]
  · refine Ev.sn e_X9_in 2 (i' := 5) (ls' := [_, _, _]) (st' := [_, _]) rfl ?_
    refine Ev.br (i1 := 8) (i2 := 6) e_X9_in rfl rfl (fun h1 => ?_) (fun h1 => ?_)
    · refine Ev.sn e_X9_in 1 (i' := 9) (ls' := [_, _, _]) (st' := [_]) rfl ?_
      refine Ev.iret e_X9_in rfl rfl rfl ?_ rfl
      simp [bI, Int32.not_le.mpr h1]
    · refine Ev.sn e_X9_in 2 (i' := 9) (ls' := [_, _, _]) (st' := [_]) rfl ?_
      refine Ev.iret e_X9_in rfl rfl rfl ?_ rfl
      simp [bI, Int32.not_lt.mp h0, Int32.not_lt.mp h1]
def ONE (x : Int32) : Int32 := fo (fun k a => a + (x >>> (nI k &&& 31) &&& 1)) 6 0 0
set_option maxRecDepth 20000 in
set_option maxHeartbeats 200000 in
theorem lp_X9_ones (d : Nat) (w : AW) (x : Int32) : ∀ (kk p : Nat) (a : Int32), p + kk = 6 → Ev d 121 4 [.int x, .int a, .int (nI p)] [] w (some (.int (fo (fun k a => a + (x >>> (nI k &&& 31) &&& 1)) kk p a))) w := by
  intro kk
  induction kk with
  | zero =>
    intro p a hp
    refine Ev.sn e_X9_ones 2 (i' := 6) (ls' := [_, _, _]) (st' := [_, _]) rfl ?_
    refine Ev.brT (i1 := 17) (i2 := 7) e_X9_ones rfl rfl (ge_t (n := 6) rfl (by omega) (by omega)) ?_
    refine Ev.sn e_X9_ones 1 (i' := 18) (ls' := [_, _, _]) (st' := [_]) rfl ?_
    refine Ev.iret e_X9_ones rfl rfl rfl ?_ rfl
    rfl
  | succ kk ih =>
    intro p a hp
    rw [fo_s (k := kk)]
    refine Ev.sn e_X9_ones 2 (i' := 6) (ls' := [_, _, _]) (st' := [_, _]) rfl ?_
    refine Ev.brF (i1 := 17) (i2 := 7) e_X9_ones rfl rfl (ge_f (n := 6) rfl (by omega) (by omega)) ?_
    refine Ev.sn e_X9_ones 10 (i' := 4) (ls' := [_, _, _]) (st' := []) rfl ?_
    refine id (Ev.cg (ih (p + 1) ((fun k a => a + (x >>> (nI k &&& 31) &&& 1)) p a) (by omega)) ?_)
    simp [nI_1]
set_option maxRecDepth 20000 in
set_option maxHeartbeats 200000 in
theorem c_X9_ones (d : Nat) (w : AW) (x : Int32) : Ev d 121 0 [.int x, .null, .null] [] w (some (.int (ONE x))) w := by
  refine Ev.sn e_X9_ones 4 (i' := 4) (ls' := [_, _, _]) (st' := []) rfl ?_
  exact lp_X9_ones _ _ _ 6 0 0 rfl
set_option maxRecDepth 20000 in
set_option maxHeartbeats 200000 in
theorem c_X9_isThingThere (d : Nat) (g : Nat → Nat → Int32) (tr : Int64) {n q dn : Nat} (hc : RI n q dn g) (t : Int32) : Ev (d + 1) 133 0 [.ref 0, .int t] [] (wR g tr) (some (.int (bI (decide (0 ≤ t) && decide (t < nI n))))) (wR g tr) := by
  have hb := hc.b
  refine Ev.sn e_X9_isThingThere 5 (i' := 5) (ls' := [_, _]) (st' := [_, _, _, _]) rfl ?_
  refine Ev.ialdE e_X9_isThingThere rfl rfl rfl rfl (m := 0) rfl (by decide) ?_
  refine Ev.sn e_X9_isThingThere 2 (i' := 8) (ls' := [_, _]) (st' := [_, _, _]) rfl ?_
  refine Ev.clS e_X9_isThingThere rfl rfl rfl (as := [_, _, _]) rfl rfl rfl rfl rfl (c_X9_in _ _ _ _ _) rfl ?_
  refine Ev.iret e_X9_isThingThere rfl rfl bI_nar ?_ rfl
  rw [hc.hn, decide_eq_decide.mpr (le_pred (x := t) (n := n) (by omega))]
set_option maxRecDepth 20000 in
set_option maxHeartbeats 200000 in
theorem c_X9_isPerson (d : Nat) (g : Nat → Nat → Int32) (tr : Int64) {n q dn : Nat} (hc : RI n q dn g) (t : Int32) : Ev (d + 1) 134 0 [.ref 0, .int t] [] (wR g tr) (some (.int (bI (decide (0 ≤ t) && decide (t < nI q))))) (wR g tr) := by
  have hb := hc.b
  refine Ev.sn e_X9_isPerson 5 (i' := 5) (ls' := [_, _]) (st' := [_, _, _, _]) rfl ?_
  refine Ev.ialdE e_X9_isPerson rfl rfl rfl rfl (m := 1) rfl (by decide) ?_
  refine Ev.sn e_X9_isPerson 2 (i' := 8) (ls' := [_, _]) (st' := [_, _, _]) rfl ?_
  refine Ev.clS e_X9_isPerson rfl rfl rfl (as := [_, _, _]) rfl rfl rfl rfl rfl (c_X9_in _ _ _ _ _) rfl ?_
  refine Ev.iret e_X9_isPerson rfl rfl bI_nar ?_ rfl
  rw [hc.hq, decide_eq_decide.mpr (le_pred (x := t) (n := q) (by omega))]
set_option maxRecDepth 20000 in
set_option maxHeartbeats 200000 in
theorem c_X9_useOf (d : Nat) (g : Nat → Nat → Int32) (tr : Int64) {n q dn : Nat} (hc : RI n q dn g) {t : Nat} (ht : t < n) : Ev d 135 0 [.ref 0, .int (nI t)] [] (wR g tr) (some (.int ((vR n q dn g) 0 t))) (wR g tr) := by
  have hb := hc.b
  refine Ev.sn e_X9_useOf 5 (i' := 5) (ls' := [_, _]) (st' := [_, _]) rfl ?_
  refine Ev.ialdE e_X9_useOf rfl rfl rfl rfl (pk_mul 4 t) (by omega) ?_
  refine Ev.iret e_X9_useOf rfl rfl rfl ?_ rfl
  exact (cut_lt (f := fun t => g 3 (4 * t)) ht).symm
set_option maxRecDepth 20000 in
set_option maxHeartbeats 200000 in
theorem fitB_R {n q dn : Nat} {g : Nat → Nat → Int32} {t u : Nat} (ht : t < n) (hu : u < 3) (e : g 3 (4 * t) = nI u) (its sc size : Int32) : fitB (vR n q dn g) t its sc size = (decide (g 6 (2 * u) * (size * its) ≤ 20 * g 3 (4 * t + 2) * sc) && decide (20 * g 3 (4 * t + 2) * sc ≤ g 6 (2 * u + 1) * (size * its))) := by
  have e0 : (vR n q dn g) 0 t = g 3 (4 * t) := cut_lt (f := fun t => g 3 (4 * t)) ht
  have e1 : ux (vR n q dn g) t = u := by
    show ((vR n q dn g) 0 t).toNatClampNeg = u
    rw [e0, e]
    exact nI_clamp (by omega)
  have e2 : (vR n q dn g) 6 u = g 6 (2 * u) := cut_lt (f := fun t => g 6 (2 * t)) hu
  have e3 : (vR n q dn g) 7 u = g 6 (2 * u + 1) := cut_lt (f := fun t => g 6 (2 * t + 1)) hu
  have e4 : (vR n q dn g) 2 t = g 3 (4 * t + 2) := cut_lt (f := fun t => g 3 (4 * t + 2)) ht
  unfold fitB
  rw [e1, e2, e3, e4]
set_option maxRecDepth 20000 in
set_option maxHeartbeats 200000 in
theorem c_X9_fits (d : Nat) (g : Nat → Nat → Int32) (tr : Int64) {n q dn : Nat} (hc : RI n q dn g) {t : Nat} (ht : t < n) (its sc size : Int32) : Ev (d + 1) 136 0 [.ref 0, .int (nI t), .int its, .int sc, .int size, .null, .null] [] (wR g tr) (some (.int (bI (fitB (vR n q dn g) t its sc size)))) (wR g tr) := by
  have hb := hc.b
  obtain ⟨u, hu, e⟩ := hc.use ht
  have eu : (vR n q dn g) 0 t = nI u := (cut_lt (f := fun t => g 3 (4 * t)) ht).trans e
  rw [fitB_R ht hu e]
  refine Ev.sn e_X9_fits 8 (i' := 8) (ls' := [_, _, _, _, _, _, _]) (st' := [_, _, _]) rfl ?_
  refine Ev.ialdE e_X9_fits rfl rfl rfl rfl (ixm 4 2 t) (by omega) ?_
  refine Ev.sn e_X9_fits 14 (i' := 23) (ls' := [_, _, _, _, _, _, _]) (st' := [_, _, _, _, _]) rfl ?_
  refine Ev.clV e_X9_fits rfl rfl (as := [_]) rfl rfl rfl kl_X9_useOf rfl rfl rfl (c_X9_useOf _ _ _ hc ht) rfl ?_
  refine Ev.sn e_X9_fits 1 (i' := 25) (ls' := [_, _, _, _, _, _, _]) (st' := [_, _, _]) rfl ?_
  refine Ev.ialdE e_X9_fits rfl rfl rfl rfl (by rw [eu]; exact pk_mul 2 u) (by omega) ?_
  refine Ev.sn e_X9_fits 2 (i' := 28) (ls' := [_, _, _, _, _, _, _]) (st' := [_, _]) rfl ?_
  refine Ev.br (i1 := 45) (i2 := 29) e_X9_fits rfl rfl (fun h0 => ?_) (fun h0 => ?_)
  · refine Ev.sn e_X9_fits 1 (i' := 46) (ls' := [_, _, _, _, _, _, _]) (st' := [_]) rfl ?_
    refine Ev.iret e_X9_fits rfl rfl rfl ?_ rfl
    simp [bI, Int32.not_le.mpr h0]
  · refine Ev.sn e_X9_fits 6 (i' := 35) (ls' := [_, _, _, _, _, _, _]) (st' := [_, _, _, _, _]) rfl ?_
    refine Ev.clV e_X9_fits rfl rfl (as := [_]) rfl rfl rfl kl_X9_useOf rfl rfl rfl (c_X9_useOf _ _ _ hc ht) rfl ?_
    refine Ev.sn e_X9_fits 3 (i' := 39) (ls' := [_, _, _, _, _, _, _]) (st' := [_, _, _]) rfl ?_
    refine Ev.ialdE e_X9_fits rfl rfl rfl rfl (by rw [eu]; exact ixm 2 1 u) (by omega) ?_
    refine Ev.sn e_X9_fits 2 (i' := 42) (ls' := [_, _, _, _, _, _, _]) (st' := [_, _]) rfl ?_
    refine Ev.br (i1 := 45) (i2 := 43) e_X9_fits rfl rfl (fun h1 => ?_) (fun h1 => ?_)
    · refine Ev.sn e_X9_fits 1 (i' := 46) (ls' := [_, _, _, _, _, _, _]) (st' := [_]) rfl ?_
      refine Ev.iret e_X9_fits rfl rfl rfl ?_ rfl
      simp [bI, Int32.not_le.mpr h1]
    · refine Ev.sn e_X9_fits 2 (i' := 46) (ls' := [_, _, _, _, _, _, _]) (st' := [_]) rfl ?_
      refine Ev.iret e_X9_fits rfl rfl rfl ?_ rfl
      simp [bI, Int32.not_lt.mp h0, Int32.not_lt.mp h1]
set_option maxRecDepth 20000 in
set_option maxHeartbeats 200000 in
theorem c_X9_isFit (d : Nat) (g : Nat → Nat → Int32) (tr : Int64) {n q dn : Nat} (hc : RI n q dn g) {t p : Nat} (ht : t < n) (hp : p < q) : Ev (d + 2) 137 0 [.ref 0, .int (nI t), .int (nI p)] [] (wR g tr) (some (.int (bI (fpB (vR n q dn g) t p)))) (wR g tr) := by
  have hb := hc.b
  have v1 : (vR n q dn g) 1 t = g 7 (6 + t) := cut_lt (f := fun t => g 7 (6 + t)) ht
  have v4 : (vR n q dn g) 4 p = g 7 (12 + p) := cut_lt (f := fun t => g 7 (12 + t)) hp
  have v5 : (vR n q dn g) 5 p = g 4 (2 * p + 1) := cut_lt (f := fun t => g 4 (2 * t + 1)) hp
  rw [show fpB (vR n q dn g) t p = fitB (vR n q dn g) t (g 7 (6 + t)) (g 7 (12 + p)) (g 4 (2 * p + 1)) by rw [← v1, ← v4, ← v5]; rfl]
  refine Ev.sn e_X9_isFit 7 (i' := 7) (ls' := [_, _, _]) (st' := [_, _, _, _]) rfl ?_
  refine Ev.ialdE e_X9_isFit rfl rfl rfl rfl (nI_add 6 t) (by omega) ?_
  refine Ev.sn e_X9_isFit 5 (i' := 13) (ls' := [_, _, _]) (st' := [_, _, _, _, _]) rfl ?_
  refine Ev.ialdE e_X9_isFit rfl rfl rfl rfl (nI_add 12 p) (by omega) ?_
  refine Ev.sn e_X9_isFit 7 (i' := 21) (ls' := [_, _, _]) (st' := [_, _, _, _, _, _]) rfl ?_
  refine Ev.ialdE e_X9_isFit rfl rfl rfl rfl (ixm 2 1 p) (by omega) ?_
  refine Ev.clV e_X9_isFit rfl rfl (as := [_, _, _, _]) rfl rfl rfl kl_X9_fits rfl rfl rfl (c_X9_fits _ _ _ hc ht _ _ _) rfl ?_
  refine Ev.iret e_X9_isFit rfl rfl bI_nar ?_ rfl
  rfl
set_option maxRecDepth 20000 in
set_option maxHeartbeats 200000 in
theorem lp_X9_fitsOf (d : Nat) (g : Nat → Nat → Int32) (tr : Int64) {n q dn : Nat} (hc : RI n q dn g) {t : Nat} (ht : t < n) : ∀ (kk p : Nat) (a : Int32), p + kk = q → Ev (d + 3) 138 4 [.ref 0, .int (nI t), .int a, .int (nI p)] [] (wR g tr) (some (.int (fo (fun p a => if fpB (vR n q dn g) t p = true then a ||| bitI p else a) kk p a))) (wR g tr) := by
  intro kk
  induction kk with
  | zero =>
    intro p a hp
    have hb := hc.b
    refine Ev.sn e_X9_fitsOf 4 (i' := 8) (ls' := [_, _, _, _]) (st' := [_, _, _]) rfl ?_
    refine Ev.ialdE e_X9_fitsOf rfl rfl rfl rfl (m := 1) rfl (by decide) ?_
    refine Ev.brT (i1 := 25) (i2 := 10) e_X9_fitsOf rfl rfl (ge_t hc.hq (by omega) (by omega)) ?_
    refine Ev.sn e_X9_fitsOf 1 (i' := 26) (ls' := [_, _, _, _]) (st' := [_]) rfl ?_
    refine Ev.iret e_X9_fitsOf rfl rfl rfl ?_ rfl
    rfl
  | succ kk ih =>
    intro p a hp
    rw [fo_s (k := kk)]
    have hb := hc.b
    refine Ev.sn e_X9_fitsOf 4 (i' := 8) (ls' := [_, _, _, _]) (st' := [_, _, _]) rfl ?_
    refine Ev.ialdE e_X9_fitsOf rfl rfl rfl rfl (m := 1) rfl (by decide) ?_
    refine Ev.brF (i1 := 25) (i2 := 10) e_X9_fitsOf rfl rfl (ge_f hc.hq (by omega) (by omega)) ?_
    refine Ev.sn e_X9_fitsOf 4 (i' := 14) (ls' := [_, _, _, _]) (st' := [_, _, _, _]) rfl ?_
    refine Ev.clV e_X9_fitsOf rfl rfl (as := [_, _]) rfl rfl rfl kl_X9_isFit rfl rfl rfl (c_X9_isFit _ _ _ hc ht (by omega)) rfl ?_
    refine Ev.brB (i1 := 20) (i2 := 16) e_X9_fitsOf rfl rfl (fun h0 => ?_) (fun h0 => ?_)
    · refine Ev.sn e_X9_fitsOf 5 (i' := 4) (ls' := [_, _, _, _]) (st' := []) rfl ?_
      refine id (Ev.cg (ih (p + 1) ((fun p a => if fpB (vR n q dn g) t p = true then a ||| bitI p else a) p a) (by omega)) ?_)
      simp [nI_1, bitI, h0]
    · refine Ev.sn e_X9_fitsOf 8 (i' := 4) (ls' := [_, _, _, _]) (st' := []) rfl ?_
      refine id (Ev.cg (ih (p + 1) ((fun p a => if fpB (vR n q dn g) t p = true then a ||| bitI p else a) p a) (by omega)) ?_)
      simp [nI_1, bitI, h0]
set_option maxRecDepth 20000 in
set_option maxHeartbeats 200000 in
theorem c_X9_fitsOf (d : Nat) (g : Nat → Nat → Int32) (tr : Int64) {n q dn : Nat} (hc : RI n q dn g) {t : Nat} (ht : t < n) : Ev (d + 3) 138 0 [.ref 0, .int (nI t), .null, .null] [] (wR g tr) (some (.int (PIF q (vR n q dn g) t))) (wR g tr) := by
  have hb := hc.b
  refine Ev.sn e_X9_fitsOf 4 (i' := 4) (ls' := [_, _, _, _]) (st' := []) rfl ?_
  exact lp_X9_fitsOf _ _ _ hc ht q 0 0 (by omega)
set_option maxRecDepth 20000 in
set_option maxHeartbeats 200000 in
theorem lp_X9_useless (d : Nat) (g : Nat → Nat → Int32) (tr : Int64) {n q dn : Nat} (hc : RI n q dn g) : ∀ (kk p : Nat) (a : Int32), p + kk = n → Ev (d + 4) 145 4 [.ref 0, .int a, .int (nI p)] [] (wR g tr) (some (.int (fo (fun t a => if PIF q (vR n q dn g) t = 0 then a ||| bitI t else a) kk p a))) (wR g tr) := by
  intro kk
  induction kk with
  | zero =>
    intro p a hp
    have hb := hc.b
    refine Ev.sn e_X9_useless 4 (i' := 8) (ls' := [_, _, _]) (st' := [_, _, _]) rfl ?_
    refine Ev.ialdE e_X9_useless rfl rfl rfl rfl (m := 0) rfl (by decide) ?_
    refine Ev.brT (i1 := 24) (i2 := 10) e_X9_useless rfl rfl (ge_t hc.hn (by omega) (by omega)) ?_
    refine Ev.sn e_X9_useless 1 (i' := 25) (ls' := [_, _, _]) (st' := [_]) rfl ?_
    refine Ev.iret e_X9_useless rfl rfl rfl ?_ rfl
    rfl
  | succ kk ih =>
    intro p a hp
    rw [fo_s (k := kk)]
    have hb := hc.b
    refine Ev.sn e_X9_useless 4 (i' := 8) (ls' := [_, _, _]) (st' := [_, _, _]) rfl ?_
    refine Ev.ialdE e_X9_useless rfl rfl rfl rfl (m := 0) rfl (by decide) ?_
    refine Ev.brF (i1 := 24) (i2 := 10) e_X9_useless rfl rfl (ge_f hc.hn (by omega) (by omega)) ?_
    refine Ev.sn e_X9_useless 3 (i' := 13) (ls' := [_, _, _]) (st' := [_, _, _]) rfl ?_
    refine Ev.clV e_X9_useless rfl rfl (as := [_]) rfl rfl rfl kl_X9_fitsOf rfl rfl rfl (c_X9_fitsOf _ _ _ hc (by omega)) rfl ?_
    refine Ev.br (i1 := 15) (i2 := 19) e_X9_useless rfl rfl (fun h0 => ?_) (fun h0 => ?_)
    · refine Ev.sn e_X9_useless 8 (i' := 4) (ls' := [_, _, _]) (st' := []) rfl ?_
      refine id (Ev.cg (ih (p + 1) ((fun t a => if PIF q (vR n q dn g) t = 0 then a ||| bitI t else a) p a) (by omega)) ?_)
      simp [nI_1, bitI, h0]
    · refine Ev.sn e_X9_useless 5 (i' := 4) (ls' := [_, _, _]) (st' := []) rfl ?_
      refine id (Ev.cg (ih (p + 1) ((fun t a => if PIF q (vR n q dn g) t = 0 then a ||| bitI t else a) p a) (by omega)) ?_)
      simp [nI_1, bitI, h0]
set_option maxRecDepth 20000 in
set_option maxHeartbeats 200000 in
theorem c_X9_useless (d : Nat) (g : Nat → Nat → Int32) (tr : Int64) {n q dn : Nat} (hc : RI n q dn g) : Ev (d + 4) 145 0 [.ref 0, .null, .null] [] (wR g tr) (some (.int (ULS n q (vR n q dn g)))) (wR g tr) := by
  have hb := hc.b
  refine Ev.sn e_X9_useless 4 (i' := 4) (ls' := [_, _, _]) (st' := []) rfl ?_
  exact lp_X9_useless _ _ _ hc n 0 0 (by omega)
set_option maxRecDepth 20000 in
set_option maxHeartbeats 200000 in
theorem lp_X9_bare (d : Nat) (g : Nat → Nat → Int32) (tr : Int64) {n q dn : Nat} (hc : RI n q dn g) (u : Int32) : ∀ (kk p : Nat) (a : Int32), p + kk = n → Ev (d + 4) 146 11 [.ref 0, .int u, .int a, .int (nI p)] [] (wR g tr) (some (.int (fo (fun t a => if (vR n q dn g) 0 t = u then a &&& (PIF q (vR n q dn g) t ^^^ (-1)) else a) kk p a))) (wR g tr) := by
  intro kk
  induction kk with
  | zero =>
    intro p a hp
    have hb := hc.b
    refine Ev.sn e_X9_bare 4 (i' := 15) (ls' := [_, _, _, _]) (st' := [_, _, _]) rfl ?_
    refine Ev.ialdE e_X9_bare rfl rfl rfl rfl (m := 0) rfl (by decide) ?_
    refine Ev.brT (i1 := 34) (i2 := 17) e_X9_bare rfl rfl (ge_t hc.hn (by omega) (by omega)) ?_
    refine Ev.sn e_X9_bare 1 (i' := 35) (ls' := [_, _, _, _]) (st' := [_]) rfl ?_
    refine Ev.iret e_X9_bare rfl rfl rfl ?_ rfl
    rfl
  | succ kk ih =>
    intro p a hp
    rw [fo_s (k := kk)]
    have hb := hc.b
    refine Ev.sn e_X9_bare 4 (i' := 15) (ls' := [_, _, _, _]) (st' := [_, _, _]) rfl ?_
    refine Ev.ialdE e_X9_bare rfl rfl rfl rfl (m := 0) rfl (by decide) ?_
    refine Ev.brF (i1 := 34) (i2 := 17) e_X9_bare rfl rfl (ge_f hc.hn (by omega) (by omega)) ?_
    refine Ev.sn e_X9_bare 3 (i' := 20) (ls' := [_, _, _, _]) (st' := [_, _, _]) rfl ?_
    refine Ev.clV e_X9_bare rfl rfl (as := [_]) rfl rfl rfl kl_X9_useOf rfl rfl rfl (c_X9_useOf _ _ _ hc (by omega)) rfl ?_
    refine Ev.sn e_X9_bare 1 (i' := 22) (ls' := [_, _, _, _]) (st' := [_, _, _]) rfl ?_
    refine Ev.br (i1 := 23) (i2 := 29) e_X9_bare rfl rfl (fun h0 => ?_) (fun h0 => ?_)
    · refine Ev.sn e_X9_bare 2 (i' := 25) (ls' := [_, _, _, _]) (st' := [_, _, _]) rfl ?_
      refine Ev.clV e_X9_bare rfl rfl (as := [_]) rfl rfl rfl kl_X9_fitsOf rfl rfl rfl (c_X9_fitsOf _ _ _ hc (by omega)) rfl ?_
      refine Ev.sn e_X9_bare 7 (i' := 11) (ls' := [_, _, _, _]) (st' := []) rfl ?_
      refine id (Ev.cg (ih (p + 1) ((fun t a => if (vR n q dn g) 0 t = u then a &&& (PIF q (vR n q dn g) t ^^^ (-1)) else a) p a) (by omega)) ?_)
      simp [nI_1, h0]
    · refine Ev.sn e_X9_bare 5 (i' := 11) (ls' := [_, _, _, _]) (st' := []) rfl ?_
      refine id (Ev.cg (ih (p + 1) ((fun t a => if (vR n q dn g) 0 t = u then a &&& (PIF q (vR n q dn g) t ^^^ (-1)) else a) p a) (by omega)) ?_)
      simp [nI_1, h0]
set_option maxRecDepth 20000 in
set_option maxHeartbeats 200000 in
theorem c_X9_bare (d : Nat) (g : Nat → Nat → Int32) (tr : Int64) {n q dn : Nat} (hc : RI n q dn g) (u : Int32) : Ev (d + 4) 146 0 [.ref 0, .int u, .null, .null] [] (wR g tr) (some (.int (BAR n q (vR n q dn g) u))) (wR g tr) := by
  have hb := hc.b
  refine Ev.sn e_X9_bare 4 (i' := 4) (ls' := [_, _, _, _]) (st' := [_, _, _]) rfl ?_
  refine Ev.ialdE e_X9_bare rfl rfl rfl rfl (m := 1) rfl (by decide) ?_
  refine Ev.sn e_X9_bare 6 (i' := 11) (ls' := [_, _, _, _]) (st' := []) rfl ?_
  rw [hc.hq]
  exact lp_X9_bare _ _ _ hc _ n 0 _ (by omega)
set_option maxRecDepth 20000 in
set_option maxHeartbeats 200000 in
theorem lp_X9_thingsOf (d : Nat) (g : Nat → Nat → Int32) (tr : Int64) {n q dn : Nat} (hc : RI n q dn g) {x : Nat} (hx : x < 2000) : ∀ (kk p : Nat) (a : Int32), p + kk = n → Ev d 141 4 [.ref 0, .int (nI x), .int a, .int (nI p)] [] (wR g tr) (some (.int (fo (fun t a => if (vR n q dn g) 12 t = nI x then a ||| bitI t else a) kk p a))) (wR g tr) := by
  intro kk
  induction kk with
  | zero =>
    intro p a hp
    have hb := hc.b
    refine Ev.sn e_X9_thingsOf 4 (i' := 8) (ls' := [_, _, _, _]) (st' := [_, _, _]) rfl ?_
    refine Ev.ialdE e_X9_thingsOf rfl rfl rfl rfl (m := 0) rfl (by decide) ?_
    refine Ev.brT (i1 := 30) (i2 := 10) e_X9_thingsOf rfl rfl (ge_t hc.hn (by omega) (by omega)) ?_
    refine Ev.sn e_X9_thingsOf 1 (i' := 31) (ls' := [_, _, _, _]) (st' := [_]) rfl ?_
    refine Ev.iret e_X9_thingsOf rfl rfl rfl ?_ rfl
    rfl
  | succ kk ih =>
    intro p a hp
    rw [fo_s (k := kk)]
    have hb := hc.b
    have hv := own_R (p := x) hc (show p < n by omega) hx
    refine Ev.sn e_X9_thingsOf 4 (i' := 8) (ls' := [_, _, _, _]) (st' := [_, _, _]) rfl ?_
    refine Ev.ialdE e_X9_thingsOf rfl rfl rfl rfl (m := 0) rfl (by decide) ?_
    refine Ev.brF (i1 := 30) (i2 := 10) e_X9_thingsOf rfl rfl (ge_f hc.hn (by omega) (by omega)) ?_
    refine Ev.sn e_X9_thingsOf 6 (i' := 16) (ls' := [_, _, _, _]) (st' := [_, _, _]) rfl ?_
    refine Ev.ialdE e_X9_thingsOf rfl rfl rfl rfl (z_add _) (by omega) ?_
    refine Ev.sn e_X9_thingsOf 3 (i' := 20) (ls' := [_, _, _, _]) (st' := [_, _, _]) rfl ?_
    refine Ev.br (i1 := 21) (i2 := 25) e_X9_thingsOf rfl rfl (fun h0 => ?_) (fun h0 => ?_)
    · refine Ev.sn e_X9_thingsOf 8 (i' := 4) (ls' := [_, _, _, _]) (st' := []) rfl ?_
      refine id (Ev.cg (ih (p + 1) ((fun t a => if (vR n q dn g) 12 t = nI x then a ||| bitI t else a) p a) (by omega)) ?_)
      simp [← nI_1, hv, bitI, h0]
    · refine Ev.sn e_X9_thingsOf 5 (i' := 4) (ls' := [_, _, _, _]) (st' := []) rfl ?_
      refine id (Ev.cg (ih (p + 1) ((fun t a => if (vR n q dn g) 12 t = nI x then a ||| bitI t else a) p a) (by omega)) ?_)
      simp [← nI_1, hv, bitI, h0]
set_option maxRecDepth 20000 in
set_option maxHeartbeats 200000 in
theorem c_X9_thingsOf (d : Nat) (g : Nat → Nat → Int32) (tr : Int64) {n q dn : Nat} (hc : RI n q dn g) {x : Nat} (hx : x < 2000) : Ev d 141 0 [.ref 0, .int (nI x), .null, .null] [] (wR g tr) (some (.int (TOF n (vR n q dn g) (nI x)))) (wR g tr) := by
  have hb := hc.b
  refine Ev.sn e_X9_thingsOf 4 (i' := 4) (ls' := [_, _, _, _]) (st' := []) rfl ?_
  exact lp_X9_thingsOf _ _ _ hc hx n 0 0 (by omega)
theorem own_le {g : Nat → Nat → Int32} {n q dn t : Nat} (hc : RI n q dn g) (ht : t < n) : g 7 t ≤ 0 ↔ vR n q dn g 12 t = -9 := by
  rcases own_cases hc ht with ⟨h1, h2⟩ | ⟨p, h1, h2, h3⟩
  · rw [h1, h2]; simp
  · have hb := hc.b
    rw [h2, h3]
    constructor
    · intro h; exact absurd h (nI_nle (by omega) (by omega))
    · intro h
      have h4 := congrArg Int32.toInt h
      rw [nI_toInt (by omega)] at h4
      have h5 : (-9 : Int32).toInt = -9 := by decide
      omega
set_option maxRecDepth 20000 in
set_option maxHeartbeats 200000 in
theorem lp_X9_owned (d : Nat) (g : Nat → Nat → Int32) (tr : Int64) {n q dn : Nat} (hc : RI n q dn g) : ∀ (kk p : Nat) (a : Int32), p + kk = n → Ev d 147 4 [.ref 0, .int a, .int (nI p)] [] (wR g tr) (some (.int (fo (fun t a => if (vR n q dn g) 12 t = -9 then a else a ||| bitI t) kk p a))) (wR g tr) := by
  intro kk
  induction kk with
  | zero =>
    intro p a hp
    have hb := hc.b
    refine Ev.sn e_X9_owned 4 (i' := 8) (ls' := [_, _, _]) (st' := [_, _, _]) rfl ?_
    refine Ev.ialdE e_X9_owned rfl rfl rfl rfl (m := 0) rfl (by decide) ?_
    refine Ev.brT (i1 := 27) (i2 := 10) e_X9_owned rfl rfl (ge_t hc.hn (by omega) (by omega)) ?_
    refine Ev.sn e_X9_owned 1 (i' := 28) (ls' := [_, _, _]) (st' := [_]) rfl ?_
    refine Ev.iret e_X9_owned rfl rfl rfl ?_ rfl
    rfl
  | succ kk ih =>
    intro p a hp
    rw [fo_s (k := kk)]
    have hb := hc.b
    have hv : (g 7 p ≤ 0 ↔ (vR n q dn g) 12 p = -9) := own_le hc (by omega)
    refine Ev.sn e_X9_owned 4 (i' := 8) (ls' := [_, _, _]) (st' := [_, _, _]) rfl ?_
    refine Ev.ialdE e_X9_owned rfl rfl rfl rfl (m := 0) rfl (by decide) ?_
    refine Ev.brF (i1 := 27) (i2 := 10) e_X9_owned rfl rfl (ge_f hc.hn (by omega) (by omega)) ?_
    refine Ev.sn e_X9_owned 6 (i' := 16) (ls' := [_, _, _]) (st' := [_, _, _]) rfl ?_
    refine Ev.ialdE e_X9_owned rfl rfl rfl rfl (z_add _) (by omega) ?_
    refine Ev.br (i1 := 22) (i2 := 18) e_X9_owned rfl rfl (fun h0 => ?_) (fun h0 => ?_)
    · refine Ev.sn e_X9_owned 5 (i' := 4) (ls' := [_, _, _]) (st' := []) rfl ?_
      refine id (Ev.cg (ih (p + 1) ((fun t a => if (vR n q dn g) 12 t = -9 then a else a ||| bitI t) p a) (by omega)) ?_)
      simp [nI_1, ← hv, bitI, h0]
    · refine Ev.sn e_X9_owned 8 (i' := 4) (ls' := [_, _, _]) (st' := []) rfl ?_
      refine id (Ev.cg (ih (p + 1) ((fun t a => if (vR n q dn g) 12 t = -9 then a else a ||| bitI t) p a) (by omega)) ?_)
      simp [nI_1, ← hv, bitI, h0]
set_option maxRecDepth 20000 in
set_option maxHeartbeats 200000 in
theorem c_X9_owned (d : Nat) (g : Nat → Nat → Int32) (tr : Int64) {n q dn : Nat} (hc : RI n q dn g) : Ev d 147 0 [.ref 0, .null, .null] [] (wR g tr) (some (.int (OWN n (vR n q dn g)))) (wR g tr) := by
  have hb := hc.b
  refine Ev.sn e_X9_owned 4 (i' := 4) (ls' := [_, _, _]) (st' := []) rfl ?_
  exact lp_X9_owned _ _ _ hc n 0 0 (by omega)
set_option maxRecDepth 20000 in
set_option maxHeartbeats 200000 in
theorem lp_X9_taller (d : Nat) (g : Nat → Nat → Int32) (tr : Int64) {n q dn : Nat} (hc : RI n q dn g) {x : Nat} (hx : x < q) : ∀ (kk p : Nat) (a : Int32), p + kk = q → Ev d 142 4 [.ref 0, .int (nI x), .int a, .int (nI p)] [] (wR g tr) (some (.int (fo (fun e a => if (vR n q dn g) 5 e * (vR n q dn g) 4 x < (vR n q dn g) 5 x * (vR n q dn g) 4 e then a + 1 else a) kk p a))) (wR g tr) := by
  intro kk
  induction kk with
  | zero =>
    intro p a hp
    have hb := hc.b
    refine Ev.sn e_X9_taller 4 (i' := 8) (ls' := [_, _, _, _]) (st' := [_, _, _]) rfl ?_
    refine Ev.ialdE e_X9_taller rfl rfl rfl rfl (m := 1) rfl (by decide) ?_
    refine Ev.brT (i1 := 49) (i2 := 10) e_X9_taller rfl rfl (ge_t hc.hq (by omega) (by omega)) ?_
    refine Ev.sn e_X9_taller 1 (i' := 50) (ls' := [_, _, _, _]) (st' := [_]) rfl ?_
    refine Ev.iret e_X9_taller rfl rfl rfl ?_ rfl
    rfl
  | succ kk ih =>
    intro p a hp
    rw [fo_s (k := kk)]
    have hb := hc.b
    have hv1 : (vR n q dn g) 5 p = g 4 (2 * p + 1) := cut_lt (f := fun t => g 4 (2 * t + 1)) (by omega)
    have hv2 : (vR n q dn g) 4 p = g 7 (12 + p) := cut_lt (f := fun t => g 7 (12 + t)) (by omega)
    have hv3 : (vR n q dn g) 5 x = g 4 (2 * x + 1) := cut_lt (f := fun t => g 4 (2 * t + 1)) hx
    have hv4 : (vR n q dn g) 4 x = g 7 (12 + x) := cut_lt (f := fun t => g 7 (12 + t)) hx
    refine Ev.sn e_X9_taller 4 (i' := 8) (ls' := [_, _, _, _]) (st' := [_, _, _]) rfl ?_
    refine Ev.ialdE e_X9_taller rfl rfl rfl rfl (m := 1) rfl (by decide) ?_
    refine Ev.brF (i1 := 49) (i2 := 10) e_X9_taller rfl rfl (ge_f hc.hq (by omega) (by omega)) ?_
    refine Ev.sn e_X9_taller 8 (i' := 18) (ls' := [_, _, _, _]) (st' := [_, _, _]) rfl ?_
    refine Ev.ialdE e_X9_taller rfl rfl rfl rfl (ixm 2 1 p) (by omega) ?_
    refine Ev.sn e_X9_taller 5 (i' := 24) (ls' := [_, _, _, _]) (st' := [_, _, _, _]) rfl ?_
    refine Ev.ialdE e_X9_taller rfl rfl rfl rfl (nI_add 12 x) (by omega) ?_
    refine Ev.sn e_X9_taller 8 (i' := 33) (ls' := [_, _, _, _]) (st' := [_, _, _, _]) rfl ?_
    refine Ev.ialdE e_X9_taller rfl rfl rfl rfl (ixm 2 1 x) (by omega) ?_
    refine Ev.sn e_X9_taller 5 (i' := 39) (ls' := [_, _, _, _]) (st' := [_, _, _, _, _]) rfl ?_
    refine Ev.ialdE e_X9_taller rfl rfl rfl rfl (nI_add 12 p) (by omega) ?_
    refine Ev.sn e_X9_taller 1 (i' := 41) (ls' := [_, _, _, _]) (st' := [_, _, _]) rfl ?_
    refine Ev.br (i1 := 44) (i2 := 42) e_X9_taller rfl rfl (fun h0 => ?_) (fun h0 => ?_)
    · refine Ev.sn e_X9_taller 5 (i' := 4) (ls' := [_, _, _, _]) (st' := []) rfl ?_
      refine id (Ev.cg (ih (p + 1) ((fun e a => if (vR n q dn g) 5 e * (vR n q dn g) 4 x < (vR n q dn g) 5 x * (vR n q dn g) 4 e then a + 1 else a) p a) (by omega)) ?_)
      simp [nI_1, hv1, hv2, hv3, hv4, ← Int32.not_le, h0]
    · refine Ev.sn e_X9_taller 6 (i' := 4) (ls' := [_, _, _, _]) (st' := []) rfl ?_
      refine id (Ev.cg (ih (p + 1) ((fun e a => if (vR n q dn g) 5 e * (vR n q dn g) 4 x < (vR n q dn g) 5 x * (vR n q dn g) 4 e then a + 1 else a) p a) (by omega)) ?_)
      simp [nI_1, hv1, hv2, hv3, hv4, ← Int32.not_le, h0]
set_option maxRecDepth 20000 in
set_option maxHeartbeats 200000 in
theorem c_X9_taller (d : Nat) (g : Nat → Nat → Int32) (tr : Int64) {n q dn : Nat} (hc : RI n q dn g) {x : Nat} (hx : x < q) : Ev d 142 0 [.ref 0, .int (nI x), .null, .null] [] (wR g tr) (some (.int (SMT q (vR n q dn g) x))) (wR g tr) := by
  have hb := hc.b
  refine Ev.sn e_X9_taller 4 (i' := 4) (ls' := [_, _, _, _]) (st' := []) rfl ?_
  exact lp_X9_taller _ _ _ hc hx q 0 0 (by omega)
set_option maxRecDepth 20000 in
set_option maxHeartbeats 200000 in
theorem lp_X9_fitsHim (d : Nat) (g : Nat → Nat → Int32) (tr : Int64) {n q dn : Nat} (hc : RI n q dn g) (sc z : Int32) : ∀ (kk p : Nat) (a : Int32), p + kk = n → Ev (d + 2) 167 4 [.ref 0, .int sc, .int z, .int a, .int (nI p)] [] (wR g tr) (some (.int (fo (fun t a => if fitB (vR n q dn g) t ((vR n q dn g) 1 t) sc z = true then a + 1 else a) kk p a))) (wR g tr) := by
  intro kk
  induction kk with
  | zero =>
    intro p a hp
    have hb := hc.b
    refine Ev.sn e_X9_fitsHim 4 (i' := 8) (ls' := [_, _, _, _, _]) (st' := [_, _, _]) rfl ?_
    refine Ev.ialdE e_X9_fitsHim rfl rfl rfl rfl (m := 0) rfl (by decide) ?_
    refine Ev.brT (i1 := 30) (i2 := 10) e_X9_fitsHim rfl rfl (ge_t hc.hn (by omega) (by omega)) ?_
    refine Ev.sn e_X9_fitsHim 1 (i' := 31) (ls' := [_, _, _, _, _]) (st' := [_]) rfl ?_
    refine Ev.iret e_X9_fitsHim rfl rfl rfl ?_ rfl
    rfl
  | succ kk ih =>
    intro p a hp
    rw [fo_s (k := kk)]
    have hb := hc.b
    have hv : (vR n q dn g) 1 p = g 7 (6 + p) := cut_lt (f := fun t => g 7 (6 + t)) (by omega)
    refine Ev.sn e_X9_fitsHim 4 (i' := 8) (ls' := [_, _, _, _, _]) (st' := [_, _, _]) rfl ?_
    refine Ev.ialdE e_X9_fitsHim rfl rfl rfl rfl (m := 0) rfl (by decide) ?_
    refine Ev.brF (i1 := 30) (i2 := 10) e_X9_fitsHim rfl rfl (ge_f hc.hn (by omega) (by omega)) ?_
    refine Ev.sn e_X9_fitsHim 8 (i' := 18) (ls' := [_, _, _, _, _]) (st' := [_, _, _, _, _]) rfl ?_
    refine Ev.ialdE e_X9_fitsHim rfl rfl rfl rfl (nI_add 6 p) (by omega) ?_
    refine Ev.sn e_X9_fitsHim 2 (i' := 21) (ls' := [_, _, _, _, _]) (st' := [_, _, _, _, _, _]) rfl ?_
    refine Ev.clV e_X9_fitsHim rfl rfl (as := [_, _, _, _]) rfl rfl rfl kl_X9_fits rfl rfl rfl (c_X9_fits _ _ _ hc (by omega) _ _ _) rfl ?_
    refine Ev.brB (i1 := 25) (i2 := 23) e_X9_fitsHim rfl rfl (fun h0 => ?_) (fun h0 => ?_)
    · refine Ev.sn e_X9_fitsHim 5 (i' := 4) (ls' := [_, _, _, _, _]) (st' := []) rfl ?_
      refine id (Ev.cg (ih (p + 1) ((fun t a => if fitB (vR n q dn g) t ((vR n q dn g) 1 t) sc z = true then a + 1 else a) p a) (by omega)) ?_)
      simp [nI_1, hv, h0]
    · refine Ev.sn e_X9_fitsHim 6 (i' := 4) (ls' := [_, _, _, _, _]) (st' := []) rfl ?_
      refine id (Ev.cg (ih (p + 1) ((fun t a => if fitB (vR n q dn g) t ((vR n q dn g) 1 t) sc z = true then a + 1 else a) p a) (by omega)) ?_)
      simp [nI_1, hv, h0]
set_option maxRecDepth 20000 in
set_option maxHeartbeats 200000 in
theorem c_X9_fitsHim (d : Nat) (g : Nat → Nat → Int32) (tr : Int64) {n q dn : Nat} (hc : RI n q dn g) (sc z : Int32) : Ev (d + 2) 167 0 [.ref 0, .int sc, .int z, .null, .null] [] (wR g tr) (some (.int (THF n (vR n q dn g) z sc))) (wR g tr) := by
  have hb := hc.b
  refine Ev.sn e_X9_fitsHim 4 (i' := 4) (ls' := [_, _, _, _, _]) (st' := []) rfl ?_
  exact lp_X9_fitsHim _ _ _ hc _ _ n 0 0 (by omega)
def anyF (f : Nat → Bool) (k p : Nat) (b : Bool) : Bool := fo (fun t b => b || f t) k p b
theorem anyF_eq (f : Nat → Bool) : ∀ (k p : Nat) (b : Bool), anyF f k p b = (b || anyN f k p)
  | 0, _, b => by simp [anyF, fo, anyN]
  | k + 1, p, b => by
    show anyF f k (p + 1) (b || f p) = _
    rw [anyF_eq f k (p + 1), anyN]
    cases b <;> cases f p <;> simp
set_option maxRecDepth 20000 in
set_option maxHeartbeats 200000 in
theorem lp_X9_hasOne (d : Nat) (g : Nat → Nat → Int32) (tr : Int64) {n q dn : Nat} (hc : RI n q dn g) {x : Nat} (hx : x < 2000) (u : Int32) : ∀ (kk p : Nat) (a : Bool), p + kk = n → Ev (d + 1) 150 4 [.ref 0, .int (nI x), .int u, .int (bI a), .int (nI p)] [] (wR g tr) (some (.int (bI (fo (fun t b => b || (fun t => decide ((vR n q dn g) 12 t = nI x) && decide ((vR n q dn g) 0 t = u)) t) kk p a)))) (wR g tr) := by
  intro kk
  induction kk with
  | zero =>
    intro p a hp
    have hb := hc.b
    refine Ev.sn e_X9_hasOne 4 (i' := 8) (ls' := [_, _, _, _, _]) (st' := [_, _, _]) rfl ?_
    refine Ev.ialdE e_X9_hasOne rfl rfl rfl rfl (m := 0) rfl (by decide) ?_
    refine Ev.brT (i1 := 33) (i2 := 10) e_X9_hasOne rfl rfl (ge_t hc.hn (by omega) (by omega)) ?_
    refine Ev.sn e_X9_hasOne 1 (i' := 34) (ls' := [_, _, _, _, _]) (st' := [_]) rfl ?_
    refine Ev.iret e_X9_hasOne rfl rfl bI_nar ?_ rfl
    rfl
  | succ kk ih =>
    intro p a hp
    rw [fo_s (k := kk)]
    have hb := hc.b
    have hv := own_R (p := x) hc (show p < n by omega) hx
    refine Ev.sn e_X9_hasOne 4 (i' := 8) (ls' := [_, _, _, _, _]) (st' := [_, _, _]) rfl ?_
    refine Ev.ialdE e_X9_hasOne rfl rfl rfl rfl (m := 0) rfl (by decide) ?_
    refine Ev.brF (i1 := 33) (i2 := 10) e_X9_hasOne rfl rfl (ge_f hc.hn (by omega) (by omega)) ?_
    refine Ev.sn e_X9_hasOne 1 (i' := 11) (ls' := [_, _, _, _, _]) (st' := [_]) rfl ?_
    refine Ev.brB (i1 := 12) (i2 := 27) e_X9_hasOne rfl rfl (fun h0 => ?_) (fun h0 => ?_)
    · refine Ev.sn e_X9_hasOne 5 (i' := 17) (ls' := [_, _, _, _, _]) (st' := [_, _]) rfl ?_
      refine Ev.ialdE e_X9_hasOne rfl rfl rfl rfl (z_add _) (by omega) ?_
      refine Ev.sn e_X9_hasOne 3 (i' := 21) (ls' := [_, _, _, _, _]) (st' := [_, _]) rfl ?_
      refine Ev.br (i1 := 22) (i2 := 29) e_X9_hasOne rfl rfl (fun h1 => ?_) (fun h1 => ?_)
      · refine Ev.sn e_X9_hasOne 2 (i' := 24) (ls' := [_, _, _, _, _]) (st' := [_, _]) rfl ?_
        refine Ev.clV e_X9_hasOne rfl rfl (as := [_]) rfl rfl rfl kl_X9_useOf rfl rfl rfl (c_X9_useOf _ _ _ hc (by omega)) rfl ?_
        refine Ev.sn e_X9_hasOne 1 (i' := 26) (ls' := [_, _, _, _, _]) (st' := [_, _]) rfl ?_
        refine Ev.br (i1 := 27) (i2 := 29) e_X9_hasOne rfl rfl (fun h2 => ?_) (fun h2 => ?_)
        · refine Ev.sn e_X9_hasOne 5 (i' := 4) (ls' := [_, _, _, _, _]) (st' := []) rfl ?_
          refine id (Ev.cg (ih (p + 1) ((fun t b => b || (fun t => decide ((vR n q dn g) 12 t = nI x) && decide ((vR n q dn g) 0 t = u)) t) p a) (by omega)) ?_)
          simp [← nI_1, hv, bI, h0, h1, h2]
        · refine Ev.sn e_X9_hasOne 4 (i' := 4) (ls' := [_, _, _, _, _]) (st' := []) rfl ?_
          refine id (Ev.cg (ih (p + 1) ((fun t b => b || (fun t => decide ((vR n q dn g) 12 t = nI x) && decide ((vR n q dn g) 0 t = u)) t) p a) (by omega)) ?_)
          simp [← nI_1, hv, bI, h0, h1, h2]
      · refine Ev.sn e_X9_hasOne 4 (i' := 4) (ls' := [_, _, _, _, _]) (st' := []) rfl ?_
        refine id (Ev.cg (ih (p + 1) ((fun t b => b || (fun t => decide ((vR n q dn g) 12 t = nI x) && decide ((vR n q dn g) 0 t = u)) t) p a) (by omega)) ?_)
        simp [← nI_1, hv, bI, h0, h1]
    · refine Ev.sn e_X9_hasOne 5 (i' := 4) (ls' := [_, _, _, _, _]) (st' := []) rfl ?_
      refine id (Ev.cg (ih (p + 1) ((fun t b => b || (fun t => decide ((vR n q dn g) 12 t = nI x) && decide ((vR n q dn g) 0 t = u)) t) p a) (by omega)) ?_)
      simp [← nI_1, hv, bI, h0]
set_option maxRecDepth 20000 in
set_option maxHeartbeats 200000 in
theorem c_X9_hasOne (d : Nat) (g : Nat → Nat → Int32) (tr : Int64) {n q dn : Nat} (hc : RI n q dn g) {x : Nat} (hx : x < 2000) (u : Int32) : Ev (d + 1) 150 0 [.ref 0, .int (nI x), .int u, .null, .null] [] (wR g tr) (some (.int (bI (HOO n (vR n q dn g) (nI x) u)))) (wR g tr) := by
  have hb := hc.b
  refine Ev.sn e_X9_hasOne 4 (i' := 4) (ls' := [_, _, _, _, _]) (st' := []) rfl ?_
  have := lp_X9_hasOne d g tr hc hx u n 0 false (by omega)
  rw [show fo (fun t b => b || (fun t => decide ((vR n q dn g) 12 t = nI x) && decide ((vR n q dn g) 0 t = u)) t) n 0 false = anyF (fun t => decide ((vR n q dn g) 12 t = nI x) && decide ((vR n q dn g) 0 t = u)) n 0 false from rfl, anyF_eq, Bool.false_or] at this
  exact this
def allF (f : Nat → Bool) (k p : Nat) (b : Bool) : Bool := fo (fun t b => b && f t) k p b
theorem allF_eq (f : Nat → Bool) : ∀ (k p : Nat) (b : Bool), allF f k p b = (b && allN f k p)
  | 0, _, b => by simp [allF, fo, allN]
  | k + 1, p, b => by
    show allF f k (p + 1) (b && f p) = _
    rw [allF_eq f k (p + 1), allN]
    cases b <;> cases f p <;> simp
set_option maxRecDepth 20000 in
set_option maxHeartbeats 200000 in
theorem lp_X9_mayBeAt (d : Nat) (g : Nat → Nat → Int32) (tr : Int64) {n q dn : Nat} (hc : RI n q dn g) {k : Nat} (hk : g 0 7 = nI k) (ht : TI n k (tR k g)) (sc z : Int32) : ∀ (kk p : Nat) (a : Bool), p + kk = k → Ev (d + 2) 161 4 [.ref 0, .int sc, .int z, .int (bI a), .int (nI p), .null] [] (wR g tr) (some (.int (bI (fo (fun t b => b && (fun i => decide (bI (fitB (vR n q dn g) ((tR k g) 0 i).toNatClampNeg ((vR n q dn g) 1 ((tR k g) 0 i).toNatClampNeg) sc z) = (tR k g) 1 i)) t) kk p a)))) (wR g tr) := by
  intro kk
  induction kk with
  | zero =>
    intro p a hp
    have hb6 := ht.1
    refine Ev.sn e_X9_mayBeAt 3 (i' := 7) (ls' := [_, _, _, _, _, _]) (st' := [_, _]) rfl ?_
    refine Ev.brT (i1 := 42) (i2 := 8) e_X9_mayBeAt rfl rfl (ge_t hk (by omega) (by omega)) ?_
    refine Ev.sn e_X9_mayBeAt 1 (i' := 43) (ls' := [_, _, _, _, _, _]) (st' := [_]) rfl ?_
    refine Ev.iret e_X9_mayBeAt rfl rfl bI_nar ?_ rfl
    rfl
  | succ kk ih =>
    intro p a hp
    rw [fo_s (k := kk)]
    have hb := hc.b
    have hb6 := ht.1
    obtain ⟨⟨t, ht1, ht2⟩, ht3⟩ := ht.2 p (by omega)
    have e0 : (tR k g) 0 p = g 11 p := cut_lt (by omega)
    have e1 : (tR k g) 1 p = g 12 p := cut_lt (by omega)
    have e2 : g 11 p = nI t := by rw [← e0]; exact ht2
    have e3 : (nI t).toNatClampNeg = t := nI_clamp (by omega)
    have e4 : (vR n q dn g) 1 t = g 7 (6 + t) := cut_lt (f := fun t => g 7 (6 + t)) ht1
    have e5 : ((tR k g) 0 p).toNatClampNeg = t := by rw [ht2, e3]
    rw [e1] at ht3
    refine Ev.sn e_X9_mayBeAt 3 (i' := 7) (ls' := [_, _, _, _, _, _]) (st' := [_, _]) rfl ?_
    refine Ev.brF (i1 := 42) (i2 := 8) e_X9_mayBeAt rfl rfl (ge_f hk (by omega) (by omega)) ?_
    refine Ev.sn e_X9_mayBeAt 3 (i' := 11) (ls' := [_, _, _, _, _, _]) (st' := [_, _]) rfl ?_
    refine Ev.ialdE e_X9_mayBeAt rfl rfl rfl rfl rfl (by omega) ?_
    refine Ev.sn e_X9_mayBeAt 2 (i' := 14) (ls' := [_, _, _, _, _, _]) (st' := [_]) rfl ?_
    refine Ev.brB (i1 := 38) (i2 := 15) e_X9_mayBeAt rfl rfl (fun h0 => ?_) (fun h0 => ?_)
    · refine Ev.sn e_X9_mayBeAt 4 (i' := 4) (ls' := [_, _, _, _, _, _]) (st' := []) rfl ?_
      refine Ev.weak (lle_c (lle_c (lle_c (lle_c (lle_c (lle_n lle_0)))))) (Ev.cg (ih (p + 1) ((fun (t : Nat) (b : Bool) => b && (fun i => decide (bI (fitB (vR n q dn g) ((tR k g) 0 i).toNatClampNeg ((vR n q dn g) 1 ((tR k g) 0 i).toNatClampNeg) sc z) = (tR k g) 1 i)) t) p a) (by omega)) ?_)
      simp only [e5, e1, e4, nI_1]
      rcases ht3 with h9 | h9 <;> simp_all [bI]
    · refine Ev.sn e_X9_mayBeAt 7 (i' := 22) (ls' := [_, _, _, _, _, _]) (st' := [_, _, _, _]) rfl ?_
      refine Ev.ialdE e_X9_mayBeAt rfl rfl rfl rfl (by rw [e2]; exact nI_add 6 t) (by omega) ?_
      refine Ev.sn e_X9_mayBeAt 2 (i' := 25) (ls' := [_, _, _, _, _, _]) (st' := [_, _, _, _, _]) rfl ?_
      refine Ev.clV e_X9_mayBeAt rfl rfl (as := [_, _, _, _]) rfl rfl rfl kl_X9_fits rfl rfl rfl (by rw [e2]; exact c_X9_fits _ _ _ hc ht1 _ _ _) rfl ?_
      refine Ev.sn e_X9_mayBeAt 3 (i' := 29) (ls' := [_, _, _, _, _, _]) (st' := [_, _, _]) rfl ?_
      refine Ev.ialdE e_X9_mayBeAt rfl rfl rfl rfl rfl (by omega) ?_
      refine Ev.sn e_X9_mayBeAt 1 (i' := 31) (ls' := [_, _, _, _, _, _]) (st' := [_, _, _]) rfl ?_
      refine Ev.br (i1 := 32) (i2 := 34) e_X9_mayBeAt rfl rfl (fun h1 => ?_) (fun h1 => ?_)
      · refine Ev.sn e_X9_mayBeAt 2 (i' := 35) (ls' := [_, _, _, _, _, _]) (st' := [_, _]) rfl ?_
        refine Ev.br (i1 := 36) (i2 := 38) e_X9_mayBeAt rfl rfl (fun h35 => ?_) (fun h35 => ?_)
        · refine Ev.sn e_X9_mayBeAt 5 (i' := 4) (ls' := [_, _, _, _, _, _]) (st' := []) rfl ?_
          refine Ev.weak (lle_c (lle_c (lle_c (lle_c (lle_c (lle_n lle_0)))))) (Ev.cg (ih (p + 1) ((fun (t : Nat) (b : Bool) => b && (fun i => decide (bI (fitB (vR n q dn g) ((tR k g) 0 i).toNatClampNeg ((vR n q dn g) 1 ((tR k g) 0 i).toNatClampNeg) sc z) = (tR k g) 1 i)) t) p a) (by omega)) ?_)
          simp only [e5, e1, e4, nI_1]
          rcases ht3 with h9 | h9 <;> simp_all [bI]
        · refine Ev.sn e_X9_mayBeAt 4 (i' := 4) (ls' := [_, _, _, _, _, _]) (st' := []) rfl ?_
          refine Ev.weak (lle_c (lle_c (lle_c (lle_c (lle_c (lle_n lle_0)))))) (Ev.cg (ih (p + 1) ((fun (t : Nat) (b : Bool) => b && (fun i => decide (bI (fitB (vR n q dn g) ((tR k g) 0 i).toNatClampNeg ((vR n q dn g) 1 ((tR k g) 0 i).toNatClampNeg) sc z) = (tR k g) 1 i)) t) p a) (by omega)) ?_)
          simp only [e5, e1, e4, nI_1]
          rcases ht3 with h9 | h9 <;> simp_all [bI]
      · refine Ev.sn e_X9_mayBeAt 1 (i' := 35) (ls' := [_, _, _, _, _, _]) (st' := [_, _]) rfl ?_
        refine Ev.br (i1 := 36) (i2 := 38) e_X9_mayBeAt rfl rfl (fun h35 => ?_) (fun h35 => ?_)
        · refine Ev.sn e_X9_mayBeAt 5 (i' := 4) (ls' := [_, _, _, _, _, _]) (st' := []) rfl ?_
          refine Ev.weak (lle_c (lle_c (lle_c (lle_c (lle_c (lle_n lle_0)))))) (Ev.cg (ih (p + 1) ((fun (t : Nat) (b : Bool) => b && (fun i => decide (bI (fitB (vR n q dn g) ((tR k g) 0 i).toNatClampNeg ((vR n q dn g) 1 ((tR k g) 0 i).toNatClampNeg) sc z) = (tR k g) 1 i)) t) p a) (by omega)) ?_)
          simp only [e5, e1, e4, nI_1]
          rcases ht3 with h9 | h9 <;> simp_all [bI]
        · refine Ev.sn e_X9_mayBeAt 4 (i' := 4) (ls' := [_, _, _, _, _, _]) (st' := []) rfl ?_
          refine Ev.weak (lle_c (lle_c (lle_c (lle_c (lle_c (lle_n lle_0)))))) (Ev.cg (ih (p + 1) ((fun (t : Nat) (b : Bool) => b && (fun i => decide (bI (fitB (vR n q dn g) ((tR k g) 0 i).toNatClampNeg ((vR n q dn g) 1 ((tR k g) 0 i).toNatClampNeg) sc z) = (tR k g) 1 i)) t) p a) (by omega)) ?_)
          simp only [e5, e1, e4, nI_1]
          rcases ht3 with h9 | h9 <;> simp_all [bI]
set_option maxRecDepth 20000 in
set_option maxHeartbeats 200000 in
theorem c_X9_mayBeAt (d : Nat) (g : Nat → Nat → Int32) (tr : Int64) {n q dn : Nat} (hc : RI n q dn g) {k : Nat} (hk : g 0 7 = nI k) (ht : TI n k (tR k g)) (sc z : Int32) : Ev (d + 2) 161 0 [.ref 0, .int sc, .int z, .null, .null, .null] [] (wR g tr) (some (.int (bI (ALW k (tR k g) (vR n q dn g) z sc)))) (wR g tr) := by
  have hb6 := ht.1
  refine Ev.sn e_X9_mayBeAt 4 (i' := 4) (ls' := [_, _, _, _, _, _]) (st' := []) rfl ?_
  have := lp_X9_mayBeAt d g tr hc hk ht sc z k 0 true (by omega)
  rw [show fo (fun t b => b && (fun i => decide (bI (fitB (vR n q dn g) ((tR k g) 0 i).toNatClampNeg ((vR n q dn g) 1 ((tR k g) 0 i).toNatClampNeg) sc z) = (tR k g) 1 i)) t) k 0 true = allF (fun i => decide (bI (fitB (vR n q dn g) ((tR k g) 0 i).toNatClampNeg ((vR n q dn g) 1 ((tR k g) 0 i).toNatClampNeg) sc z) = (tR k g) 1 i)) k 0 true from rfl, allF_eq, Bool.true_and] at this
  exact this
