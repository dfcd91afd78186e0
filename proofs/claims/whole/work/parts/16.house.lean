/-! class House: its questions -/
set_option maxRecDepth 20000 in
set_option maxHeartbeats 200000 in
theorem c_X2_hasThing (d : Nat) (g : Nat → Nat → Int32) (tr : Int64) {n q dn : Nat} (hc : CI n q dn g) (t : Int32) : Ev d 14 0 [.ref 16, .int t] [] (wC g tr) (some (.int (bI (decide (0 ≤ t) && decide (t < nI n))))) (wC g tr) := by
  refine Ev.sn e_X2_hasThing 1 (i' := 1) (ls' := [_, _]) (st' := [_]) rfl ?_
  refine Ev.br (i1 := 9) (i2 := 2) e_X2_hasThing rfl rfl (fun h0 => ?_) (fun h0 => ?_)
  · refine Ev.sn e_X2_hasThing 1 (i' := 10) (ls' := [_, _]) (st' := [_]) rfl ?_
    refine Ev.iret e_X2_hasThing rfl rfl rfl ?_ rfl
    simp [bI, Int32.not_le.mpr h0]
  · refine Ev.sn e_X2_hasThing 4 (i' := 6) (ls' := [_, _]) (st' := [_, _]) rfl ?_
    refine Ev.br (i1 := 9) (i2 := 7) e_X2_hasThing rfl rfl (fun h1 => ?_) (fun h1 => ?_)
    · refine Ev.sn e_X2_hasThing 1 (i' := 10) (ls' := [_, _]) (st' := [_]) rfl ?_
      refine Ev.iret e_X2_hasThing rfl rfl rfl ?_ rfl
      rw [hc.hn] at h1
      simp [bI, Int32.not_lt.mpr h1]
    · refine Ev.sn e_X2_hasThing 2 (i' := 10) (ls' := [_, _]) (st' := [_]) rfl ?_
      refine Ev.iret e_X2_hasThing rfl rfl rfl ?_ rfl
      rw [hc.hn] at h1
      simp [bI, Int32.not_lt.mp h0, Int32.not_le.mp h1]
set_option maxRecDepth 20000 in
set_option maxHeartbeats 200000 in
theorem c_X2_hasPerson (d : Nat) (g : Nat → Nat → Int32) (tr : Int64) {n q dn : Nat} (hc : CI n q dn g) (t : Int32) : Ev d 15 0 [.ref 16, .int t] [] (wC g tr) (some (.int (bI (decide (0 ≤ t) && decide (t < nI q))))) (wC g tr) := by
  refine Ev.sn e_X2_hasPerson 1 (i' := 1) (ls' := [_, _]) (st' := [_]) rfl ?_
  refine Ev.br (i1 := 9) (i2 := 2) e_X2_hasPerson rfl rfl (fun h0 => ?_) (fun h0 => ?_)
  · refine Ev.sn e_X2_hasPerson 1 (i' := 10) (ls' := [_, _]) (st' := [_]) rfl ?_
    refine Ev.iret e_X2_hasPerson rfl rfl rfl ?_ rfl
    simp [bI, Int32.not_le.mpr h0]
  · refine Ev.sn e_X2_hasPerson 4 (i' := 6) (ls' := [_, _]) (st' := [_, _]) rfl ?_
    refine Ev.br (i1 := 9) (i2 := 7) e_X2_hasPerson rfl rfl (fun h1 => ?_) (fun h1 => ?_)
    · refine Ev.sn e_X2_hasPerson 1 (i' := 10) (ls' := [_, _]) (st' := [_]) rfl ?_
      refine Ev.iret e_X2_hasPerson rfl rfl rfl ?_ rfl
      rw [hc.hq] at h1
      simp [bI, Int32.not_lt.mpr h1]
    · refine Ev.sn e_X2_hasPerson 2 (i' := 10) (ls' := [_, _]) (st' := [_]) rfl ?_
      refine Ev.iret e_X2_hasPerson rfl rfl rfl ?_ rfl
      rw [hc.hq] at h1
      simp [bI, Int32.not_lt.mp h0, Int32.not_le.mp h1]
set_option maxRecDepth 20000 in
set_option maxHeartbeats 200000 in
theorem fitB_C {n q dn : Nat} {g : Nat → Nat → Int32} {t u : Nat} (ht : t < n) (hu : u < 3) (e : g 32 t = nI u) (its sc size : Int32) : fitB (vC n q dn g) t its sc size = (decide (g 30 u * (size * its) ≤ 20 * g 34 t * sc) && decide (20 * g 34 t * sc ≤ g 31 u * (size * its))) := by
  have e1 : ux (vC n q dn g) t = u := by
    show (cut n (g 32) t).toNatClampNeg = u
    rw [cut_lt ht, e]
    exact nI_clamp (by omega)
  unfold fitB
  rw [e1]
  show (decide (cut 3 (g 30) u * (size * its) ≤ 20 * cut n (g 34) t * sc) && decide (20 * cut n (g 34) t * sc ≤ cut 3 (g 31) u * (size * its))) = _
  rw [cut_lt hu, cut_lt hu, cut_lt ht]
set_option maxRecDepth 20000 in
set_option maxHeartbeats 200000 in
theorem c_X2_fitsAtScale (d : Nat) (g : Nat → Nat → Int32) (tr : Int64) {n q dn : Nat} (hc : CI n q dn g) {t : Nat} (ht : t < n) (its size sc : Int32) : Ev d 18 0 [.ref 16, .int (nI t), .int its, .int size, .int sc, .null, .null, .null] [] (wC g tr) (some (.int (bI (fitB (vC n q dn g) t its sc size)))) (wC g tr) := by
  have hb := hc.b
  obtain ⟨u, hu, e⟩ := hc.use ht
  rw [fitB_C ht hu e]
  refine Ev.sn e_X2_fitsAtScale 4 (i' := 4) (ls' := [_, _, _, _, _, _, _, _]) (st' := [_, _]) rfl ?_
  refine Ev.ialdE e_X2_fitsAtScale rfl rfl rfl rfl rfl (by omega) ?_
  refine Ev.sn e_X2_fitsAtScale 6 (i' := 11) (ls' := [_, _, _, _, _, _, _, _]) (st' := [_, _, _]) rfl ?_
  refine Ev.ialdE e_X2_fitsAtScale rfl rfl rfl rfl rfl (by omega) ?_
  refine Ev.sn e_X2_fitsAtScale 12 (i' := 24) (ls' := [_, _, _, _, _, _, _, _]) (st' := [_, _]) rfl ?_
  refine Ev.ialdE e_X2_fitsAtScale rfl rfl rfl rfl e hu ?_
  refine Ev.sn e_X2_fitsAtScale 3 (i' := 28) (ls' := [_, _, _, _, _, _, _, _]) (st' := [_, _]) rfl ?_
  refine Ev.br (i1 := 40) (i2 := 29) e_X2_fitsAtScale rfl rfl (fun h0 => ?_) (fun h0 => ?_)
  · refine Ev.sn e_X2_fitsAtScale 1 (i' := 41) (ls' := [_, _, _, _, _, _, _, _]) (st' := [_]) rfl ?_
    refine Ev.iret e_X2_fitsAtScale rfl rfl rfl ?_ rfl
    simp [bI, Int32.not_le.mpr h0]
  · refine Ev.sn e_X2_fitsAtScale 5 (i' := 34) (ls' := [_, _, _, _, _, _, _, _]) (st' := [_, _, _]) rfl ?_
    refine Ev.ialdE e_X2_fitsAtScale rfl rfl rfl rfl e hu ?_
    refine Ev.sn e_X2_fitsAtScale 2 (i' := 37) (ls' := [_, _, _, _, _, _, _, _]) (st' := [_, _]) rfl ?_
    refine Ev.br (i1 := 40) (i2 := 38) e_X2_fitsAtScale rfl rfl (fun h1 => ?_) (fun h1 => ?_)
    · refine Ev.sn e_X2_fitsAtScale 1 (i' := 41) (ls' := [_, _, _, _, _, _, _, _]) (st' := [_]) rfl ?_
      refine Ev.iret e_X2_fitsAtScale rfl rfl rfl ?_ rfl
      simp [bI, Int32.not_le.mpr h1]
    · refine Ev.sn e_X2_fitsAtScale 2 (i' := 41) (ls' := [_, _, _, _, _, _, _, _]) (st' := [_]) rfl ?_
      refine Ev.iret e_X2_fitsAtScale rfl rfl rfl ?_ rfl
      simp [bI, Int32.not_lt.mp h0, Int32.not_lt.mp h1]
set_option maxRecDepth 20000 in
set_option maxHeartbeats 200000 in
theorem c_X2_fitsPerson (d : Nat) (g : Nat → Nat → Int32) (tr : Int64) {n q dn : Nat} (hc : CI n q dn g) {t p : Nat} (ht : t < n) (hp : p < q) : Ev (d + 1) 16 0 [.ref 16, .int (nI t), .int (nI p)] [] (wC g tr) (some (.int (bI (fpB (vC n q dn g) t p)))) (wC g tr) := by
  have hb := hc.b
  rw [show fpB (vC n q dn g) t p = fitB (vC n q dn g) t (g 51 t) (g 52 p) (g 37 p) by
    show fitB (vC n q dn g) t (cut n (g 51) t) (cut q (g 52) p) (cut q (g 37) p) = _
    rw [cut_lt ht, cut_lt hp, cut_lt hp]]
  refine Ev.sn e_X2_fitsPerson 6 (i' := 6) (ls' := [_, _, _]) (st' := [_, _, _, _]) rfl ?_
  refine Ev.ialdE e_X2_fitsPerson rfl rfl rfl rfl rfl (by omega) ?_
  refine Ev.sn e_X2_fitsPerson 4 (i' := 11) (ls' := [_, _, _]) (st' := [_, _, _, _, _]) rfl ?_
  refine Ev.ialdE e_X2_fitsPerson rfl rfl rfl rfl rfl (by omega) ?_
  refine Ev.sn e_X2_fitsPerson 4 (i' := 16) (ls' := [_, _, _]) (st' := [_, _, _, _, _, _]) rfl ?_
  refine Ev.ialdE e_X2_fitsPerson rfl rfl rfl rfl rfl (by omega) ?_
  refine Ev.clV e_X2_fitsPerson rfl rfl (as := [_, _, _, _]) rfl rfl rfl kl_X2_fitsAtScale rfl rfl rfl (c_X2_fitsAtScale _ _ _ hc ht _ _ _) rfl ?_
  refine Ev.iret e_X2_fitsPerson rfl rfl bI_nar ?_ rfl
  rfl
set_option maxRecDepth 20000 in
set_option maxHeartbeats 200000 in
theorem c_X2_fitsStranger (d : Nat) (g : Nat → Nat → Int32) (tr : Int64) {n q dn : Nat} (hc : CI n q dn g) {t : Nat} (ht : t < n) (size sc : Int32) : Ev (d + 1) 17 0 [.ref 16, .int (nI t), .int size, .int sc] [] (wC g tr) (some (.int (bI (fitB (vC n q dn g) t ((vC n q dn g) 1 t) sc size)))) (wC g tr) := by
  have hb := hc.b
  rw [show (vC n q dn g) 1 t = g 51 t from cut_lt ht]
  refine Ev.sn e_X2_fitsStranger 6 (i' := 6) (ls' := [_, _, _, _]) (st' := [_, _, _, _]) rfl ?_
  refine Ev.ialdE e_X2_fitsStranger rfl rfl rfl rfl rfl (by omega) ?_
  refine Ev.sn e_X2_fitsStranger 2 (i' := 9) (ls' := [_, _, _, _]) (st' := [_, _, _, _, _]) rfl ?_
  refine Ev.clV e_X2_fitsStranger rfl rfl (as := [_, _, _, _]) rfl rfl rfl kl_X2_fitsAtScale rfl rfl rfl (c_X2_fitsAtScale _ _ _ hc ht _ _ _) rfl ?_
  refine Ev.iret e_X2_fitsStranger rfl rfl bI_nar ?_ rfl
  rfl
set_option maxRecDepth 20000 in
set_option maxHeartbeats 200000 in
theorem lp_X2_peopleItFits (d : Nat) (g : Nat → Nat → Int32) (tr : Int64) {n q dn : Nat} (hc : CI n q dn g) {t : Nat} (ht : t < n) : ∀ (kk p : Nat) (a : Int32), p + kk = q → Ev (d + 2) 19 4 [.ref 16, .int (nI t), .int a, .int (nI p)] [] (wC g tr) (some (.int (fo (fun p a => if fpB (vC n q dn g) t p = true then a ||| bitI p else a) kk p a))) (wC g tr) := by
  intro kk
  induction kk with
  | zero =>
    intro p a hp
    have hb := hc.b
    refine Ev.sn e_X2_peopleItFits 4 (i' := 8) (ls' := [_, _, _, _]) (st' := [_, _]) rfl ?_
    refine Ev.brT (i1 := 22) (i2 := 9) e_X2_peopleItFits rfl rfl (ge_t hc.hq (by omega) (by omega)) ?_
    refine Ev.sn e_X2_peopleItFits 1 (i' := 23) (ls' := [_, _, _, _]) (st' := [_]) rfl ?_
    refine Ev.iret e_X2_peopleItFits rfl rfl rfl ?_ rfl
    rfl
  | succ kk ih =>
    intro p a hp
    rw [fo_s (k := kk)]
    have hb := hc.b
    refine Ev.sn e_X2_peopleItFits 4 (i' := 8) (ls' := [_, _, _, _]) (st' := [_, _]) rfl ?_
    refine Ev.brF (i1 := 22) (i2 := 9) e_X2_peopleItFits rfl rfl (ge_f hc.hq (by omega) (by omega)) ?_
    refine Ev.sn e_X2_peopleItFits 3 (i' := 12) (ls' := [_, _, _, _]) (st' := [_, _, _]) rfl ?_
    refine Ev.clV e_X2_peopleItFits rfl rfl (as := [_, _]) rfl rfl rfl kl_X2_fitsPerson rfl rfl rfl (c_X2_fitsPerson _ _ _ hc ht (by omega)) rfl ?_
    refine Ev.brB (i1 := 20) (i2 := 14) e_X2_peopleItFits rfl rfl (fun h0 => ?_) (fun h0 => ?_)
    · refine Ev.sn e_X2_peopleItFits 2 (i' := 4) (ls' := [_, _, _, _]) (st' := []) rfl ?_
      refine id (Ev.cg (ih (p + 1) ((fun p a => if fpB (vC n q dn g) t p = true then a ||| bitI p else a) p a) (by omega)) ?_)
      simp [nI_1, bitI, h0]
    · refine Ev.sn e_X2_peopleItFits 8 (i' := 4) (ls' := [_, _, _, _]) (st' := []) rfl ?_
      refine id (Ev.cg (ih (p + 1) ((fun p a => if fpB (vC n q dn g) t p = true then a ||| bitI p else a) p a) (by omega)) ?_)
      simp [nI_1, bitI, h0]
set_option maxRecDepth 20000 in
set_option maxHeartbeats 200000 in
theorem c_X2_peopleItFits (d : Nat) (g : Nat → Nat → Int32) (tr : Int64) {n q dn : Nat} (hc : CI n q dn g) {t : Nat} (ht : t < n) : Ev (d + 2) 19 0 [.ref 16, .int (nI t), .null, .null] [] (wC g tr) (some (.int (PIF q (vC n q dn g) t))) (wC g tr) := by
  have hb := hc.b
  refine Ev.sn e_X2_peopleItFits 4 (i' := 4) (ls' := [_, _, _, _]) (st' := []) rfl ?_
  exact lp_X2_peopleItFits _ _ _ hc ht q 0 0 (by omega)
set_option maxRecDepth 20000 in
set_option maxHeartbeats 200000 in
theorem lp_X2_useless (d : Nat) (g : Nat → Nat → Int32) (tr : Int64) {n q dn : Nat} (hc : CI n q dn g) : ∀ (kk p : Nat) (a : Int32), p + kk = n → Ev (d + 3) 20 4 [.ref 16, .int a, .int (nI p)] [] (wC g tr) (some (.int (fo (fun t a => if PIF q (vC n q dn g) t = 0 then a ||| bitI t else a) kk p a))) (wC g tr) := by
  intro kk
  induction kk with
  | zero =>
    intro p a hp
    have hb := hc.b
    refine Ev.sn e_X2_useless 4 (i' := 8) (ls' := [_, _, _]) (st' := [_, _]) rfl ?_
    refine Ev.brT (i1 := 21) (i2 := 9) e_X2_useless rfl rfl (ge_t hc.hn (by omega) (by omega)) ?_
    refine Ev.sn e_X2_useless 1 (i' := 22) (ls' := [_, _, _]) (st' := [_]) rfl ?_
    refine Ev.iret e_X2_useless rfl rfl rfl ?_ rfl
    rfl
  | succ kk ih =>
    intro p a hp
    rw [fo_s (k := kk)]
    have hb := hc.b
    refine Ev.sn e_X2_useless 4 (i' := 8) (ls' := [_, _, _]) (st' := [_, _]) rfl ?_
    refine Ev.brF (i1 := 21) (i2 := 9) e_X2_useless rfl rfl (ge_f hc.hn (by omega) (by omega)) ?_
    refine Ev.sn e_X2_useless 2 (i' := 11) (ls' := [_, _, _]) (st' := [_, _]) rfl ?_
    refine Ev.clV e_X2_useless rfl rfl (as := [_]) rfl rfl rfl kl_X2_peopleItFits rfl rfl rfl (c_X2_peopleItFits _ _ _ hc (by omega)) rfl ?_
    refine Ev.br (i1 := 13) (i2 := 19) e_X2_useless rfl rfl (fun h0 => ?_) (fun h0 => ?_)
    · refine Ev.sn e_X2_useless 8 (i' := 4) (ls' := [_, _, _]) (st' := []) rfl ?_
      refine id (Ev.cg (ih (p + 1) ((fun t a => if PIF q (vC n q dn g) t = 0 then a ||| bitI t else a) p a) (by omega)) ?_)
      simp [nI_1, bitI, h0]
    · refine Ev.sn e_X2_useless 2 (i' := 4) (ls' := [_, _, _]) (st' := []) rfl ?_
      refine id (Ev.cg (ih (p + 1) ((fun t a => if PIF q (vC n q dn g) t = 0 then a ||| bitI t else a) p a) (by omega)) ?_)
      simp [nI_1, bitI, h0]
set_option maxRecDepth 20000 in
set_option maxHeartbeats 200000 in
theorem c_X2_useless (d : Nat) (g : Nat → Nat → Int32) (tr : Int64) {n q dn : Nat} (hc : CI n q dn g) : Ev (d + 3) 20 0 [.ref 16, .null, .null] [] (wC g tr) (some (.int (ULS n q (vC n q dn g)))) (wC g tr) := by
  have hb := hc.b
  refine Ev.sn e_X2_useless 4 (i' := 4) (ls' := [_, _, _]) (st' := []) rfl ?_
  exact lp_X2_useless _ _ _ hc n 0 0 (by omega)
set_option maxRecDepth 20000 in
set_option maxHeartbeats 200000 in
theorem lp_X2_bareOf (d : Nat) (g : Nat → Nat → Int32) (tr : Int64) {n q dn : Nat} (hc : CI n q dn g) (u : Int32) : ∀ (kk p : Nat) (a : Int32), p + kk = n → Ev (d + 3) 21 10 [.ref 16, .int u, .int a, .int (nI p)] [] (wC g tr) (some (.int (fo (fun t a => if (vC n q dn g) 0 t = u then a &&& (PIF q (vC n q dn g) t ^^^ (-1)) else a) kk p a))) (wC g tr) := by
  intro kk
  induction kk with
  | zero =>
    intro p a hp
    have hb := hc.b
    refine Ev.sn e_X2_bareOf 4 (i' := 14) (ls' := [_, _, _, _]) (st' := [_, _]) rfl ?_
    refine Ev.brT (i1 := 32) (i2 := 15) e_X2_bareOf rfl rfl (ge_t hc.hn (by omega) (by omega)) ?_
    refine Ev.sn e_X2_bareOf 1 (i' := 33) (ls' := [_, _, _, _]) (st' := [_]) rfl ?_
    refine Ev.iret e_X2_bareOf rfl rfl rfl ?_ rfl
    rfl
  | succ kk ih =>
    intro p a hp
    rw [fo_s (k := kk)]
    have hb := hc.b
    have hv : (vC n q dn g) 0 p = g 32 p := cut_lt (by omega)
    refine Ev.sn e_X2_bareOf 4 (i' := 14) (ls' := [_, _, _, _]) (st' := [_, _]) rfl ?_
    refine Ev.brF (i1 := 32) (i2 := 15) e_X2_bareOf rfl rfl (ge_f hc.hn (by omega) (by omega)) ?_
    refine Ev.sn e_X2_bareOf 4 (i' := 19) (ls' := [_, _, _, _]) (st' := [_, _]) rfl ?_
    refine Ev.ialdE e_X2_bareOf rfl rfl rfl rfl rfl (by omega) ?_
    refine Ev.sn e_X2_bareOf 1 (i' := 21) (ls' := [_, _, _, _]) (st' := [_, _]) rfl ?_
    refine Ev.br (i1 := 22) (i2 := 30) e_X2_bareOf rfl rfl (fun h0 => ?_) (fun h0 => ?_)
    · refine Ev.sn e_X2_bareOf 3 (i' := 25) (ls' := [_, _, _, _]) (st' := [_, _, _]) rfl ?_
      refine Ev.clV e_X2_bareOf rfl rfl (as := [_]) rfl rfl rfl kl_X2_peopleItFits rfl rfl rfl (c_X2_peopleItFits _ _ _ hc (by omega)) rfl ?_
      refine Ev.sn e_X2_bareOf 6 (i' := 10) (ls' := [_, _, _, _]) (st' := []) rfl ?_
      refine id (Ev.cg (ih (p + 1) ((fun t a => if (vC n q dn g) 0 t = u then a &&& (PIF q (vC n q dn g) t ^^^ (-1)) else a) p a) (by omega)) ?_)
      simp [nI_1, hv, h0]
    · refine Ev.sn e_X2_bareOf 2 (i' := 10) (ls' := [_, _, _, _]) (st' := []) rfl ?_
      refine id (Ev.cg (ih (p + 1) ((fun t a => if (vC n q dn g) 0 t = u then a &&& (PIF q (vC n q dn g) t ^^^ (-1)) else a) p a) (by omega)) ?_)
      simp [nI_1, hv, h0]
set_option maxRecDepth 20000 in
set_option maxHeartbeats 200000 in
theorem c_X2_bareOf (d : Nat) (g : Nat → Nat → Int32) (tr : Int64) {n q dn : Nat} (hc : CI n q dn g) (u : Int32) : Ev (d + 3) 21 0 [.ref 16, .int u, .null, .null] [] (wC g tr) (some (.int (BAR n q (vC n q dn g) u))) (wC g tr) := by
  have hb := hc.b
  refine Ev.sn e_X2_bareOf 10 (i' := 10) (ls' := [_, _, _, _]) (st' := []) rfl ?_
  rw [hc.hq]
  exact lp_X2_bareOf _ _ _ hc _ n 0 _ (by omega)
set_option maxRecDepth 20000 in
set_option maxHeartbeats 200000 in
theorem lp_X2_thingsOf (d : Nat) (g : Nat → Nat → Int32) (tr : Int64) {n q dn : Nat} (hc : CI n q dn g) (x : Int32) : ∀ (kk p : Nat) (a : Int32), p + kk = n → Ev d 22 4 [.ref 16, .int x, .int a, .int (nI p)] [] (wC g tr) (some (.int (fo (fun t a => if (vC n q dn g) 12 t = x then a ||| bitI t else a) kk p a))) (wC g tr) := by
  intro kk
  induction kk with
  | zero =>
    intro p a hp
    have hb := hc.b
    refine Ev.sn e_X2_thingsOf 4 (i' := 8) (ls' := [_, _, _, _]) (st' := [_, _]) rfl ?_
    refine Ev.brT (i1 := 24) (i2 := 9) e_X2_thingsOf rfl rfl (ge_t hc.hn (by omega) (by omega)) ?_
    refine Ev.sn e_X2_thingsOf 1 (i' := 25) (ls' := [_, _, _, _]) (st' := [_]) rfl ?_
    refine Ev.iret e_X2_thingsOf rfl rfl rfl ?_ rfl
    rfl
  | succ kk ih =>
    intro p a hp
    rw [fo_s (k := kk)]
    have hb := hc.b
    have hv : (vC n q dn g) 12 p = g 50 p := cut_lt (by omega)
    refine Ev.sn e_X2_thingsOf 4 (i' := 8) (ls' := [_, _, _, _]) (st' := [_, _]) rfl ?_
    refine Ev.brF (i1 := 24) (i2 := 9) e_X2_thingsOf rfl rfl (ge_f hc.hn (by omega) (by omega)) ?_
    refine Ev.sn e_X2_thingsOf 4 (i' := 13) (ls' := [_, _, _, _]) (st' := [_, _]) rfl ?_
    refine Ev.ialdE e_X2_thingsOf rfl rfl rfl rfl rfl (by omega) ?_
    refine Ev.sn e_X2_thingsOf 1 (i' := 15) (ls' := [_, _, _, _]) (st' := [_, _]) rfl ?_
    refine Ev.br (i1 := 16) (i2 := 22) e_X2_thingsOf rfl rfl (fun h0 => ?_) (fun h0 => ?_)
    · refine Ev.sn e_X2_thingsOf 8 (i' := 4) (ls' := [_, _, _, _]) (st' := []) rfl ?_
      refine id (Ev.cg (ih (p + 1) ((fun t a => if (vC n q dn g) 12 t = x then a ||| bitI t else a) p a) (by omega)) ?_)
      simp [nI_1, hv, bitI, h0]
    · refine Ev.sn e_X2_thingsOf 2 (i' := 4) (ls' := [_, _, _, _]) (st' := []) rfl ?_
      refine id (Ev.cg (ih (p + 1) ((fun t a => if (vC n q dn g) 12 t = x then a ||| bitI t else a) p a) (by omega)) ?_)
      simp [nI_1, hv, bitI, h0]
set_option maxRecDepth 20000 in
set_option maxHeartbeats 200000 in
theorem c_X2_thingsOf (d : Nat) (g : Nat → Nat → Int32) (tr : Int64) {n q dn : Nat} (hc : CI n q dn g) (x : Int32) : Ev d 22 0 [.ref 16, .int x, .null, .null] [] (wC g tr) (some (.int (TOF n (vC n q dn g) x))) (wC g tr) := by
  have hb := hc.b
  refine Ev.sn e_X2_thingsOf 4 (i' := 4) (ls' := [_, _, _, _]) (st' := []) rfl ?_
  exact lp_X2_thingsOf _ _ _ hc _ n 0 0 (by omega)
set_option maxRecDepth 20000 in
set_option maxHeartbeats 200000 in
theorem lp_X2_ownedThings (d : Nat) (g : Nat → Nat → Int32) (tr : Int64) {n q dn : Nat} (hc : CI n q dn g) : ∀ (kk p : Nat) (a : Int32), p + kk = n → Ev d 23 4 [.ref 16, .int a, .int (nI p)] [] (wC g tr) (some (.int (fo (fun t a => if (vC n q dn g) 12 t = -9 then a else a ||| bitI t) kk p a))) (wC g tr) := by
  intro kk
  induction kk with
  | zero =>
    intro p a hp
    have hb := hc.b
    refine Ev.sn e_X2_ownedThings 4 (i' := 8) (ls' := [_, _, _]) (st' := [_, _]) rfl ?_
    refine Ev.brT (i1 := 24) (i2 := 9) e_X2_ownedThings rfl rfl (ge_t hc.hn (by omega) (by omega)) ?_
    refine Ev.sn e_X2_ownedThings 1 (i' := 25) (ls' := [_, _, _]) (st' := [_]) rfl ?_
    refine Ev.iret e_X2_ownedThings rfl rfl rfl ?_ rfl
    rfl
  | succ kk ih =>
    intro p a hp
    rw [fo_s (k := kk)]
    have hb := hc.b
    have hv : (vC n q dn g) 12 p = g 50 p := cut_lt (by omega)
    refine Ev.sn e_X2_ownedThings 4 (i' := 8) (ls' := [_, _, _]) (st' := [_, _]) rfl ?_
    refine Ev.brF (i1 := 24) (i2 := 9) e_X2_ownedThings rfl rfl (ge_f hc.hn (by omega) (by omega)) ?_
    refine Ev.sn e_X2_ownedThings 4 (i' := 13) (ls' := [_, _, _]) (st' := [_, _]) rfl ?_
    refine Ev.ialdE e_X2_ownedThings rfl rfl rfl rfl rfl (by omega) ?_
    refine Ev.sn e_X2_ownedThings 1 (i' := 15) (ls' := [_, _, _]) (st' := [_, _]) rfl ?_
    refine Ev.br (i1 := 22) (i2 := 16) e_X2_ownedThings rfl rfl (fun h0 => ?_) (fun h0 => ?_)
    · refine Ev.sn e_X2_ownedThings 2 (i' := 4) (ls' := [_, _, _]) (st' := []) rfl ?_
      refine id (Ev.cg (ih (p + 1) ((fun t a => if (vC n q dn g) 12 t = -9 then a else a ||| bitI t) p a) (by omega)) ?_)
      simp [nI_1, hv, bitI, h0]
    · refine Ev.sn e_X2_ownedThings 8 (i' := 4) (ls' := [_, _, _]) (st' := []) rfl ?_
      refine id (Ev.cg (ih (p + 1) ((fun t a => if (vC n q dn g) 12 t = -9 then a else a ||| bitI t) p a) (by omega)) ?_)
      simp [nI_1, hv, bitI, h0]
set_option maxRecDepth 20000 in
set_option maxHeartbeats 200000 in
theorem c_X2_ownedThings (d : Nat) (g : Nat → Nat → Int32) (tr : Int64) {n q dn : Nat} (hc : CI n q dn g) : Ev d 23 0 [.ref 16, .null, .null] [] (wC g tr) (some (.int (OWN n (vC n q dn g)))) (wC g tr) := by
  have hb := hc.b
  refine Ev.sn e_X2_ownedThings 4 (i' := 4) (ls' := [_, _, _]) (st' := []) rfl ?_
  exact lp_X2_ownedThings _ _ _ hc n 0 0 (by omega)
set_option maxRecDepth 20000 in
set_option maxHeartbeats 200000 in
theorem lp_X2_thingsFitting (d : Nat) (g : Nat → Nat → Int32) (tr : Int64) {n q dn : Nat} (hc : CI n q dn g) (size sc : Int32) : ∀ (kk p : Nat) (a : Int32), p + kk = n → Ev (d + 2) 28 4 [.ref 16, .int size, .int sc, .int a, .int (nI p)] [] (wC g tr) (some (.int (fo (fun t a => if fitB (vC n q dn g) t ((vC n q dn g) 1 t) sc size = true then a + 1 else a) kk p a))) (wC g tr) := by
  intro kk
  induction kk with
  | zero =>
    intro p a hp
    have hb := hc.b
    refine Ev.sn e_X2_thingsFitting 4 (i' := 8) (ls' := [_, _, _, _, _]) (st' := [_, _]) rfl ?_
    refine Ev.brT (i1 := 18) (i2 := 9) e_X2_thingsFitting rfl rfl (ge_t hc.hn (by omega) (by omega)) ?_
    refine Ev.sn e_X2_thingsFitting 1 (i' := 19) (ls' := [_, _, _, _, _]) (st' := [_]) rfl ?_
    refine Ev.iret e_X2_thingsFitting rfl rfl rfl ?_ rfl
    rfl
  | succ kk ih =>
    intro p a hp
    rw [fo_s (k := kk)]
    have hb := hc.b
    refine Ev.sn e_X2_thingsFitting 4 (i' := 8) (ls' := [_, _, _, _, _]) (st' := [_, _]) rfl ?_
    refine Ev.brF (i1 := 18) (i2 := 9) e_X2_thingsFitting rfl rfl (ge_f hc.hn (by omega) (by omega)) ?_
    refine Ev.sn e_X2_thingsFitting 4 (i' := 13) (ls' := [_, _, _, _, _]) (st' := [_, _, _, _]) rfl ?_
    refine Ev.clV e_X2_thingsFitting rfl rfl (as := [_, _, _]) rfl rfl rfl kl_X2_fitsStranger rfl rfl rfl (c_X2_fitsStranger _ _ _ hc (by omega) _ _) rfl ?_
    refine Ev.brB (i1 := 16) (i2 := 15) e_X2_thingsFitting rfl rfl (fun h0 => ?_) (fun h0 => ?_)
    · refine Ev.sn e_X2_thingsFitting 2 (i' := 4) (ls' := [_, _, _, _, _]) (st' := []) rfl ?_
      refine id (Ev.cg (ih (p + 1) ((fun t a => if fitB (vC n q dn g) t ((vC n q dn g) 1 t) sc size = true then a + 1 else a) p a) (by omega)) ?_)
      simp [nI_1, h0]
    · refine Ev.sn e_X2_thingsFitting 3 (i' := 4) (ls' := [_, _, _, _, _]) (st' := []) rfl ?_
      refine id (Ev.cg (ih (p + 1) ((fun t a => if fitB (vC n q dn g) t ((vC n q dn g) 1 t) sc size = true then a + 1 else a) p a) (by omega)) ?_)
      simp [nI_1, h0]
set_option maxRecDepth 20000 in
set_option maxHeartbeats 200000 in
theorem c_X2_thingsFitting (d : Nat) (g : Nat → Nat → Int32) (tr : Int64) {n q dn : Nat} (hc : CI n q dn g) (size sc : Int32) : Ev (d + 2) 28 0 [.ref 16, .int size, .int sc, .null, .null] [] (wC g tr) (some (.int (THF n (vC n q dn g) size sc))) (wC g tr) := by
  have hb := hc.b
  refine Ev.sn e_X2_thingsFitting 4 (i' := 4) (ls' := [_, _, _, _, _]) (st' := []) rfl ?_
  exact lp_X2_thingsFitting _ _ _ hc _ _ n 0 0 (by omega)
set_option maxRecDepth 20000 in
set_option maxHeartbeats 200000 in
theorem lp_X2_chairs (d : Nat) (g : Nat → Nat → Int32) (tr : Int64) {n q dn : Nat} (hc : CI n q dn g) : ∀ (kk p : Nat) (a : Int32), p + kk = n → Ev d 30 4 [.ref 16, .int a, .int (nI p)] [] (wC g tr) (some (.int (fo (fun t a => if (vC n q dn g) 0 t = 0 then a + 1 else a) kk p a))) (wC g tr) := by
  intro kk
  induction kk with
  | zero =>
    intro p a hp
    have hb := hc.b
    refine Ev.sn e_X2_chairs 4 (i' := 8) (ls' := [_, _, _]) (st' := [_, _]) rfl ?_
    refine Ev.brT (i1 := 18) (i2 := 9) e_X2_chairs rfl rfl (ge_t hc.hn (by omega) (by omega)) ?_
    refine Ev.sn e_X2_chairs 1 (i' := 19) (ls' := [_, _, _]) (st' := [_]) rfl ?_
    refine Ev.iret e_X2_chairs rfl rfl rfl ?_ rfl
    rfl
  | succ kk ih =>
    intro p a hp
    rw [fo_s (k := kk)]
    have hb := hc.b
    have hv : (vC n q dn g) 0 p = g 32 p := cut_lt (by omega)
    refine Ev.sn e_X2_chairs 4 (i' := 8) (ls' := [_, _, _]) (st' := [_, _]) rfl ?_
    refine Ev.brF (i1 := 18) (i2 := 9) e_X2_chairs rfl rfl (ge_f hc.hn (by omega) (by omega)) ?_
    refine Ev.sn e_X2_chairs 4 (i' := 13) (ls' := [_, _, _]) (st' := [_, _]) rfl ?_
    refine Ev.ialdE e_X2_chairs rfl rfl rfl rfl rfl (by omega) ?_
    refine Ev.br (i1 := 15) (i2 := 16) e_X2_chairs rfl rfl (fun h0 => ?_) (fun h0 => ?_)
    · refine Ev.sn e_X2_chairs 3 (i' := 4) (ls' := [_, _, _]) (st' := []) rfl ?_
      refine id (Ev.cg (ih (p + 1) ((fun t a => if (vC n q dn g) 0 t = 0 then a + 1 else a) p a) (by omega)) ?_)
      simp [nI_1, hv, h0]
    · refine Ev.sn e_X2_chairs 2 (i' := 4) (ls' := [_, _, _]) (st' := []) rfl ?_
      refine id (Ev.cg (ih (p + 1) ((fun t a => if (vC n q dn g) 0 t = 0 then a + 1 else a) p a) (by omega)) ?_)
      simp [nI_1, hv, h0]
set_option maxRecDepth 20000 in
set_option maxHeartbeats 200000 in
theorem c_X2_chairs (d : Nat) (g : Nat → Nat → Int32) (tr : Int64) {n q dn : Nat} (hc : CI n q dn g) : Ev d 30 0 [.ref 16, .null, .null] [] (wC g tr) (some (.int (CHR n (vC n q dn g)))) (wC g tr) := by
  have hb := hc.b
  refine Ev.sn e_X2_chairs 4 (i' := 4) (ls' := [_, _, _]) (st' := []) rfl ?_
  exact lp_X2_chairs _ _ _ hc n 0 0 (by omega)
set_option maxRecDepth 20000 in
set_option maxHeartbeats 200000 in
theorem lp_X2_smallerThan (d : Nat) (g : Nat → Nat → Int32) (tr : Int64) {n q dn : Nat} (hc : CI n q dn g) {x : Nat} (hx : x < q) : ∀ (kk p : Nat) (a : Int32), p + kk = q → Ev d 29 4 [.ref 16, .int (nI x), .int a, .int (nI p), .null] [] (wC g tr) (some (.int (fo (fun e a => if (vC n q dn g) 5 e * (vC n q dn g) 4 x < (vC n q dn g) 5 x * (vC n q dn g) 4 e then a + 1 else a) kk p a))) (wC g tr) := by
  intro kk
  induction kk with
  | zero =>
    intro p a hp
    have hb := hc.b
    refine Ev.sn e_X2_smallerThan 4 (i' := 8) (ls' := [_, _, _, _, _]) (st' := [_, _]) rfl ?_
    refine Ev.brT (i1 := 37) (i2 := 9) e_X2_smallerThan rfl rfl (ge_t hc.hq (by omega) (by omega)) ?_
    refine Ev.sn e_X2_smallerThan 1 (i' := 38) (ls' := [_, _, _, _, _]) (st' := [_]) rfl ?_
    refine Ev.iret e_X2_smallerThan rfl rfl rfl ?_ rfl
    rfl
  | succ kk ih =>
    intro p a hp
    rw [fo_s (k := kk)]
    have hb := hc.b
    have hv1 : (vC n q dn g) 5 p = g 37 p := cut_lt (by omega)
    have hv2 : (vC n q dn g) 4 p = g 52 p := cut_lt (by omega)
    have hv3 : (vC n q dn g) 5 x = g 37 x := cut_lt hx
    have hv4 : (vC n q dn g) 4 x = g 52 x := cut_lt hx
    refine Ev.sn e_X2_smallerThan 4 (i' := 8) (ls' := [_, _, _, _, _]) (st' := [_, _]) rfl ?_
    refine Ev.brF (i1 := 37) (i2 := 9) e_X2_smallerThan rfl rfl (ge_f hc.hq (by omega) (by omega)) ?_
    refine Ev.sn e_X2_smallerThan 4 (i' := 13) (ls' := [_, _, _, _, _]) (st' := [_, _]) rfl ?_
    refine Ev.ialdE e_X2_smallerThan rfl rfl rfl rfl rfl (by omega) ?_
    refine Ev.sn e_X2_smallerThan 4 (i' := 18) (ls' := [_, _, _, _, _]) (st' := [_, _, _]) rfl ?_
    refine Ev.ialdE e_X2_smallerThan rfl rfl rfl rfl rfl (by omega) ?_
    refine Ev.sn e_X2_smallerThan 7 (i' := 26) (ls' := [_, _, _, _, _]) (st' := [_, _, _]) rfl ?_
    refine Ev.ialdE e_X2_smallerThan rfl rfl rfl rfl rfl (by omega) ?_
    refine Ev.sn e_X2_smallerThan 4 (i' := 31) (ls' := [_, _, _, _, _]) (st' := [_, _, _, _]) rfl ?_
    refine Ev.ialdE e_X2_smallerThan rfl rfl rfl rfl rfl (by omega) ?_
    refine Ev.sn e_X2_smallerThan 1 (i' := 33) (ls' := [_, _, _, _, _]) (st' := [_, _]) rfl ?_
    refine Ev.br (i1 := 35) (i2 := 34) e_X2_smallerThan rfl rfl (fun h0 => ?_) (fun h0 => ?_)
    · refine Ev.sn e_X2_smallerThan 2 (i' := 4) (ls' := [_, _, _, _, _]) (st' := []) rfl ?_
      refine Ev.weak (lle_c (lle_c (lle_c (lle_c (lle_n lle_0))))) (Ev.cg (ih (p + 1) ((fun e a => if (vC n q dn g) 5 e * (vC n q dn g) 4 x < (vC n q dn g) 5 x * (vC n q dn g) 4 e then a + 1 else a) p a) (by omega)) ?_)
      simp [nI_1, hv1, hv2, hv3, hv4, ← Int32.not_le, h0]
    · refine Ev.sn e_X2_smallerThan 3 (i' := 4) (ls' := [_, _, _, _, _]) (st' := []) rfl ?_
      refine Ev.weak (lle_c (lle_c (lle_c (lle_c (lle_n lle_0))))) (Ev.cg (ih (p + 1) ((fun e a => if (vC n q dn g) 5 e * (vC n q dn g) 4 x < (vC n q dn g) 5 x * (vC n q dn g) 4 e then a + 1 else a) p a) (by omega)) ?_)
      simp [nI_1, hv1, hv2, hv3, hv4, ← Int32.not_le, h0]
set_option maxRecDepth 20000 in
set_option maxHeartbeats 200000 in
theorem c_X2_smallerThan (d : Nat) (g : Nat → Nat → Int32) (tr : Int64) {n q dn : Nat} (hc : CI n q dn g) {x : Nat} (hx : x < q) : Ev d 29 0 [.ref 16, .int (nI x), .null, .null, .null] [] (wC g tr) (some (.int (SMT q (vC n q dn g) x))) (wC g tr) := by
  have hb := hc.b
  refine Ev.sn e_X2_smallerThan 4 (i' := 4) (ls' := [_, _, _, _, _]) (st' := []) rfl ?_
  exact lp_X2_smallerThan _ _ _ hc hx q 0 0 (by omega)
set_option maxRecDepth 20000 in
set_option maxHeartbeats 200000 in
theorem lp_X2_commonScale (d : Nat) (g : Nat → Nat → Int32) (tr : Int64) {n q dn : Nat} (hc : CI n q dn g) : ∀ (kk p : Nat) (a : Int64), p + kk = q → Ev d 31 4 [.ref 16, .long a, .null, .int (nI p)] [] (wC g tr) (some (.long (fo (fun p a => a * ((vC n q dn g) 4 p).toInt64) kk p a))) (wC g tr) := by
  intro kk
  induction kk with
  | zero =>
    intro p a hp
    have hb := hc.b
    refine Ev.sn e_X2_commonScale 4 (i' := 8) (ls' := [_, _, _, _]) (st' := [_, _]) rfl ?_
    refine Ev.brT (i1 := 20) (i2 := 9) e_X2_commonScale rfl rfl (ge_t hc.hq (by omega) (by omega)) ?_
    refine Ev.sn e_X2_commonScale 1 (i' := 21) (ls' := [_, _, _, _]) (st' := [_]) rfl ?_
    refine Ev.lret e_X2_commonScale rfl rfl ?_ rfl
    rfl
  | succ kk ih =>
    intro p a hp
    rw [fo_s (k := kk)]
    have hb := hc.b
    have hv : (vC n q dn g) 4 p = g 52 p := cut_lt (by omega)
    refine Ev.sn e_X2_commonScale 4 (i' := 8) (ls' := [_, _, _, _]) (st' := [_, _]) rfl ?_
    refine Ev.brF (i1 := 20) (i2 := 9) e_X2_commonScale rfl rfl (ge_f hc.hq (by omega) (by omega)) ?_
    refine Ev.sn e_X2_commonScale 5 (i' := 14) (ls' := [_, _, _, _]) (st' := [_, _, _]) rfl ?_
    refine Ev.ialdE e_X2_commonScale rfl rfl rfl rfl rfl (by omega) ?_
    refine Ev.sn e_X2_commonScale 5 (i' := 4) (ls' := [_, _, _, _]) (st' := []) rfl ?_
    refine Ev.weak (lle_c (lle_c (lle_n (lle_c lle_0)))) (Ev.cg (ih (p + 1) ((fun p a => a * ((vC n q dn g) 4 p).toInt64) p a) (by omega)) ?_)
    simp [nI_1, hv]
set_option maxRecDepth 20000 in
set_option maxHeartbeats 200000 in
theorem c_X2_commonScale (d : Nat) (g : Nat → Nat → Int32) (tr : Int64) {n q dn : Nat} (hc : CI n q dn g) : Ev d 31 0 [.ref 16, .null, .null, .null] [] (wC g tr) (some (.long (COM q (vC n q dn g)))) (wC g tr) := by
  have hb := hc.b
  refine Ev.sn e_X2_commonScale 4 (i' := 4) (ls' := [_, _, _, _]) (st' := []) rfl ?_
  exact lp_X2_commonScale _ _ _ hc q 0 1 (by omega)
set_option maxRecDepth 20000 in
set_option maxHeartbeats 200000 in
theorem c_X2_heightOf (d : Nat) (g : Nat → Nat → Int32) (tr : Int64) {n q dn : Nat} (hc : CI n q dn g) {p : Nat} (hp : p < q) (unit : Int64) : Ev d 32 0 [.ref 16, .int (nI p), .long unit, .null, .null] [] (wC g tr) (some (.long (HGT (vC n q dn g) p unit))) (wC g tr) := by
  have hb := hc.b
  rw [show HGT (vC n q dn g) p unit = if g 52 p = 0 then 0 else (g 37 p).toInt64 * (unit / (g 52 p).toInt64) by
    unfold HGT
    rw [show (vC n q dn g) 4 p = g 52 p from cut_lt hp, show (vC n q dn g) 5 p = g 37 p from cut_lt hp]]
  have hz : ∀ {x : Int32}, ¬ x = 0 → ¬ x.toInt64 = 0 := fun {x} h e => h (by
    have h2 := congrArg Int64.toInt e
    rw [Int32.toInt_toInt64] at h2
    exact Int32.toInt_inj.mp h2)
  refine Ev.sn e_X2_heightOf 4 (i' := 4) (ls' := [_, _, _, _, _]) (st' := [_, _]) rfl ?_
  refine Ev.ialdE e_X2_heightOf rfl rfl rfl rfl rfl (by omega) ?_
  refine Ev.sn e_X2_heightOf 2 (i' := 7) (ls' := [_, _, _, _, _]) (st' := [_]) rfl ?_
  refine Ev.br (i1 := 8) (i2 := 10) e_X2_heightOf rfl rfl (fun h0 => ?_) (fun h0 => ?_)
  · refine Ev.sn e_X2_heightOf 2 (i' := 21) (ls' := [_, _, _, _, _]) (st' := [_]) rfl ?_
    refine Ev.lret e_X2_heightOf rfl rfl ?_ rfl
    simp [h0]
  · refine Ev.sn e_X2_heightOf 4 (i' := 14) (ls' := [_, _, _, _, _]) (st' := [_, _]) rfl ?_
    refine Ev.ialdE e_X2_heightOf rfl rfl rfl rfl rfl (by omega) ?_
    refine Ev.sn e_X2_heightOf 4 (i' := 19) (ls' := [_, _, _, _, _]) (st' := [_, _, _]) rfl ?_
    refine Ev.ldiv e_X2_heightOf rfl rfl (hz h0) ?_
    refine Ev.sn e_X2_heightOf 1 (i' := 21) (ls' := [_, _, _, _, _]) (st' := [_]) rfl ?_
    refine Ev.lret e_X2_heightOf rfl rfl ?_ rfl
    simp [h0]
set_option maxRecDepth 20000 in
set_option maxHeartbeats 200000 in
theorem lp_X2_heightOfAll (d : Nat) (g : Nat → Nat → Int32) (tr : Int64) {n q dn : Nat} (hc : CI n q dn g) (unit : Int64) : ∀ (kk p : Nat) (a : Int64), p + kk = q → Ev (d + 1) 33 4 [.ref 16, .long unit, .null, .long a, .null, .int (nI p)] [] (wC g tr) (some (.long (fo (fun p a => a + HGT (vC n q dn g) p unit) kk p a))) (wC g tr) := by
  intro kk
  induction kk with
  | zero =>
    intro p a hp
    have hb := hc.b
    refine Ev.sn e_X2_heightOfAll 4 (i' := 8) (ls' := [_, _, _, _, _, _]) (st' := [_, _]) rfl ?_
    refine Ev.brT (i1 := 18) (i2 := 9) e_X2_heightOfAll rfl rfl (ge_t hc.hq (by omega) (by omega)) ?_
    refine Ev.sn e_X2_heightOfAll 1 (i' := 19) (ls' := [_, _, _, _, _, _]) (st' := [_]) rfl ?_
    refine Ev.lret e_X2_heightOfAll rfl rfl ?_ rfl
    rfl
  | succ kk ih =>
    intro p a hp
    rw [fo_s (k := kk)]
    have hb := hc.b
    refine Ev.sn e_X2_heightOfAll 4 (i' := 8) (ls' := [_, _, _, _, _, _]) (st' := [_, _]) rfl ?_
    refine Ev.brF (i1 := 18) (i2 := 9) e_X2_heightOfAll rfl rfl (ge_f hc.hq (by omega) (by omega)) ?_
    refine Ev.sn e_X2_heightOfAll 4 (i' := 13) (ls' := [_, _, _, _, _, _]) (st' := [_, _, _, _]) rfl ?_
    refine Ev.clV e_X2_heightOfAll rfl rfl (as := [_, _]) rfl rfl rfl kl_X2_heightOf rfl rfl rfl (c_X2_heightOf _ _ _ hc (by omega) _) rfl ?_
    refine Ev.sn e_X2_heightOfAll 4 (i' := 4) (ls' := [_, _, _, _, _, _]) (st' := []) rfl ?_
    refine Ev.weak (lle_c (lle_c (lle_n (lle_c (lle_n (lle_c lle_0)))))) (Ev.cg (ih (p + 1) ((fun p a => a + HGT (vC n q dn g) p unit) p a) (by omega)) ?_)
    simp [nI_1]
set_option maxRecDepth 20000 in
set_option maxHeartbeats 200000 in
theorem c_X2_heightOfAll (d : Nat) (g : Nat → Nat → Int32) (tr : Int64) {n q dn : Nat} (hc : CI n q dn g) (unit : Int64) : Ev (d + 1) 33 0 [.ref 16, .long unit, .null, .null, .null, .null] [] (wC g tr) (some (.long (HGA q (vC n q dn g) unit))) (wC g tr) := by
  have hb := hc.b
  refine Ev.sn e_X2_heightOfAll 4 (i' := 4) (ls' := [_, _, _, _, _, _]) (st' := []) rfl ?_
  exact lp_X2_heightOfAll _ _ _ hc _ q 0 0 (by omega)
set_option maxRecDepth 20000 in
set_option maxHeartbeats 200000 in
theorem lp_X2_hasOneOf (d : Nat) (g : Nat → Nat → Int32) (tr : Int64) {n q dn : Nat} (hc : CI n q dn g) (x u : Int32) : ∀ (k p : Nat), p + k = n → Ev d 25 2 [.ref 16, .int x, .int u, .int (nI p)] [] (wC g tr) (some (.int (bI (anyN (fun t => decide ((vC n q dn g) 12 t = x) && decide ((vC n q dn g) 0 t = u)) k p)))) (wC g tr) := by
  intro k
  induction k with
  | zero =>
    intro p hp
    have hb := hc.b
    refine Ev.sn e_X2_hasOneOf 4 (i' := 6) (ls' := [_, _, _, _]) (st' := [_, _]) rfl ?_
    refine Ev.brT (i1 := 25) (i2 := 7) e_X2_hasOneOf rfl rfl (ge_t hc.hn (by omega) (by omega)) ?_
    refine Ev.sn e_X2_hasOneOf 1 (i' := 26) (ls' := [_, _, _, _]) (st' := [_]) rfl ?_
    refine Ev.iret e_X2_hasOneOf rfl rfl rfl ?_ rfl
    rfl
  | succ k ih =>
    intro p hp
    have hb := hc.b
    have hv : (vC n q dn g) 12 p = g 50 p := cut_lt (by omega)
    have hv2 : (vC n q dn g) 0 p = g 32 p := cut_lt (by omega)
    show Ev _ _ _ _ _ _ (some (.int (bI (if (decide ((vC n q dn g) 12 p = x) && decide ((vC n q dn g) 0 p = u)) = true then true else anyN (fun t => decide ((vC n q dn g) 12 t = x) && decide ((vC n q dn g) 0 t = u)) k (p + 1))))) _
    rw [hv, hv2]
    refine Ev.sn e_X2_hasOneOf 4 (i' := 6) (ls' := [_, _, _, _]) (st' := [_, _]) rfl ?_
    refine Ev.brF (i1 := 25) (i2 := 7) e_X2_hasOneOf rfl rfl (ge_f hc.hn (by omega) (by omega)) ?_
    refine Ev.sn e_X2_hasOneOf 4 (i' := 11) (ls' := [_, _, _, _]) (st' := [_, _]) rfl ?_
    refine Ev.ialdE e_X2_hasOneOf rfl rfl rfl rfl rfl (by omega) ?_
    refine Ev.sn e_X2_hasOneOf 1 (i' := 13) (ls' := [_, _, _, _]) (st' := [_, _]) rfl ?_
    refine Ev.br (i1 := 14) (i2 := 23) e_X2_hasOneOf rfl rfl (fun h0 => ?_) (fun h0 => ?_)
    · refine Ev.sn e_X2_hasOneOf 4 (i' := 18) (ls' := [_, _, _, _]) (st' := [_, _]) rfl ?_
      refine Ev.ialdE e_X2_hasOneOf rfl rfl rfl rfl rfl (by omega) ?_
      refine Ev.sn e_X2_hasOneOf 1 (i' := 20) (ls' := [_, _, _, _]) (st' := [_, _]) rfl ?_
      refine Ev.br (i1 := 21) (i2 := 23) e_X2_hasOneOf rfl rfl (fun h1 => ?_) (fun h1 => ?_)
      · refine Ev.sn e_X2_hasOneOf 1 (i' := 22) (ls' := [_, _, _, _]) (st' := [_]) rfl ?_
        refine Ev.iret e_X2_hasOneOf rfl rfl rfl ?_ rfl
        simp [h0, h1, bI]
      · refine Ev.sn e_X2_hasOneOf 2 (i' := 2) (ls' := [_, _, _, _]) (st' := []) rfl ?_
        rw [nI_1]
        have := ih (p + 1) (by omega)
        simpa [h0, h1] using this
    · refine Ev.sn e_X2_hasOneOf 2 (i' := 2) (ls' := [_, _, _, _]) (st' := []) rfl ?_
      rw [nI_1]
      have := ih (p + 1) (by omega)
      simpa [h0] using this
set_option maxRecDepth 20000 in
set_option maxHeartbeats 200000 in
theorem c_X2_hasOneOf (d : Nat) (g : Nat → Nat → Int32) (tr : Int64) {n q dn : Nat} (hc : CI n q dn g) (x u : Int32) : Ev d 25 0 [.ref 16, .int x, .int u, .null] [] (wC g tr) (some (.int (bI (HOO n (vC n q dn g) x u)))) (wC g tr) := by
  have hb := hc.b
  refine Ev.sn e_X2_hasOneOf 2 (i' := 2) (ls' := [_, _, _, _]) (st' := []) rfl ?_
  exact lp_X2_hasOneOf _ _ _ hc _ _ n 0 (by omega)
set_option maxRecDepth 20000 in
set_option maxHeartbeats 200000 in
theorem c_X2_canLay (d : Nat) (g : Nat → Nat → Int32) (tr : Int64) {n q dn : Nat} (hc : CI n q dn g) {t p : Nat} (ht : t < n) (hp : p < q) : Ev (d + 2) 24 0 [.ref 16, .int (nI t), .int (nI p)] [] (wC g tr) (some (.int (bI (decide ((vC n q dn g) 12 t = -9) && (fpB (vC n q dn g) t p && !HOO n (vC n q dn g) (nI p) ((vC n q dn g) 0 t)))))) (wC g tr) := by
  have hb := hc.b
  rw [show (vC n q dn g) 12 t = g 50 t from cut_lt ht, show (vC n q dn g) 0 t = g 32 t from cut_lt ht]
  refine Ev.sn e_X2_canLay 4 (i' := 4) (ls' := [_, _, _]) (st' := [_, _]) rfl ?_
  refine Ev.ialdE e_X2_canLay rfl rfl rfl rfl rfl (by omega) ?_
  refine Ev.sn e_X2_canLay 1 (i' := 6) (ls' := [_, _, _]) (st' := [_, _]) rfl ?_
  refine Ev.br (i1 := 7) (i2 := 23) e_X2_canLay rfl rfl (fun h0 => ?_) (fun h0 => ?_)
  · refine Ev.sn e_X2_canLay 3 (i' := 10) (ls' := [_, _, _]) (st' := [_, _, _]) rfl ?_
    refine Ev.clV e_X2_canLay rfl rfl (as := [_, _]) rfl rfl rfl kl_X2_fitsPerson rfl rfl rfl (c_X2_fitsPerson _ _ _ hc ht hp) rfl ?_
    refine Ev.brB (i1 := 23) (i2 := 12) e_X2_canLay rfl rfl (fun h1 => ?_) (fun h1 => ?_)
    · refine Ev.sn e_X2_canLay 1 (i' := 24) (ls' := [_, _, _]) (st' := [_]) rfl ?_
      refine Ev.iret e_X2_canLay rfl rfl rfl ?_ rfl
      simp [h0, h1, bI]
    · refine Ev.sn e_X2_canLay 6 (i' := 18) (ls' := [_, _, _]) (st' := [_, _, _, _]) rfl ?_
      refine Ev.ialdE e_X2_canLay rfl rfl rfl rfl rfl (by omega) ?_
      refine Ev.clV e_X2_canLay rfl rfl (as := [_, _]) rfl rfl rfl kl_X2_hasOneOf rfl rfl rfl (c_X2_hasOneOf _ _ _ hc _ _) rfl ?_
      refine Ev.brB (i1 := 21) (i2 := 23) e_X2_canLay rfl rfl (fun h2 => ?_) (fun h2 => ?_)
      · refine Ev.sn e_X2_canLay 2 (i' := 24) (ls' := [_, _, _]) (st' := [_]) rfl ?_
        refine Ev.iret e_X2_canLay rfl rfl rfl ?_ rfl
        simp [h0, h1, h2, bI]
      · refine Ev.sn e_X2_canLay 1 (i' := 24) (ls' := [_, _, _]) (st' := [_]) rfl ?_
        refine Ev.iret e_X2_canLay rfl rfl rfl ?_ rfl
        simp [h0, h1, h2, bI]
  · refine Ev.sn e_X2_canLay 1 (i' := 24) (ls' := [_, _, _]) (st' := [_]) rfl ?_
    refine Ev.iret e_X2_canLay rfl rfl rfl ?_ rfl
    simp [h0, bI]
set_option maxRecDepth 20000 in
set_option maxHeartbeats 200000 in
theorem lq_X2_twosIfAllThingsWere (d : Nat) (g : Nat → Nat → Int32) (tr : Int64) {n q dn : Nat} (hc : CI n q dn g) (s : Int32) {t : Nat} (ht : t < n) (r : Option Value) (w2 : AW) : ∀ (k p : Nat) (a : Int32), p + k = q → Ev (d + 1) 27 34 [.ref 16, .int s, .int (fo (fun p a => if fitB (vC n q dn g) t s ((vC n q dn g) 4 p) ((vC n q dn g) 5 p) = true then a + 1 else a) k p a), .int (nI t), .null] [] (wC g tr) r w2 → Ev (d + 1) 27 11 [.ref 16, .int s, .int a, .int (nI t), .int (nI p)] [] (wC g tr) r w2 := by
  intro k
  induction k with
  | zero =>
    intro p a hp K
    have hb := hc.b
    refine Ev.sn e_X2_twosIfAllThingsWere 4 (i' := 15) (ls' := [_, _, _, _, _]) (st' := [_, _]) rfl ?_
    refine Ev.brT (i1 := 34) (i2 := 16) e_X2_twosIfAllThingsWere rfl rfl (ge_t hc.hq (by omega) (by omega)) ?_
    exact Ev.weak (lle_c (lle_c (lle_c (lle_c (lle_n lle_0))))) K
  | succ k ih =>
    intro p a hp K
    have hb := hc.b
    have hv : (vC n q dn g) 4 p = g 52 p := cut_lt (by omega)
    have hv2 : (vC n q dn g) 5 p = g 37 p := cut_lt (by omega)
    refine Ev.sn e_X2_twosIfAllThingsWere 4 (i' := 15) (ls' := [_, _, _, _, _]) (st' := [_, _]) rfl ?_
    refine Ev.brF (i1 := 34) (i2 := 16) e_X2_twosIfAllThingsWere rfl rfl (ge_f hc.hq (by omega) (by omega)) ?_
    refine Ev.sn e_X2_twosIfAllThingsWere 7 (i' := 23) (ls' := [_, _, _, _, _]) (st' := [_, _, _, _, _]) rfl ?_
    refine Ev.ialdE e_X2_twosIfAllThingsWere rfl rfl rfl rfl rfl (by omega) ?_
    refine Ev.sn e_X2_twosIfAllThingsWere 4 (i' := 28) (ls' := [_, _, _, _, _]) (st' := [_, _, _, _, _, _]) rfl ?_
    refine Ev.ialdE e_X2_twosIfAllThingsWere rfl rfl rfl rfl rfl (by omega) ?_
    refine Ev.clV e_X2_twosIfAllThingsWere rfl rfl (as := [_, _, _, _]) rfl rfl rfl kl_X2_fitsAtScale rfl rfl rfl (c_X2_fitsAtScale _ _ _ hc ht _ _ _) rfl ?_
    refine Ev.brB (i1 := 32) (i2 := 31) e_X2_twosIfAllThingsWere rfl rfl (fun h0 => ?_) (fun h0 => ?_)
    · refine Ev.sn e_X2_twosIfAllThingsWere 2 (i' := 11) (ls' := [_, _, _, _, _]) (st' := []) rfl ?_
      refine Ev.cg (ih (p + 1) ((fun p a => if fitB (vC n q dn g) t s ((vC n q dn g) 4 p) ((vC n q dn g) 5 p) = true then a + 1 else a) p a) (by omega) K) ?_
      simp [nI_1, hv, hv2, h0]
    · refine Ev.sn e_X2_twosIfAllThingsWere 3 (i' := 11) (ls' := [_, _, _, _, _]) (st' := []) rfl ?_
      refine Ev.cg (ih (p + 1) ((fun p a => if fitB (vC n q dn g) t s ((vC n q dn g) 4 p) ((vC n q dn g) 5 p) = true then a + 1 else a) p a) (by omega) K) ?_
      simp [nI_1, hv, hv2, h0]
set_option maxRecDepth 20000 in
set_option maxHeartbeats 200000 in
theorem lp_X2_twosIfAllThingsWere (d : Nat) (g : Nat → Nat → Int32) (tr : Int64) {n q dn : Nat} (hc : CI n q dn g) (s : Int32) : ∀ (k t : Nat) (a : Int32), t + k = n → Ev (d + 1) 27 4 [.ref 16, .int s, .int a, .int (nI t), .null] [] (wC g tr) (some (.int (fo (fun t a => fo (fun p a => if fitB (vC n q dn g) t s ((vC n q dn g) 4 p) ((vC n q dn g) 5 p) = true then a + 1 else a) q 0 a) k t a))) (wC g tr) := by
  intro k
  induction k with
  | zero =>
    intro t a hp
    have hb := hc.b
    refine Ev.sn e_X2_twosIfAllThingsWere 4 (i' := 8) (ls' := [_, _, _, _, _]) (st' := [_, _]) rfl ?_
    refine Ev.brT (i1 := 36) (i2 := 9) e_X2_twosIfAllThingsWere rfl rfl (ge_t hc.hn (by omega) (by omega)) ?_
    refine Ev.sn e_X2_twosIfAllThingsWere 1 (i' := 37) (ls' := [_, _, _, _, _]) (st' := [_]) rfl ?_
    refine Ev.iret e_X2_twosIfAllThingsWere rfl rfl rfl ?_ rfl
    rfl
  | succ k ih =>
    intro t a hp
    have hb := hc.b
    refine Ev.sn e_X2_twosIfAllThingsWere 4 (i' := 8) (ls' := [_, _, _, _, _]) (st' := [_, _]) rfl ?_
    refine Ev.brF (i1 := 36) (i2 := 9) e_X2_twosIfAllThingsWere rfl rfl (ge_f hc.hn (by omega) (by omega)) ?_
    refine Ev.sn e_X2_twosIfAllThingsWere 2 (i' := 11) (ls' := [_, _, _, _, _]) (st' := []) rfl ?_
    refine lq_X2_twosIfAllThingsWere _ _ _ hc _ (by omega) _ _ q 0 a (by omega) ?_
    refine Ev.sn e_X2_twosIfAllThingsWere 2 (i' := 4) (ls' := [_, _, _, _, _]) (st' := []) rfl ?_
    rw [nI_1]
    exact ih (t + 1) _ (by omega)
set_option maxRecDepth 20000 in
set_option maxHeartbeats 200000 in
theorem c_X2_twosIfAllThingsWere (d : Nat) (g : Nat → Nat → Int32) (tr : Int64) {n q dn : Nat} (hc : CI n q dn g) (s : Int32) : Ev (d + 1) 27 0 [.ref 16, .int s, .null, .null, .null] [] (wC g tr) (some (.int (TWO n q (vC n q dn g) s))) (wC g tr) := by
  have hb := hc.b
  refine Ev.sn e_X2_twosIfAllThingsWere 4 (i' := 4) (ls' := [_, _, _, _, _]) (st' := []) rfl ?_
  exact lp_X2_twosIfAllThingsWere _ _ _ hc _ n 0 0 (by omega)
