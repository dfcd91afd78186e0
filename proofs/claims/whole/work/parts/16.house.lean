/-! class House: its questions -/
set_option maxRecDepth 20000 in
theorem c_X2_hasThing (d : Nat) (g : Nat → Nat → Int32) (tr : Int64) {n q dn : Nat} (hc : CI n q dn g) (t : Int32) : Ev d 14 0 [.ref 16, .int t] [] (wC g tr) (some (.int (bI (decide (0 ≤ t) && decide (t < nI n))))) (wC g tr) := by
  refine Ev.sn e_X2_hasThing 1 (i' := 1) (ls' := [_, _]) (st' := [_]) rfl ?_
  refine Ev.br (i1 := 9) (i2 := 2) e_X2_hasThing rfl rfl (fun h0 => ?_) (fun h0 => ?_)
  · refine Ev.sn e_X2_hasThing 1 (i' := 10) (ls' := [_, _]) (st' := [_]) rfl ?_
    refine Ev.iret e_X2_hasThing rfl rfl rfl ?_ rfl
    simp [bI, Int32.not_le.mpr h0]
  · refine Ev.sn e_X2_hasThing 4 (i' := 6) (ls' := [_, _]) (st' := [_, _]) rfl ?_
    refine Ev.br (i1 := 9) (i2 := 7) e_X2_hasThing rfl rfl (fun h1 => ?_) (fun h1 => ?_)
    · refine Ev.sn e_X2_hasThing 1 (i' := 10) (ls' := [_, _]) (st' := [_]) rfl ?_
      refine Ev.iret e_X2_hasThing rfl rfl rfl ?_ rfl
      rw [hc.hn] at h1
      simp [bI, Int32.not_lt.mpr h1]
    · refine Ev.sn e_X2_hasThing 2 (i' := 10) (ls' := [_, _]) (st' := [_]) rfl ?_
      refine Ev.iret e_X2_hasThing rfl rfl rfl ?_ rfl
      rw [hc.hn] at h1
      simp [bI, Int32.not_lt.mp h0, Int32.not_le.mp h1]
set_option maxRecDepth 20000 in
theorem c_X2_hasPerson (d : Nat) (g : Nat → Nat → Int32) (tr : Int64) {n q dn : Nat} (hc : CI n q dn g) (t : Int32) : Ev d 15 0 [.ref 16, .int t] [] (wC g tr) (some (.int (bI (decide (0 ≤ t) && decide (t < nI q))))) (wC g tr) := by
  refine Ev.sn e_X2_hasPerson 1 (i' := 1) (ls' := [_, _]) (st' := [_]) rfl ?_
  refine Ev.br (i1 := 9) (i2 := 2) e_X2_hasPerson rfl rfl (fun h0 => ?_) (fun h0 => ?_)
  · refine Ev.sn e_X2_hasPerson 1 (i' := 10) (ls' := [_, _]) (st' := [_]) rfl ?_
    refine Ev.iret e_X2_hasPerson rfl rfl rfl ?_ rfl
    simp [bI, Int32.not_le.mpr h0]
  · refine Ev.sn e_X2_hasPerson 4 (i' := 6) (ls' := [_, _]) (st' := [_, _]) rfl ?_
    refine Ev.br (i1 := 9) (i2 := 7) e_X2_hasPerson rfl rfl (fun h1 => ?_) (fun h1 => ?_)
    · refine Ev.sn e_X2_hasPerson 1 (i' := 10) (ls' := [_, _]) (st' := [_]) rfl ?_
      refine Ev.iret e_X2_hasPerson rfl rfl rfl ?_ rfl
      rw [hc.hq] at h1
      simp [bI, Int32.not_lt.mpr h1]
    · refine Ev.sn e_X2_hasPerson 2 (i' := 10) (ls' := [_, _]) (st' := [_]) rfl ?_
      refine Ev.iret e_X2_hasPerson rfl rfl rfl ?_ rfl
      rw [hc.hq] at h1
      simp [bI, Int32.not_lt.mp h0, Int32.not_le.mp h1]
set_option maxRecDepth 20000 in
theorem fitB_C {n q dn : Nat} {g : Nat → Nat → Int32} {t u : Nat} (ht : t < n) (hu : u < 3) (e : g 32 t = nI u) (its sc size : Int32) : fitB (vC n q dn g) t its sc size = (decide (g 30 u * (size * its) ≤ 20 * g 34 t * sc) && decide (20 * g 34 t * sc ≤ g 31 u * (size * its))) := by
  have e1 : ux (vC n q dn g) t = u := by
    show (cut n (g 32) t).toNatClampNeg = u
    rw [cut_lt ht, e]
    exact nI_clamp (by omega)
  unfold fitB
  rw [e1]
  show (decide (cut 3 (g 30) u * (size * its) ≤ 20 * cut n (g 34) t * sc) && decide (20 * cut n (g 34) t * sc ≤ cut 3 (g 31) u * (size * its))) = _
  rw [cut_lt hu, cut_lt hu, cut_lt ht]
set_option maxRecDepth 20000 in
theorem c_X2_fitsAtScale (d : Nat) (g : Nat → Nat → Int32) (tr : Int64) {n q dn : Nat} (hc : CI n q dn g) {t : Nat} (ht : t < n) (its size sc : Int32) : Ev d 18 0 [.ref 16, .int (nI t), .int its, .int size, .int sc, .null, .null, .null] [] (wC g tr) (some (.int (bI (fitB (vC n q dn g) t its sc size)))) (wC g tr) := by
  have hb := hc.b
  obtain ⟨u, hu, e⟩ := hc.use ht
  rw [fitB_C ht hu e]
  refine Ev.sn e_X2_fitsAtScale 4 (i' := 4) (ls' := [_, _, _, _, _, _, _, _]) (st' := [_, _]) rfl ?_
  refine Ev.ialdE e_X2_fitsAtScale rfl rfl rfl rfl rfl (by omega) ?_
  refine Ev.sn e_X2_fitsAtScale 6 (i' := 11) (ls' := [_, _, _, _, _, _, _, _]) (st' := [_, _, _]) rfl ?_
  refine Ev.ialdE e_X2_fitsAtScale rfl rfl rfl rfl rfl (by omega) ?_
  refine Ev.sn e_X2_fitsAtScale 12 (i' := 24) (ls' := [_, _, _, _, _, _, _, _]) (st' := [_, _]) rfl ?_
  refine Ev.ialdE e_X2_fitsAtScale rfl rfl rfl rfl e hu ?_
  refine Ev.sn e_X2_fitsAtScale 3 (i' := 28) (ls' := [_, _, _, _, _, _, _, _]) (st' := [_, _]) rfl ?_
  refine Ev.br (i1 := 40) (i2 := 29) e_X2_fitsAtScale rfl rfl (fun h0 => ?_) (fun h0 => ?_)
  · refine Ev.sn e_X2_fitsAtScale 1 (i' := 41) (ls' := [_, _, _, _, _, _, _, _]) (st' := [_]) rfl ?_
    refine Ev.iret e_X2_fitsAtScale rfl rfl rfl ?_ rfl
    simp [bI, Int32.not_le.mpr h0]
  · refine Ev.sn e_X2_fitsAtScale 5 (i' := 34) (ls' := [_, _, _, _, _, _, _, _]) (st' := [_, _, _]) rfl ?_
    refine Ev.ialdE e_X2_fitsAtScale rfl rfl rfl rfl e hu ?_
    refine Ev.sn e_X2_fitsAtScale 2 (i' := 37) (ls' := [_, _, _, _, _, _, _, _]) (st' := [_, _]) rfl ?_
    refine Ev.br (i1 := 40) (i2 := 38) e_X2_fitsAtScale rfl rfl (fun h1 => ?_) (fun h1 => ?_)
    · refine Ev.sn e_X2_fitsAtScale 1 (i' := 41) (ls' := [_, _, _, _, _, _, _, _]) (st' := [_]) rfl ?_
      refine Ev.iret e_X2_fitsAtScale rfl rfl rfl ?_ rfl
      simp [bI, Int32.not_le.mpr h1]
    · refine Ev.sn e_X2_fitsAtScale 2 (i' := 41) (ls' := [_, _, _, _, _, _, _, _]) (st' := [_]) rfl ?_
      refine Ev.iret e_X2_fitsAtScale rfl rfl rfl ?_ rfl
      simp [bI, Int32.not_lt.mp h0, Int32.not_lt.mp h1]
set_option maxRecDepth 20000 in
theorem c_X2_fitsPerson (d : Nat) (g : Nat → Nat → Int32) (tr : Int64) {n q dn : Nat} (hc : CI n q dn g) {t p : Nat} (ht : t < n) (hp : p < q) : Ev (d + 1) 16 0 [.ref 16, .int (nI t), .int (nI p)] [] (wC g tr) (some (.int (bI (fpB (vC n q dn g) t p)))) (wC g tr) := by
  have hb := hc.b
  rw [show fpB (vC n q dn g) t p = fitB (vC n q dn g) t (g 51 t) (g 52 p) (g 37 p) by
    show fitB (vC n q dn g) t (cut n (g 51) t) (cut q (g 52) p) (cut q (g 37) p) = _
    rw [cut_lt ht, cut_lt hp, cut_lt hp]]
  refine Ev.sn e_X2_fitsPerson 6 (i' := 6) (ls' := [_, _, _]) (st' := [_, _, _, _]) rfl ?_
  refine Ev.ialdE e_X2_fitsPerson rfl rfl rfl rfl rfl (by omega) ?_
  refine Ev.sn e_X2_fitsPerson 4 (i' := 11) (ls' := [_, _, _]) (st' := [_, _, _, _, _]) rfl ?_
  refine Ev.ialdE e_X2_fitsPerson rfl rfl rfl rfl rfl (by omega) ?_
  refine Ev.sn e_X2_fitsPerson 4 (i' := 16) (ls' := [_, _, _]) (st' := [_, _, _, _, _, _]) rfl ?_
  refine Ev.ialdE e_X2_fitsPerson rfl rfl rfl rfl rfl (by omega) ?_
  refine Ev.clV e_X2_fitsPerson rfl rfl (as := [_, _, _, _]) rfl rfl rfl kl_X2_fitsAtScale rfl rfl rfl (c_X2_fitsAtScale _ _ _ hc ht _ _ _) rfl ?_
  refine Ev.iret e_X2_fitsPerson rfl rfl bI_nar ?_ rfl
  rfl
set_option maxRecDepth 20000 in
theorem c_X2_fitsStranger (d : Nat) (g : Nat → Nat → Int32) (tr : Int64) {n q dn : Nat} (hc : CI n q dn g) {t : Nat} (ht : t < n) (size sc : Int32) : Ev (d + 1) 17 0 [.ref 16, .int (nI t), .int size, .int sc] [] (wC g tr) (some (.int (bI (fitB (vC n q dn g) t ((vC n q dn g) 1 t) sc size)))) (wC g tr) := by
  have hb := hc.b
  rw [show (vC n q dn g) 1 t = g 51 t from cut_lt ht]
  refine Ev.sn e_X2_fitsStranger 6 (i' := 6) (ls' := [_, _, _, _]) (st' := [_, _, _, _]) rfl ?_
  refine Ev.ialdE e_X2_fitsStranger rfl rfl rfl rfl rfl (by omega) ?_
  refine Ev.sn e_X2_fitsStranger 2 (i' := 9) (ls' := [_, _, _, _]) (st' := [_, _, _, _, _]) rfl ?_
  refine Ev.clV e_X2_fitsStranger rfl rfl (as := [_, _, _, _]) rfl rfl rfl kl_X2_fitsAtScale rfl rfl rfl (c_X2_fitsAtScale _ _ _ hc ht _ _ _) rfl ?_
  refine Ev.iret e_X2_fitsStranger rfl rfl bI_nar ?_ rfl
  rfl
set_option maxRecDepth 20000 in
theorem lp_X2_peopleItFits (d : Nat) (g : Nat → Nat → Int32) (tr : Int64) {n q dn : Nat} (hc : CI n q dn g) {t : Nat} (ht : t < n) : ∀ (k p : Nat) (a : Int32), p + k = q → Ev (d + 2) 19 4 [.ref 16, .int (nI t), .int a, .int (nI p)] [] (wC g tr) (some (.int (fo (fun p a => if fpB (vC n q dn g) t p = true then a ||| bitI p else a) k p a))) (wC g tr) := by
  intro k
  induction k with
  | zero =>
    intro p a hp
    have hb := hc.b
    refine Ev.sn e_X2_peopleItFits 4 (i' := 8) (ls' := [_, _, _, _]) (st' := [_, _]) rfl ?_
    refine Ev.brT (i1 := 22) (i2 := 9) e_X2_peopleItFits rfl rfl (ge_t hc.hq (by omega) (by omega)) ?_
    refine Ev.sn e_X2_peopleItFits 1 (i' := 23) (ls' := [_, _, _, _]) (st' := [_]) rfl ?_
    refine Ev.iret e_X2_peopleItFits rfl rfl rfl ?_ rfl
    rfl
  | succ k ih =>
    intro p a hp
    have hb := hc.b
    refine Ev.sn e_X2_peopleItFits 4 (i' := 8) (ls' := [_, _, _, _]) (st' := [_, _]) rfl ?_
    refine Ev.brF (i1 := 22) (i2 := 9) e_X2_peopleItFits rfl rfl (ge_f hc.hq (by omega) (by omega)) ?_
    refine Ev.sn e_X2_peopleItFits 3 (i' := 12) (ls' := [_, _, _, _]) (st' := [_, _, _]) rfl ?_
    refine Ev.clV e_X2_peopleItFits rfl rfl (as := [_, _]) rfl rfl rfl kl_X2_fitsPerson rfl rfl rfl (c_X2_fitsPerson _ _ _ hc ht (by omega)) rfl ?_
    refine Ev.brB (i1 := 20) (i2 := 14) e_X2_peopleItFits rfl rfl (fun h0 => ?_) (fun h0 => ?_)
    · refine Ev.sn e_X2_peopleItFits 2 (i' := 4) (ls' := [_, _, _, _]) (st' := []) rfl ?_
      refine Ev.cg (ih (p + 1) ((fun p a => if fpB (vC n q dn g) t p = true then a ||| bitI p else a) p a) (by omega)) ?_
      simp [nI_1, bitI, h0]
    · refine Ev.sn e_X2_peopleItFits 8 (i' := 4) (ls' := [_, _, _, _]) (st' := []) rfl ?_
      refine Ev.cg (ih (p + 1) ((fun p a => if fpB (vC n q dn g) t p = true then a ||| bitI p else a) p a) (by omega)) ?_
      simp [nI_1, bitI, h0]
set_option maxRecDepth 20000 in
theorem c_X2_peopleItFits (d : Nat) (g : Nat → Nat → Int32) (tr : Int64) {n q dn : Nat} (hc : CI n q dn g) {t : Nat} (ht : t < n) : Ev (d + 2) 19 0 [.ref 16, .int (nI t), .null, .null] [] (wC g tr) (some (.int (PIF q (vC n q dn g) t))) (wC g tr) := by
  have hb := hc.b
  refine Ev.sn e_X2_peopleItFits 4 (i' := 4) (ls' := [_, _, _, _]) (st' := []) rfl ?_
  exact lp_X2_peopleItFits _ _ _ hc ht q 0 0 (by omega)
set_option maxRecDepth 20000 in
theorem lp_X2_useless (d : Nat) (g : Nat → Nat → Int32) (tr : Int64) {n q dn : Nat} (hc : CI n q dn g) : ∀ (k p : Nat) (a : Int32), p + k = n → Ev (d + 3) 20 4 [.ref 16, .int a, .int (nI p)] [] (wC g tr) (some (.int (fo (fun t a => if PIF q (vC n q dn g) t = 0 then a ||| bitI t else a) k p a))) (wC g tr) := by
  intro k
  induction k with
  | zero =>
    intro p a hp
    have hb := hc.b
    refine Ev.sn e_X2_useless 4 (i' := 8) (ls' := [_, _, _]) (st' := [_, _]) rfl ?_
    refine Ev.brT (i1 := 21) (i2 := 9) e_X2_useless rfl rfl (ge_t hc.hn (by omega) (by omega)) ?_
    refine Ev.sn e_X2_useless 1 (i' := 22) (ls' := [_, _, _]) (st' := [_]) rfl ?_
    refine Ev.iret e_X2_useless rfl rfl rfl ?_ rfl
    rfl
  | succ k ih =>
    intro p a hp
    have hb := hc.b
    refine Ev.sn e_X2_useless 4 (i' := 8) (ls' := [_, _, _]) (st' := [_, _]) rfl ?_
    refine Ev.brF (i1 := 21) (i2 := 9) e_X2_useless rfl rfl (ge_f hc.hn (by omega) (by omega)) ?_
    refine Ev.sn e_X2_useless 2 (i' := 11) (ls' := [_, _, _]) (st' := [_, _]) rfl ?_
    refine Ev.clV e_X2_useless rfl rfl (as := [_]) rfl rfl rfl kl_X2_peopleItFits rfl rfl rfl (c_X2_peopleItFits _ _ _ hc (by omega)) rfl ?_
    refine Ev.br (i1 := 13) (i2 := 19) e_X2_useless rfl rfl (fun h0 => ?_) (fun h0 => ?_)
    · refine Ev.sn e_X2_useless 8 (i' := 4) (ls' := [_, _, _]) (st' := []) rfl ?_
      refine Ev.cg (ih (p + 1) ((fun t a => if PIF q (vC n q dn g) t = 0 then a ||| bitI t else a) p a) (by omega)) ?_
      simp [nI_1, bitI, h0]
    · refine Ev.sn e_X2_useless 2 (i' := 4) (ls' := [_, _, _]) (st' := []) rfl ?_
      refine Ev.cg (ih (p + 1) ((fun t a => if PIF q (vC n q dn g) t = 0 then a ||| bitI t else a) p a) (by omega)) ?_
      simp [nI_1, bitI, h0]
set_option maxRecDepth 20000 in
theorem c_X2_useless (d : Nat) (g : Nat → Nat → Int32) (tr : Int64) {n q dn : Nat} (hc : CI n q dn g) : Ev (d + 3) 20 0 [.ref 16, .null, .null] [] (wC g tr) (some (.int (ULS n q (vC n q dn g)))) (wC g tr) := by
  have hb := hc.b
  refine Ev.sn e_X2_useless 4 (i' := 4) (ls' := [_, _, _]) (st' := []) rfl ?_
  exact lp_X2_useless _ _ _ hc n 0 0 (by omega)
set_option maxRecDepth 20000 in
theorem lp_X2_bareOf (d : Nat) (g : Nat → Nat → Int32) (tr : Int64) {n q dn : Nat} (hc : CI n q dn g) (u : Int32) : ∀ (k p : Nat) (a : Int32), p + k = n → Ev (d + 3) 21 10 [.ref 16, .int u, .int a, .int (nI p)] [] (wC g tr) (some (.int (fo (fun t a => if (vC n q dn g) 0 t = u then a &&& (PIF q (vC n q dn g) t ^^^ (-1)) else a) k p a))) (wC g tr) := by
  intro k
  induction k with
  | zero =>
    intro p a hp
    have hb := hc.b
    refine Ev.sn e_X2_bareOf 4 (i' := 14) (ls' := [_, _, _, _]) (st' := [_, _]) rfl ?_
    refine Ev.brT (i1 := 32) (i2 := 15) e_X2_bareOf rfl rfl (ge_t hc.hn (by omega) (by omega)) ?_
    refine Ev.sn e_X2_bareOf 1 (i' := 33) (ls' := [_, _, _, _]) (st' := [_]) rfl ?_
    refine Ev.iret e_X2_bareOf rfl rfl rfl ?_ rfl
    rfl
  | succ k ih =>
    intro p a hp
    have hb := hc.b
    have hv : (vC n q dn g) 0 p = g 32 p := cut_lt (by omega)
    refine Ev.sn e_X2_bareOf 4 (i' := 14) (ls' := [_, _, _, _]) (st' := [_, _]) rfl ?_
    refine Ev.brF (i1 := 32) (i2 := 15) e_X2_bareOf rfl rfl (ge_f hc.hn (by omega) (by omega)) ?_
    refine Ev.sn e_X2_bareOf 4 (i' := 19) (ls' := [_, _, _, _]) (st' := [_, _]) rfl ?_
    refine Ev.ialdE e_X2_bareOf rfl rfl rfl rfl rfl (by omega) ?_
    refine Ev.sn e_X2_bareOf 1 (i' := 21) (ls' := [_, _, _, _]) (st' := [_, _]) rfl ?_
    refine Ev.br (i1 := 22) (i2 := 30) e_X2_bareOf rfl rfl (fun h0 => ?_) (fun h0 => ?_)
    · refine Ev.sn e_X2_bareOf 3 (i' := 25) (ls' := [_, _, _, _]) (st' := [_, _, _]) rfl ?_
      refine Ev.clV e_X2_bareOf rfl rfl (as := [_]) rfl rfl rfl kl_X2_peopleItFits rfl rfl rfl (c_X2_peopleItFits _ _ _ hc (by omega)) rfl ?_
      refine Ev.sn e_X2_bareOf 6 (i' := 10) (ls' := [_, _, _, _]) (st' := []) rfl ?_
      refine Ev.cg (ih (p + 1) ((fun t a => if (vC n q dn g) 0 t = u then a &&& (PIF q (vC n q dn g) t ^^^ (-1)) else a) p a) (by omega)) ?_
      simp [nI_1, hv, h0]
    · refine Ev.sn e_X2_bareOf 2 (i' := 10) (ls' := [_, _, _, _]) (st' := []) rfl ?_
      refine Ev.cg (ih (p + 1) ((fun t a => if (vC n q dn g) 0 t = u then a &&& (PIF q (vC n q dn g) t ^^^ (-1)) else a) p a) (by omega)) ?_
      simp [nI_1, hv, h0]
set_option maxRecDepth 20000 in
theorem c_X2_bareOf (d : Nat) (g : Nat → Nat → Int32) (tr : Int64) {n q dn : Nat} (hc : CI n q dn g) (u : Int32) : Ev (d + 3) 21 0 [.ref 16, .int u, .null, .null] [] (wC g tr) (some (.int (BAR n q (vC n q dn g) u))) (wC g tr) := by
  have hb := hc.b
  refine Ev.sn e_X2_bareOf 10 (i' := 10) (ls' := [_, _, _, _]) (st' := []) rfl ?_
  exact lp_X2_bareOf _ _ _ hc _ n 0 _ (by omega)
set_option maxRecDepth 20000 in
theorem lp_X2_thingsOf (d : Nat) (g : Nat → Nat → Int32) (tr : Int64) {n q dn : Nat} (hc : CI n q dn g) (x : Int32) : ∀ (k p : Nat) (a : Int32), p + k = n → Ev d 22 4 [.ref 16, .int x, .int a, .int (nI p)] [] (wC g tr) (some (.int (fo (fun t a => if (vC n q dn g) 12 t = x then a ||| bitI t else a) k p a))) (wC g tr) := by
  intro k
  induction k with
  | zero =>
    intro p a hp
    have hb := hc.b
    refine Ev.sn e_X2_thingsOf 4 (i' := 8) (ls' := [_, _, _, _]) (st' := [_, _]) rfl ?_
    refine Ev.brT (i1 := 24) (i2 := 9) e_X2_thingsOf rfl rfl (ge_t hc.hn (by omega) (by omega)) ?_
    refine Ev.sn e_X2_thingsOf 1 (i' := 25) (ls' := [_, _, _, _]) (st' := [_]) rfl ?_
    refine Ev.iret e_X2_thingsOf rfl rfl rfl ?_ rfl
    rfl
  | succ k ih =>
    intro p a hp
    have hb := hc.b
    have hv : (vC n q dn g) 12 p = g 50 p := cut_lt (by omega)
    refine Ev.sn e_X2_thingsOf 4 (i' := 8) (ls' := [_, _, _, _]) (st' := [_, _]) rfl ?_
    refine Ev.brF (i1 := 24) (i2 := 9) e_X2_thingsOf rfl rfl (ge_f hc.hn (by omega) (by omega)) ?_
    refine Ev.sn e_X2_thingsOf 4 (i' := 13) (ls' := [_, _, _, _]) (st' := [_, _]) rfl ?_
    refine Ev.ialdE e_X2_thingsOf rfl rfl rfl rfl rfl (by omega) ?_
    refine Ev.sn e_X2_thingsOf 1 (i' := 15) (ls' := [_, _, _, _]) (st' := [_, _]) rfl ?_
    refine Ev.br (i1 := 16) (i2 := 22) e_X2_thingsOf rfl rfl (fun h0 => ?_) (fun h0 => ?_)
    · refine Ev.sn e_X2_thingsOf 8 (i' := 4) (ls' := [_, _, _, _]) (st' := []) rfl ?_
      refine Ev.cg (ih (p + 1) ((fun t a => if (vC n q dn g) 12 t = x then a ||| bitI t else a) p a) (by omega)) ?_
      simp [nI_1, hv, bitI, h0]
    · refine Ev.sn e_X2_thingsOf 2 (i' := 4) (ls' := [_, _, _, _]) (st' := []) rfl ?_
      refine Ev.cg (ih (p + 1) ((fun t a => if (vC n q dn g) 12 t = x then a ||| bitI t else a) p a) (by omega)) ?_
      simp [nI_1, hv, bitI, h0]
set_option maxRecDepth 20000 in
theorem c_X2_thingsOf (d : Nat) (g : Nat → Nat → Int32) (tr : Int64) {n q dn : Nat} (hc : CI n q dn g) (x : Int32) : Ev d 22 0 [.ref 16, .int x, .null, .null] [] (wC g tr) (some (.int (TOF n (vC n q dn g) x))) (wC g tr) := by
  have hb := hc.b
  refine Ev.sn e_X2_thingsOf 4 (i' := 4) (ls' := [_, _, _, _]) (st' := []) rfl ?_
  exact lp_X2_thingsOf _ _ _ hc _ n 0 0 (by omega)
set_option maxRecDepth 20000 in
theorem lp_X2_ownedThings (d : Nat) (g : Nat → Nat → Int32) (tr : Int64) {n q dn : Nat} (hc : CI n q dn g) : ∀ (k p : Nat) (a : Int32), p + k = n → Ev d 23 4 [.ref 16, .int a, .int (nI p)] [] (wC g tr) (some (.int (fo (fun t a => if (vC n q dn g) 12 t = -9 then a else a ||| bitI t) k p a))) (wC g tr) := by
  intro k
  induction k with
  | zero =>
    intro p a hp
    have hb := hc.b
    refine Ev.sn e_X2_ownedThings 4 (i' := 8) (ls' := [_, _, _]) (st' := [_, _]) rfl ?_
    refine Ev.brT (i1 := 24) (i2 := 9) e_X2_ownedThings rfl rfl (ge_t hc.hn (by omega) (by omega)) ?_
    refine Ev.sn e_X2_ownedThings 1 (i' := 25) (ls' := [_, _, _]) (st' := [_]) rfl ?_
    refine Ev.iret e_X2_ownedThings rfl rfl rfl ?_ rfl
    rfl
  | succ k ih =>
    intro p a hp
    have hb := hc.b
    have hv : (vC n q dn g) 12 p = g 50 p := cut_lt (by omega)
    refine Ev.sn e_X2_ownedThings 4 (i' := 8) (ls' := [_, _, _]) (st' := [_, _]) rfl ?_
    refine Ev.brF (i1 := 24) (i2 := 9) e_X2_ownedThings rfl rfl (ge_f hc.hn (by omega) (by omega)) ?_
    refine Ev.sn e_X2_ownedThings 4 (i' := 13) (ls' := [_, _, _]) (st' := [_, _]) rfl ?_
    refine Ev.ialdE e_X2_ownedThings rfl rfl rfl rfl rfl (by omega) ?_
    refine Ev.sn e_X2_ownedThings 1 (i' := 15) (ls' := [_, _, _]) (st' := [_, _]) rfl ?_
    refine Ev.br (i1 := 22) (i2 := 16) e_X2_ownedThings rfl rfl (fun h0 => ?_) (fun h0 => ?_)
    · refine Ev.sn e_X2_ownedThings 2 (i' := 4) (ls' := [_, _, _]) (st' := []) rfl ?_
      refine Ev.cg (ih (p + 1) ((fun t a => if (vC n q dn g) 12 t = -9 then a else a ||| bitI t) p a) (by omega)) ?_
      simp [nI_1, hv, bitI, h0]
    · refine Ev.sn e_X2_ownedThings 8 (i' := 4) (ls' := [_, _, _]) (st' := []) rfl ?_
      refine Ev.cg (ih (p + 1) ((fun t a => if (vC n q dn g) 12 t = -9 then a else a ||| bitI t) p a) (by omega)) ?_
      simp [nI_1, hv, bitI, h0]
set_option maxRecDepth 20000 in
theorem c_X2_ownedThings (d : Nat) (g : Nat → Nat → Int32) (tr : Int64) {n q dn : Nat} (hc : CI n q dn g) : Ev d 23 0 [.ref 16, .null, .null] [] (wC g tr) (some (.int (OWN n (vC n q dn g)))) (wC g tr) := by
  have hb := hc.b
  refine Ev.sn e_X2_ownedThings 4 (i' := 4) (ls' := [_, _, _]) (st' := []) rfl ?_
  exact lp_X2_ownedThings _ _ _ hc n 0 0 (by omega)
set_option maxRecDepth 20000 in
theorem lp_X2_thingsFitting (d : Nat) (g : Nat → Nat → Int32) (tr : Int64) {n q dn : Nat} (hc : CI n q dn g) (size sc : Int32) : ∀ (k p : Nat) (a : Int32), p + k = n → Ev (d + 2) 28 4 [.ref 16, .int size, .int sc, .int a, .int (nI p)] [] (wC g tr) (some (.int (fo (fun t a => if fitB (vC n q dn g) t ((vC n q dn g) 1 t) sc size = true then a + 1 else a) k p a))) (wC g tr) := by
  intro k
  induction k with
  | zero =>
    intro p a hp
    have hb := hc.b
    refine Ev.sn e_X2_thingsFitting 4 (i' := 8) (ls' := [_, _, _, _, _]) (st' := [_, _]) rfl ?_
    refine Ev.brT (i1 := 18) (i2 := 9) e_X2_thingsFitting rfl rfl (ge_t hc.hn (by omega) (by omega)) ?_
    refine Ev.sn e_X2_thingsFitting 1 (i' := 19) (ls' := [_, _, _, _, _]) (st' := [_]) rfl ?_
    refine Ev.iret e_X2_thingsFitting rfl rfl rfl ?_ rfl
    rfl
  | succ k ih =>
    intro p a hp
    have hb := hc.b
    refine Ev.sn e_X2_thingsFitting 4 (i' := 8) (ls' := [_, _, _, _, _]) (st' := [_, _]) rfl ?_
    refine Ev.brF (i1 := 18) (i2 := 9) e_X2_thingsFitting rfl rfl (ge_f hc.hn (by omega) (by omega)) ?_
    refine Ev.sn e_X2_thingsFitting 4 (i' := 13) (ls' := [_, _, _, _, _]) (st' := [_, _, _, _]) rfl ?_
    refine Ev.clV e_X2_thingsFitting rfl rfl (as := [_, _, _]) rfl rfl rfl kl_X2_fitsStranger rfl rfl rfl (c_X2_fitsStranger _ _ _ hc (by omega) _ _) rfl ?_
    refine Ev.brB (i1 := 16) (i2 := 15) e_X2_thingsFitting rfl rfl (fun h0 => ?_) (fun h0 => ?_)
    · refine Ev.sn e_X2_thingsFitting 2 (i' := 4) (ls' := [_, _, _, _, _]) (st' := []) rfl ?_
      refine Ev.cg (ih (p + 1) ((fun t a => if fitB (vC n q dn g) t ((vC n q dn g) 1 t) sc size = true then a + 1 else a) p a) (by omega)) ?_
      simp [nI_1, h0]
    · refine Ev.sn e_X2_thingsFitting 3 (i' := 4) (ls' := [_, _, _, _, _]) (st' := []) rfl ?_
      refine Ev.cg (ih (p + 1) ((fun t a => if fitB (vC n q dn g) t ((vC n q dn g) 1 t) sc size = true then a + 1 else a) p a) (by omega)) ?_
      simp [nI_1, h0]
set_option maxRecDepth 20000 in
theorem c_X2_thingsFitting (d : Nat) (g : Nat → Nat → Int32) (tr : Int64) {n q dn : Nat} (hc : CI n q dn g) (size sc : Int32) : Ev (d + 2) 28 0 [.ref 16, .int size, .int sc, .null, .null] [] (wC g tr) (some (.int (THF n (vC n q dn g) size sc))) (wC g tr) := by
  have hb := hc.b
  refine Ev.sn e_X2_thingsFitting 4 (i' := 4) (ls' := [_, _, _, _, _]) (st' := []) rfl ?_
  exact lp_X2_thingsFitting _ _ _ hc _ _ n 0 0 (by omega)
set_option maxRecDepth 20000 in
theorem lp_X2_chairs (d : Nat) (g : Nat → Nat → Int32) (tr : Int64) {n q dn : Nat} (hc : CI n q dn g) : ∀ (k p : Nat) (a : Int32), p + k = n → Ev d 30 4 [.ref 16, .int a, .int (nI p)] [] (wC g tr) (some (.int (fo (fun t a => if (vC n q dn g) 0 t = 0 then a + 1 else a) k p a))) (wC g tr) := by
  intro k
  induction k with
  | zero =>
    intro p a hp
    have hb := hc.b
    refine Ev.sn e_X2_chairs 4 (i' := 8) (ls' := [_, _, _]) (st' := [_, _]) rfl ?_
    refine Ev.brT (i1 := 18) (i2 := 9) e_X2_chairs rfl rfl (ge_t hc.hn (by omega) (by omega)) ?_
    refine Ev.sn e_X2_chairs 1 (i' := 19) (ls' := [_, _, _]) (st' := [_]) rfl ?_
    refine Ev.iret e_X2_chairs rfl rfl rfl ?_ rfl
    rfl
  | succ k ih =>
    intro p a hp
    have hb := hc.b
    have hv : (vC n q dn g) 0 p = g 32 p := cut_lt (by omega)
    refine Ev.sn e_X2_chairs 4 (i' := 8) (ls' := [_, _, _]) (st' := [_, _]) rfl ?_
    refine Ev.brF (i1 := 18) (i2 := 9) e_X2_chairs rfl rfl (ge_f hc.hn (by omega) (by omega)) ?_
    refine Ev.sn e_X2_chairs 4 (i' := 13) (ls' := [_, _, _]) (st' := [_, _]) rfl ?_
    refine Ev.ialdE e_X2_chairs rfl rfl rfl rfl rfl (by omega) ?_
    refine Ev.br (i1 := 15) (i2 := 16) e_X2_chairs rfl rfl (fun h0 => ?_) (fun h0 => ?_)
    · refine Ev.sn e_X2_chairs 3 (i' := 4) (ls' := [_, _, _]) (st' := []) rfl ?_
      refine Ev.cg (ih (p + 1) ((fun t a => if (vC n q dn g) 0 t = 0 then a + 1 else a) p a) (by omega)) ?_
      simp [nI_1, hv, h0]
    · refine Ev.sn e_X2_chairs 2 (i' := 4) (ls' := [_, _, _]) (st' := []) rfl ?_
      refine Ev.cg (ih (p + 1) ((fun t a => if (vC n q dn g) 0 t = 0 then a + 1 else a) p a) (by omega)) ?_
      simp [nI_1, hv, h0]
set_option maxRecDepth 20000 in
theorem c_X2_chairs (d : Nat) (g : Nat → Nat → Int32) (tr : Int64) {n q dn : Nat} (hc : CI n q dn g) : Ev d 30 0 [.ref 16, .null, .null] [] (wC g tr) (some (.int (CHR n (vC n q dn g)))) (wC g tr) := by
  have hb := hc.b
  refine Ev.sn e_X2_chairs 4 (i' := 4) (ls' := [_, _, _]) (st' := []) rfl ?_
  exact lp_X2_chairs _ _ _ hc n 0 0 (by omega)
