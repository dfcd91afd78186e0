/-! class Trials -/
def allN (f : Nat → Bool) : Nat → Nat → Bool
  | 0, _ => true
  | k + 1, p => if f p = true then allN f k (p + 1) else false
def firN (f : Nat → Bool) (df : Int32) : Nat → Nat → Int32
  | 0, _ => df
  | k + 1, p => if f p = true then nI p else firN f df k (p + 1)
/-- what was tried: k of them; u 0 the THINGS, u 1 whether they fitted -/
def TI (n k : Nat) (u : VW) : Prop := k ≤ 6 ∧ ∀ i, i < k → (∃ t, t < n ∧ u 0 i = nI t) ∧ (u 1 i = 0 ∨ u 1 i = 1)
def tC (k : Nat) (g : Nat → Nat → Int32) : VW := fun r => match r with | 0 => cut k (g 98) | 1 => cut k (g 99) | _ => fun _ => 0
def tR (k : Nat) (g : Nat → Nat → Int32) : VW := fun r => match r with | 0 => cut k (g 11) | 1 => cut k (g 12) | _ => fun _ => 0
def ALW (k : Nat) (u v : VW) (z sc : Int32) : Bool := allN (fun i => decide (bI (fitB v (u 0 i).toNatClampNeg (v 1 (u 0 i).toNatClampNeg) sc z) = u 1 i)) k 0
def SLF (k : Nat) (u v : VW) (z : Int32) : Int32 := fo (fun s a => if ALW k u v z (nI s) = true then a + 1 else a) 48 1 0
def LSC (k : Nat) (u v : VW) (z : Int32) : Int32 := firN (fun s => ALW k u v z (nI s)) (-9) 48 1
def LA2 (k : Nat) (u v : VW) (z : Int32) (t : Nat) : Int32 × Int32 := fo (fun s a => if ALW k u v z (nI s) = true then (if fitB v t (v 1 t) (nI s) z = true then (a.1 + 1, a.2) else (a.1, a.2 + 1)) else a) 48 1 (0, 0)
def mx2 (a : Int32 × Int32) : Int32 := if a.1 < a.2 then a.2 else a.1
def LAW (k : Nat) (u v : VW) (z : Int32) (t : Nat) : Int32 := mx2 (LA2 k u v z t)
def stBT (k : Nat) (u v : VW) (z : Int32) (t : Nat) (a : Int32 × Int32) : Int32 × Int32 := if LAW k u v z t < a.2 then (nI t, LAW k u v z t) else a
def BTT (n k : Nat) (u v : VW) (z : Int32) : Int32 × Int32 := fo (stBT k u v z) n 0 (-9, 49)
set_option maxRecDepth 20000 in
set_option maxHeartbeats 200000 in
theorem c_X7_size (d : Nat) (g : Nat → Nat → Int32) (tr : Int64) : Ev d 64 0 [.ref 78] [] (wC g tr) (some (.int (g 100 0))) (wC g tr) := by
  refine Ev.sn e_X7_size 2 (i' := 2) (ls' := [_]) (st' := [_]) rfl ?_
  refine Ev.iret e_X7_size rfl rfl rfl ?_ rfl
  rfl
set_option maxRecDepth 20000 in
set_option maxHeartbeats 200000 in
theorem c_X7_isFull (d : Nat) (g : Nat → Nat → Int32) (tr : Int64) {k : Nat} (hk : g 100 0 = nI k) (hk6 : k ≤ 6) : Ev d 65 0 [.ref 78] [] (wC g tr) (some (.int (bI (decide (k = 6))))) (wC g tr) := by
  refine Ev.sn e_X7_isFull 3 (i' := 3) (ls' := [_]) (st' := [_, _]) rfl ?_
  refine Ev.br (i1 := 6) (i2 := 4) e_X7_isFull rfl rfl (fun h0 => ?_) (fun h0 => ?_)
  · refine Ev.sn e_X7_isFull 1 (i' := 7) (ls' := [_]) (st' := [_]) rfl ?_
    refine Ev.iret e_X7_isFull rfl rfl rfl ?_ rfl
    have : ¬ k = 6 := fun e => absurd h0 (by rw [hk, e]; decide)
    simp [bI, this]
  · refine Ev.sn e_X7_isFull 2 (i' := 7) (ls' := [_]) (st' := [_]) rfl ?_
    refine Ev.iret e_X7_isFull rfl rfl rfl ?_ rfl
    have : k = 6 := by
      by_cases e : k < 6
      · exact absurd (by rw [hk]; exact nI_lt (b := 6) e (by omega)) h0
      · omega
    simp [bI, this]
set_option maxRecDepth 20000 in
set_option maxHeartbeats 200000 in
theorem c_X7_loseAll (d : Nat) (g : Nat → Nat → Int32) (tr : Int64) : Ev d 66 0 [.ref 78] [] (wC g tr) none (wC (va_up g 100 (upd (g 100) 0 0)) tr) := by
  refine Ev.sn e_X7_loseAll 2 (i' := 2) (ls' := [_]) (st' := [_, _]) rfl ?_
  refine Ev.put e_X7_loseAll rfl rfl rfl rfl rfl rfl (w1 := wC (va_up g 100 (upd (g 100) 0 0)) tr) rfl ?_
  exact Ev.vret e_X7_loseAll rfl rfl rfl
set_option maxRecDepth 20000 in
set_option maxHeartbeats 200000 in
theorem c_X7_add (d : Nat) (g : Nat → Nat → Int32) (tr : Int64) {k : Nat} (hk : g 100 0 = nI k) (hk6 : k < 6) (x y : Int32) (hy : y = 0 ∨ y = 1) : Ev (d + 1) 67 0 [.ref 78, .int x, .int y] [] (wC g tr) none (wC (va_up (va_up (va_up g 98 (upd (g 98) k x)) 99 (upd (g 99) k y)) 100 (upd (g 100) 0 (nI (k + 1)))) tr) := by
  refine Ev.sn e_X7_add 1 (i' := 1) (ls' := [_, _, _]) (st' := [_]) rfl ?_
  refine Ev.clV e_X7_add rfl rfl (as := []) rfl rfl rfl kl_X7_isFull rfl rfl rfl (c_X7_isFull _ _ _ hk (by omega)) rfl ?_
  refine Ev.brT (i1 := 3) (i2 := 21) e_X7_add rfl rfl ((by rw [bI_0]; simp; omega)) ?_
  refine Ev.sn e_X7_add 5 (i' := 8) (ls' := [_, _, _]) (st' := [_, _, _]) rfl ?_
  refine Ev.iastE e_X7_add rfl rfl rfl hk hk6 (w1 := wC (va_up g 98 (upd (g 98) k x)) tr) rfl ?_
  refine Ev.sn e_X7_add 5 (i' := 14) (ls' := [_, _, _]) (st' := [_, _, _]) rfl ?_
  refine Ev.bastE e_X7_add rfl rfl rfl hk hk6 hy (w1 := wC (va_up (va_up g 98 (upd (g 98) k x)) 99 (upd (g 99) k y)) tr) rfl ?_
  refine Ev.sn e_X7_add 5 (i' := 20) (ls' := [_, _, _]) (st' := [_, _]) rfl ?_
  refine Ev.put e_X7_add rfl rfl rfl rfl rfl rfl (w1 := wC (va_up (va_up (va_up g 98 (upd (g 98) k x)) 99 (upd (g 99) k y)) 100 (upd (g 100) 0 (g 100 0 + 1))) tr) rfl ?_
  exact Ev.vret e_X7_add rfl rfl (by rw [hk, nI_1])
set_option maxRecDepth 20000 in
set_option maxHeartbeats 200000 in
theorem lp_X7_allow (d : Nat) (g : Nat → Nat → Int32) (tr : Int64) {n q dn : Nat} (hc : CI n q dn g) {k : Nat} (hk : g 100 0 = nI k) (ht : TI n k (tC k g)) (z sc : Int32) : ∀ (j p : Nat), p + j = k → Ev (d + 2) 68 2 [.ref 78, .ref 16, .int z, .int sc, .int (nI p)] [] (wC g tr) (some (.int (bI (allN (fun i => decide (bI (fitB (vC n q dn g) ((tC k g) 0 i).toNatClampNeg ((vC n q dn g) 1 ((tC k g) 0 i).toNatClampNeg) sc z) = (tC k g) 1 i)) j p)))) (wC g tr) := by
  intro j
  induction j with
  | zero =>
    intro p hp
    have hb := ht.1
    refine Ev.sn e_X7_allow 3 (i' := 5) (ls' := [_, _, _, _, _]) (st' := [_, _]) rfl ?_
    refine Ev.brT (i1 := 23) (i2 := 6) e_X7_allow rfl rfl (ge_t hk (by omega) (by omega)) ?_
    refine Ev.sn e_X7_allow 1 (i' := 24) (ls' := [_, _, _, _, _]) (st' := [_]) rfl ?_
    refine Ev.iret e_X7_allow rfl rfl rfl ?_ rfl
    rfl
  | succ j ih =>
    intro p hp
    have hb := ht.1
    obtain ⟨⟨t, ht1, ht2⟩, ht3⟩ := ht.2 p (by omega)
    have e0 : (tC k g) 0 p = g 98 p := cut_lt (by omega)
    have e1 : (tC k g) 1 p = g 99 p := cut_lt (by omega)
    have e2 : g 98 p = nI t := by rw [← e0]; exact ht2
    have hb2 := hc.b
    have e3 : (nI t).toNatClampNeg = t := nI_clamp (by omega)
    show Ev _ _ _ _ _ _ (some (.int (bI (if decide (bI (fitB (vC n q dn g) ((tC k g) 0 p).toNatClampNeg ((vC n q dn g) 1 ((tC k g) 0 p).toNatClampNeg) sc z) = (tC k g) 1 p) = true then allN (fun i => decide (bI (fitB (vC n q dn g) ((tC k g) 0 i).toNatClampNeg ((vC n q dn g) 1 ((tC k g) 0 i).toNatClampNeg) sc z) = (tC k g) 1 i)) j (p + 1) else false)))) _
    rw [ht2, e1, e3]
    refine Ev.sn e_X7_allow 3 (i' := 5) (ls' := [_, _, _, _, _]) (st' := [_, _]) rfl ?_
    refine Ev.brF (i1 := 23) (i2 := 6) e_X7_allow rfl rfl (ge_f hk (by omega) (by omega)) ?_
    refine Ev.sn e_X7_allow 4 (i' := 10) (ls' := [_, _, _, _, _]) (st' := [_, _, _]) rfl ?_
    refine Ev.ialdE e_X7_allow rfl rfl rfl rfl rfl (by omega) ?_
    refine Ev.sn e_X7_allow 2 (i' := 13) (ls' := [_, _, _, _, _]) (st' := [_, _, _, _]) rfl ?_
    refine Ev.clV e_X7_allow rfl rfl (as := [_, _, _]) rfl rfl rfl kl_X2_fitsStranger rfl rfl rfl (by rw [e2]; exact c_X2_fitsStranger _ _ _ hc ht1 _ _) rfl ?_
    refine Ev.sn e_X7_allow 3 (i' := 17) (ls' := [_, _, _, _, _]) (st' := [_, _, _]) rfl ?_
    refine Ev.baldE e_X7_allow rfl rfl rfl rfl (by omega) ?_
    refine Ev.br (i1 := 21) (i2 := 19) e_X7_allow rfl rfl (fun h0 => ?_) (fun h0 => ?_)
    · refine Ev.sn e_X7_allow 2 (i' := 2) (ls' := [_, _, _, _, _]) (st' := []) rfl ?_
      rw [nI_1, if_pos (by simp [h0])]
      exact ih (p + 1) (by omega)
    · refine Ev.sn e_X7_allow 1 (i' := 20) (ls' := [_, _, _, _, _]) (st' := [_]) rfl ?_
      refine Ev.iret e_X7_allow rfl rfl rfl ?_ rfl
      rw [if_neg (by simp [h0])]
      rfl
set_option maxRecDepth 20000 in
set_option maxHeartbeats 200000 in
theorem c_X7_allow (d : Nat) (g : Nat → Nat → Int32) (tr : Int64) {n q dn : Nat} (hc : CI n q dn g) {k : Nat} (hk : g 100 0 = nI k) (ht : TI n k (tC k g)) (z sc : Int32) : Ev (d + 2) 68 0 [.ref 78, .ref 16, .int z, .int sc, .null] [] (wC g tr) (some (.int (bI (ALW k (tC k g) (vC n q dn g) z sc)))) (wC g tr) := by
  refine Ev.sn e_X7_allow 2 (i' := 2) (ls' := [_, _, _, _, _]) (st' := []) rfl ?_
  exact lp_X7_allow _ _ _ hc hk ht _ _ k 0 (by omega)
set_option maxRecDepth 20000 in
set_option maxHeartbeats 200000 in
theorem lp_X7_scalesLeft (d : Nat) (g : Nat → Nat → Int32) (tr : Int64) {n q dn : Nat} (hc : CI n q dn g) {k : Nat} (hk : g 100 0 = nI k) (ht : TI n k (tC k g)) (z : Int32) : ∀ (j p : Nat) (a : Int32), p + j = 49 → Ev (d + 3) 69 4 [.ref 78, .ref 16, .int z, .int a, .int (nI p)] [] (wC g tr) (some (.int (fo (fun s a => if ALW k (tC k g) (vC n q dn g) z (nI s) = true then a + 1 else a) j p a))) (wC g tr) := by
  intro j
  induction j with
  | zero =>
    intro p a hp
    refine Ev.sn e_X7_scalesLeft 2 (i' := 6) (ls' := [_, _, _, _, _]) (st' := [_, _]) rfl ?_
    refine Ev.brT (i1 := 16) (i2 := 7) e_X7_scalesLeft rfl rfl (nI_lt (a := 48) (by omega) (by omega)) ?_
    refine Ev.sn e_X7_scalesLeft 1 (i' := 17) (ls' := [_, _, _, _, _]) (st' := [_]) rfl ?_
    refine Ev.iret e_X7_scalesLeft rfl rfl rfl ?_ rfl
    rfl
  | succ j ih =>
    intro p a hp
    rw [fo_s (k := j)]
    refine Ev.sn e_X7_scalesLeft 2 (i' := 6) (ls' := [_, _, _, _, _]) (st' := [_, _]) rfl ?_
    refine Ev.brF (i1 := 16) (i2 := 7) e_X7_scalesLeft rfl rfl (nI_nlt (a := 48) (by omega) (by omega)) ?_
    refine Ev.sn e_X7_scalesLeft 4 (i' := 11) (ls' := [_, _, _, _, _]) (st' := [_, _, _, _]) rfl ?_
    refine Ev.clV e_X7_scalesLeft rfl rfl (as := [_, _, _]) rfl rfl rfl kl_X7_allow rfl rfl rfl (c_X7_allow _ _ _ hc hk ht _ _) rfl ?_
    refine Ev.brB (i1 := 14) (i2 := 13) e_X7_scalesLeft rfl rfl (fun h0 => ?_) (fun h0 => ?_)
    · refine Ev.sn e_X7_scalesLeft 2 (i' := 4) (ls' := [_, _, _, _, _]) (st' := []) rfl ?_
      refine Ev.cg (ih (p + 1) ((fun s a => if ALW k (tC k g) (vC n q dn g) z (nI s) = true then a + 1 else a) p a) (by omega)) ?_
      simp [nI_1, h0]
    · refine Ev.sn e_X7_scalesLeft 3 (i' := 4) (ls' := [_, _, _, _, _]) (st' := []) rfl ?_
      refine Ev.cg (ih (p + 1) ((fun s a => if ALW k (tC k g) (vC n q dn g) z (nI s) = true then a + 1 else a) p a) (by omega)) ?_
      simp [nI_1, h0]
set_option maxRecDepth 20000 in
set_option maxHeartbeats 200000 in
theorem c_X7_scalesLeft (d : Nat) (g : Nat → Nat → Int32) (tr : Int64) {n q dn : Nat} (hc : CI n q dn g) {k : Nat} (hk : g 100 0 = nI k) (ht : TI n k (tC k g)) (z : Int32) : Ev (d + 3) 69 0 [.ref 78, .ref 16, .int z, .null, .null] [] (wC g tr) (some (.int (SLF k (tC k g) (vC n q dn g) z))) (wC g tr) := by
  refine Ev.sn e_X7_scalesLeft 4 (i' := 4) (ls' := [_, _, _, _, _]) (st' := []) rfl ?_
  exact lp_X7_scalesLeft _ _ _ hc hk ht _ 48 1 0 (by omega)
set_option maxRecDepth 20000 in
set_option maxHeartbeats 200000 in
theorem lp_X7_leastScale (d : Nat) (g : Nat → Nat → Int32) (tr : Int64) {n q dn : Nat} (hc : CI n q dn g) {k : Nat} (hk : g 100 0 = nI k) (ht : TI n k (tC k g)) (z : Int32) : ∀ (j p : Nat), p + j = 49 → Ev (d + 3) 70 2 [.ref 78, .ref 16, .int z, .int (nI p)] [] (wC g tr) (some (.int (firN (fun s => ALW k (tC k g) (vC n q dn g) z (nI s)) (-9) j p))) (wC g tr) := by
  intro j
  induction j with
  | zero =>
    intro p hp
    refine Ev.sn e_X7_leastScale 2 (i' := 4) (ls' := [_, _, _, _]) (st' := [_, _]) rfl ?_
    refine Ev.brT (i1 := 15) (i2 := 5) e_X7_leastScale rfl rfl (nI_lt (a := 48) (by omega) (by omega)) ?_
    refine Ev.sn e_X7_leastScale 1 (i' := 16) (ls' := [_, _, _, _]) (st' := [_]) rfl ?_
    refine Ev.iret e_X7_leastScale rfl rfl rfl ?_ rfl
    rfl
  | succ j ih =>
    intro p hp
    refine Ev.sn e_X7_leastScale 2 (i' := 4) (ls' := [_, _, _, _]) (st' := [_, _]) rfl ?_
    refine Ev.brF (i1 := 15) (i2 := 5) e_X7_leastScale rfl rfl (nI_nlt (a := 48) (by omega) (by omega)) ?_
    refine Ev.sn e_X7_leastScale 4 (i' := 9) (ls' := [_, _, _, _]) (st' := [_, _, _, _]) rfl ?_
    refine Ev.clV e_X7_leastScale rfl rfl (as := [_, _, _]) rfl rfl rfl kl_X7_allow rfl rfl rfl (c_X7_allow _ _ _ hc hk ht _ _) rfl ?_
    refine Ev.brB (i1 := 13) (i2 := 11) e_X7_leastScale rfl rfl (fun h0 => ?_) (fun h0 => ?_)
    · refine Ev.sn e_X7_leastScale 2 (i' := 2) (ls' := [_, _, _, _]) (st' := []) rfl ?_
      rw [nI_1]
      have := ih (p + 1) (by omega)
      simpa [firN, h0] using this
    · refine Ev.sn e_X7_leastScale 1 (i' := 12) (ls' := [_, _, _, _]) (st' := [_]) rfl ?_
      refine Ev.iret e_X7_leastScale rfl rfl rfl ?_ rfl
      simp [firN, h0]
set_option maxRecDepth 20000 in
set_option maxHeartbeats 200000 in
theorem c_X7_leastScale (d : Nat) (g : Nat → Nat → Int32) (tr : Int64) {n q dn : Nat} (hc : CI n q dn g) {k : Nat} (hk : g 100 0 = nI k) (ht : TI n k (tC k g)) (z : Int32) : Ev (d + 3) 70 0 [.ref 78, .ref 16, .int z, .null] [] (wC g tr) (some (.int (LSC k (tC k g) (vC n q dn g) z))) (wC g tr) := by
  refine Ev.sn e_X7_leastScale 2 (i' := 2) (ls' := [_, _, _, _]) (st' := []) rfl ?_
  exact lp_X7_leastScale _ _ _ hc hk ht _ 48 1 (by omega)
set_option maxRecDepth 20000 in
set_option maxHeartbeats 200000 in
theorem lp_X7_leftAtWorst (d : Nat) (g : Nat → Nat → Int32) (tr : Int64) {n q dn : Nat} (hc : CI n q dn g) {k : Nat} (hk : g 100 0 = nI k) (ht : TI n k (tC k g)) (z : Int32) {t : Nat} (ht0 : t < n) : ∀ (j p : Nat) (a : Int32 × Int32), p + j = 49 → Ev (d + 3) 71 6 [.ref 78, .ref 16, .int z, .int (nI t), .int a.1, .int a.2, .int (nI p)] [] (wC g tr) (some (.int (mx2 (fo (fun (s : Nat) (a : Int32 × Int32) => if ALW k (tC k g) (vC n q dn g) z (nI s) = true then (if fitB (vC n q dn g) t ((vC n q dn g) 1 t) (nI s) z = true then (a.1 + 1, a.2) else (a.1, a.2 + 1)) else a) j p a)))) (wC g tr) := by
  intro j
  induction j with
  | zero =>
    intro p a hp
    refine Ev.sn e_X7_leftAtWorst 2 (i' := 8) (ls' := [_, _, _, _, _, _, _]) (st' := [_, _]) rfl ?_
    refine Ev.brT (i1 := 26) (i2 := 9) e_X7_leftAtWorst rfl rfl (nI_lt (a := 48) (by omega) (by omega)) ?_
    refine Ev.sn e_X7_leftAtWorst 2 (i' := 28) (ls' := [_, _, _, _, _, _, _]) (st' := [_, _]) rfl ?_
    refine Ev.clS e_X7_leftAtWorst rfl rfl rfl (as := [_, _]) rfl rfl rfl rfl rfl (c_J9_max_7cf53 _ _ _ _) rfl ?_
    refine Ev.iret e_X7_leftAtWorst rfl rfl rfl ?_ rfl
    rfl
  | succ j ih =>
    intro p a hp
    rw [fo_s (k := j)]
    refine Ev.sn e_X7_leftAtWorst 2 (i' := 8) (ls' := [_, _, _, _, _, _, _]) (st' := [_, _]) rfl ?_
    refine Ev.brF (i1 := 26) (i2 := 9) e_X7_leftAtWorst rfl rfl (nI_nlt (a := 48) (by omega) (by omega)) ?_
    refine Ev.sn e_X7_leftAtWorst 4 (i' := 13) (ls' := [_, _, _, _, _, _, _]) (st' := [_, _, _, _]) rfl ?_
    refine Ev.clV e_X7_leftAtWorst rfl rfl (as := [_, _, _]) rfl rfl rfl kl_X7_allow rfl rfl rfl (c_X7_allow _ _ _ hc hk ht _ _) rfl ?_
    refine Ev.brB (i1 := 24) (i2 := 15) e_X7_leftAtWorst rfl rfl (fun h0 => ?_) (fun h0 => ?_)
    · refine Ev.sn e_X7_leftAtWorst 2 (i' := 6) (ls' := [_, _, _, _, _, _, _]) (st' := []) rfl ?_
      refine Ev.cg (ih (p + 1) ((fun (s : Nat) (a : Int32 × Int32) => if ALW k (tC k g) (vC n q dn g) z (nI s) = true then (if fitB (vC n q dn g) t ((vC n q dn g) 1 t) (nI s) z = true then (a.1 + 1, a.2) else (a.1, a.2 + 1)) else a) p a) (by omega)) ?_
      simp [nI_1, h0]
    · refine Ev.sn e_X7_leftAtWorst 4 (i' := 19) (ls' := [_, _, _, _, _, _, _]) (st' := [_, _, _, _]) rfl ?_
      refine Ev.clV e_X7_leftAtWorst rfl rfl (as := [_, _, _]) rfl rfl rfl kl_X2_fitsStranger rfl rfl rfl (c_X2_fitsStranger _ _ _ hc ht0 _ _) rfl ?_
      refine Ev.brB (i1 := 23) (i2 := 21) e_X7_leftAtWorst rfl rfl (fun h1 => ?_) (fun h1 => ?_)
      · refine Ev.sn e_X7_leftAtWorst 3 (i' := 6) (ls' := [_, _, _, _, _, _, _]) (st' := []) rfl ?_
        refine Ev.cg (ih (p + 1) ((fun (s : Nat) (a : Int32 × Int32) => if ALW k (tC k g) (vC n q dn g) z (nI s) = true then (if fitB (vC n q dn g) t ((vC n q dn g) 1 t) (nI s) z = true then (a.1 + 1, a.2) else (a.1, a.2 + 1)) else a) p a) (by omega)) ?_
        simp [nI_1, h0, h1]
      · refine Ev.sn e_X7_leftAtWorst 4 (i' := 6) (ls' := [_, _, _, _, _, _, _]) (st' := []) rfl ?_
        refine Ev.cg (ih (p + 1) ((fun (s : Nat) (a : Int32 × Int32) => if ALW k (tC k g) (vC n q dn g) z (nI s) = true then (if fitB (vC n q dn g) t ((vC n q dn g) 1 t) (nI s) z = true then (a.1 + 1, a.2) else (a.1, a.2 + 1)) else a) p a) (by omega)) ?_
        simp [nI_1, h0, h1]
set_option maxRecDepth 20000 in
set_option maxHeartbeats 200000 in
theorem c_X7_leftAtWorst (d : Nat) (g : Nat → Nat → Int32) (tr : Int64) {n q dn : Nat} (hc : CI n q dn g) {k : Nat} (hk : g 100 0 = nI k) (ht : TI n k (tC k g)) (z : Int32) {t : Nat} (ht0 : t < n) : Ev (d + 3) 71 0 [.ref 78, .ref 16, .int z, .int (nI t), .null, .null, .null] [] (wC g tr) (some (.int (LAW k (tC k g) (vC n q dn g) z t))) (wC g tr) := by
  refine Ev.sn e_X7_leftAtWorst 6 (i' := 6) (ls' := [_, _, _, _, _, _, _]) (st' := []) rfl ?_
  exact lp_X7_leftAtWorst _ _ _ hc hk ht _ ht0 48 1 (0, 0) (by omega)
set_option maxRecDepth 20000 in
set_option maxHeartbeats 200000 in
theorem lp_X7_bestToTry (d : Nat) (g : Nat → Nat → Int32) (tr : Int64) {n q dn : Nat} (hc : CI n q dn g) {k : Nat} (hk : g 100 0 = nI k) (ht : TI n k (tC k g)) (z : Int32) : ∀ (kk p : Nat) (a : Int32 × Int32), p + kk = n → Ev (d + 4) 72 6 [.ref 78, .ref 16, .int z, .int a.1, .int a.2, .int (nI p), .null] [] (wC g tr) (some (.int (fo (stBT k (tC k g) (vC n q dn g) z) kk p a).1)) (wC g tr) := by
  intro kk
  induction kk with
  | zero =>
    intro p a hp
    have hb := hc.b
    refine Ev.sn e_X7_bestToTry 4 (i' := 10) (ls' := [_, _, _, _, _, _, _]) (st' := [_, _]) rfl ?_
    refine Ev.brT (i1 := 26) (i2 := 11) e_X7_bestToTry rfl rfl (ge_t hc.hn (by omega) (by omega)) ?_
    refine Ev.sn e_X7_bestToTry 1 (i' := 27) (ls' := [_, _, _, _, _, _, _]) (st' := [_]) rfl ?_
    refine Ev.iret e_X7_bestToTry rfl rfl rfl ?_ rfl
    rfl
  | succ kk ih =>
    intro p a hp
    rw [fo_s (k := kk)]
    have hb := hc.b
    refine Ev.sn e_X7_bestToTry 4 (i' := 10) (ls' := [_, _, _, _, _, _, _]) (st' := [_, _]) rfl ?_
    refine Ev.brF (i1 := 26) (i2 := 11) e_X7_bestToTry rfl rfl (ge_f hc.hn (by omega) (by omega)) ?_
    refine Ev.sn e_X7_bestToTry 4 (i' := 15) (ls' := [_, _, _, _, _, _, _]) (st' := [_, _, _, _]) rfl ?_
    refine Ev.clV e_X7_bestToTry rfl rfl (as := [_, _, _]) rfl rfl rfl kl_X7_leftAtWorst rfl rfl rfl (c_X7_leftAtWorst _ _ _ hc hk ht z (by omega)) rfl ?_
    refine Ev.sn e_X7_bestToTry 3 (i' := 19) (ls' := [_, _, _, _, _, _, _]) (st' := [_, _]) rfl ?_
    refine Ev.br (i1 := 24) (i2 := 20) e_X7_bestToTry rfl rfl (fun h0 => ?_) (fun h0 => ?_)
    · refine Ev.sn e_X7_bestToTry 2 (i' := 6) (ls' := [_, _, _, _, _, _, _]) (st' := []) rfl ?_
      refine Ev.weak (lle_c (lle_c (lle_c (lle_c (lle_c (lle_c (lle_n lle_0))))))) (Ev.cg (ih (p + 1) ((stBT k (tC k g) (vC n q dn g) z) p a) (by omega)) ?_)
      simp [nI_1, stBT, ← Int32.not_le, h0]
    · refine Ev.sn e_X7_bestToTry 6 (i' := 6) (ls' := [_, _, _, _, _, _, _]) (st' := []) rfl ?_
      refine Ev.weak (lle_c (lle_c (lle_c (lle_c (lle_c (lle_c (lle_n lle_0))))))) (Ev.cg (ih (p + 1) ((stBT k (tC k g) (vC n q dn g) z) p a) (by omega)) ?_)
      simp [nI_1, stBT, ← Int32.not_le, h0]
set_option maxRecDepth 20000 in
set_option maxHeartbeats 200000 in
theorem c_X7_bestToTry (d : Nat) (g : Nat → Nat → Int32) (tr : Int64) {n q dn : Nat} (hc : CI n q dn g) {k : Nat} (hk : g 100 0 = nI k) (ht : TI n k (tC k g)) (z : Int32) : Ev (d + 4) 72 0 [.ref 78, .ref 16, .int z, .null, .null, .null, .null] [] (wC g tr) (some (.int ((BTT n k (tC k g) (vC n q dn g) z).1))) (wC g tr) := by
  refine Ev.sn e_X7_bestToTry 6 (i' := 6) (ls' := [_, _, _, _, _, _, _]) (st' := []) rfl ?_
  exact lp_X7_bestToTry _ _ _ hc hk ht _ n 0 (-9, 49) (by omega)
