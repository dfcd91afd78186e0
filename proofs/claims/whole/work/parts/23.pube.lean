/-! what is done (class) -/
theorem vC_congr {n q dn : Nat} {g g1 : Nat → Nat → Int32} (h : ∀ x, x < 60 → g1 x = g x) : vC n q dn g1 = vC n q dn g := by
  funext r
  unfold vC
  rw [h 32 (by omega), h 51 (by omega), h 34 (by omega), h 35 (by omega), h 52 (by omega), h 37 (by omega), h 30 (by omega), h 31 (by omega), h 38 (by omega), h 39 (by omega), h 40 (by omega), h 41 (by omega), h 50 (by omega)]
theorem CI.keep {n q dn : Nat} {g g1 : Nat → Nat → Int32} (hc : CI n q dn g) (h : ∀ x, x < 60 → g1 x = g x) : CI n q dn g1 := by
  unfold CI
  rw [vC_congr h, h 42 (by omega)]
  exact hc
theorem RMB.low {g g' : Nat → Nat → Int32} {o k : Nat} (h : RMB g g' o k) : ∀ x, x < 60 → g' x = g x := by
  obtain ⟨o', k', r, -, -, -, -, -, -, h1, -⟩ := h
  exact fun x hx => h1 x (by omega) (by omega)
theorem vC_12 {n q dn : Nat} {g : Nat → Nat → Int32} (f : Nat → Int32) : vC n q dn (va_up g 50 f) = va_up (vC n q dn g) 12 (cut n f) := by
  funext r
  by_cases h : r = 12
  · subst h; rfl
  · rw [va_up_ne _ _ h]
    unfold vC
    split <;> first | rfl | exact absurd rfl h
theorem vC_1 {n q dn : Nat} {g : Nat → Nat → Int32} (f : Nat → Int32) : vC n q dn (va_up g 51 f) = va_up (vC n q dn g) 1 (cut n f) := by
  funext r
  by_cases h : r = 1
  · subst h; rfl
  · rw [va_up_ne _ _ h]
    unfold vC
    split <;> first | rfl | exact absurd rfl h
theorem vC_4 {n q dn : Nat} {g : Nat → Nat → Int32} (f : Nat → Int32) : vC n q dn (va_up g 52 f) = va_up (vC n q dn g) 4 (cut q f) := by
  funext r
  by_cases h : r = 4
  · subst h; rfl
  · rw [va_up_ne _ _ h]
    unfold vC
    split <;> first | rfl | exact absurd rfl h
/-- whose the THINGS are, rightly said -/
def OWF (n q : Nat) (f : Nat → Int32) : Prop := ∀ t, t < n → f t = -9 ∨ ∃ p, p < q ∧ f t = nI p
theorem WF.ow {n q dn : Nat} {v : VW} {f : Nat → Int32} (h : WF n q dn v) (hf : OWF n q f) : WF n q dn (va_up v 12 f) := by
  obtain ⟨h1, h2, h3, h4, h5, h6⟩ := h
  exact ⟨h1, h2, h3, h4, h5, hf⟩
theorem WF.ts {n q dn : Nat} {v : VW} {f : Nat → Int32} (h : WF n q dn v) (hf : ∀ t, t < n → btw 1 48 (f t)) : WF n q dn (va_up v 1 f) := by
  obtain ⟨h1, h2, h3, h4, h5, h6⟩ := h
  exact ⟨h1, fun t ht => ⟨(h2 t ht).1, hf t ht, (h2 t ht).2.2⟩, h3, h4, h5, h6⟩
theorem WF.ps {n q dn : Nat} {v : VW} {f : Nat → Int32} (h : WF n q dn v) (hf : ∀ t, t < q → btw 1 48 (f t)) : WF n q dn (va_up v 4 f) := by
  obtain ⟨h1, h2, h3, h4, h5, h6⟩ := h
  exact ⟨h1, h2, fun p hp => ⟨hf p hp, (h3 p hp).2⟩, h4, h5, h6⟩
theorem OWF.cut {n q : Nat} {f : Nat → Int32} (h : OWF n q f) : OWF n q (cut n f) := fun t ht => by rw [cut_lt ht]; exact h t ht
theorem CI.ow {n q dn : Nat} {g : Nat → Nat → Int32} {f : Nat → Int32} (hc : CI n q dn g) (hf : OWF n q f) : CI n q dn (va_up g 50 f) := ⟨hc.1, hc.2.1, hc.2.2.1, by rw [vC_12]; exact hc.w.ow hf.cut⟩
theorem CI.ts {n q dn : Nat} {g : Nat → Nat → Int32} {f : Nat → Int32} (hc : CI n q dn g) (hf : ∀ t, t < n → btw 1 48 (f t)) : CI n q dn (va_up g 51 f) := ⟨hc.1, hc.2.1, hc.2.2.1, by rw [vC_1]; exact hc.w.ts (fun t ht => by rw [cut_lt ht]; exact hf t ht)⟩
theorem CI.ps {n q dn : Nat} {g : Nat → Nat → Int32} {f : Nat → Int32} (hc : CI n q dn g) (hf : ∀ t, t < q → btw 1 48 (f t)) : CI n q dn (va_up g 52 f) := ⟨hc.1, hc.2.1, hc.2.2.1, by rw [vC_4]; exact hc.w.ps (fun t ht => by rw [cut_lt ht]; exact hf t ht)⟩
theorem CI.own {n q dn : Nat} {g : Nat → Nat → Int32} (hc : CI n q dn g) : OWF n q (g 50) := fun t ht => by
  have := hc.w.2.2.2.2.2 t ht
  rw [show vC n q dn g 12 t = g 50 t from cut_lt ht] at this
  exact this
theorem OWF.upd9 {n q : Nat} {f : Nat → Int32} (h : OWF n q f) (j : Nat) : OWF n q (upd f j (-9)) := fun t ht => by
  by_cases e : t = j
  · subst e; rw [pk_us]; exact Or.inl rfl
  · rw [pk_un e]; exact h t ht
theorem OWF.updp {n q : Nat} {f : Nat → Int32} (h : OWF n q f) (j : Nat) {p : Nat} (hp : p < q) : OWF n q (upd f j (nI p)) := fun t ht => by
  by_cases e : t = j
  · subst e; rw [pk_us]; exact Or.inr ⟨p, hp, rfl⟩
  · rw [pk_un e]; exact h t ht
def stFR (v : VW) (t : Nat) (f : Nat → Int32) : Nat → Int32 := if f t = -9 then f else if fpB v t (f t).toNatClampNeg = true then f else upd f t (-9)
def FRE (n : Nat) (v : VW) (f : Nat → Int32) : Nat → Int32 := fo (stFR v) n 0 f
theorem stFR_ok {n q : Nat} {v : VW} {t : Nat} {f : Nat → Int32} (h : OWF n q f) : OWF n q (stFR v t f) := by
  unfold stFR
  split
  · exact h
  · split
    · exact h
    · exact h.upd9 t
theorem FRE_ok {n q : Nat} {v : VW} : ∀ (k p : Nat) (f : Nat → Int32), OWF n q f → OWF n q (fo (stFR v) k p f)
  | 0, _, _, h => h
  | k + 1, p, f, h => FRE_ok k (p + 1) _ (stFR_ok h)
theorem nI_n9 {p : Nat} (hp : p < 2000) : ¬ nI p = -9 := fun h => by
  have h2 := congrArg Int32.toInt h
  rw [nI_toInt (by omega)] at h2
  have h3 : (-9 : Int32).toInt = -9 := by decide
  omega
set_option maxRecDepth 20000 in
set_option maxHeartbeats 200000 in
theorem lp_X2_freeWhatDoesNotFit (d : Nat) (g : Nat → Nat → Int32) (tr : Int64) {n q dn : Nat} (hc : CI n q dn g) : ∀ (kk p : Nat) (f : Nat → Int32), p + kk = n → OWF n q f → Ev (d + 2) 26 2 [.ref 16, .int (nI p)] [] (wC (va_up g 50 f) tr) none (wC (va_up g 50 (fo (stFR (vC n q dn g)) kk p f)) tr) := by
  intro kk
  induction kk with
  | zero =>
    intro p f hp hf
    have hb := hc.b
    refine Ev.sn e_X2_freeWhatDoesNotFit 4 (i' := 6) (ls' := [_, _]) (st' := [_, _]) rfl ?_
    refine Ev.brT (i1 := 31) (i2 := 7) e_X2_freeWhatDoesNotFit rfl rfl (ge_t hc.hn (by omega) (by omega)) ?_
    exact Ev.vret e_X2_freeWhatDoesNotFit rfl rfl rfl
  | succ kk ih =>
    intro p f hp hf
    rw [fo_s (k := kk)]
    have hb := hc.b
    have hc2 := hc.ow hf
    refine Ev.sn e_X2_freeWhatDoesNotFit 4 (i' := 6) (ls' := [_, _]) (st' := [_, _]) rfl ?_
    refine Ev.brF (i1 := 31) (i2 := 7) e_X2_freeWhatDoesNotFit rfl rfl (ge_f hc.hn (by omega) (by omega)) ?_
    refine Ev.sn e_X2_freeWhatDoesNotFit 4 (i' := 11) (ls' := [_, _]) (st' := [_, _]) rfl ?_
    refine Ev.ialdE e_X2_freeWhatDoesNotFit rfl rfl rfl rfl rfl (by omega) ?_
    refine Ev.sn e_X2_freeWhatDoesNotFit 1 (i' := 13) (ls' := [_, _]) (st' := [_, _]) rfl ?_
    refine Ev.br (i1 := 29) (i2 := 14) e_X2_freeWhatDoesNotFit rfl rfl (fun h0 => ?_) (fun h0 => ?_)
    · refine Ev.sn e_X2_freeWhatDoesNotFit 2 (i' := 2) (ls' := [_, _]) (st' := []) rfl ?_
      rw [nI_1, show stFR (vC n q dn g) p f = f from if_pos h0]
      exact ih (p + 1) f (by omega) hf
    · obtain ⟨x, hx, ex⟩ := (hf p (by omega)).resolve_left h0
      have exc : (f p).toNatClampNeg = x := by rw [ex]; exact nI_clamp (by omega)
      refine Ev.sn e_X2_freeWhatDoesNotFit 6 (i' := 20) (ls' := [_, _]) (st' := [_, _, _, _]) rfl ?_
      refine Ev.ialdE e_X2_freeWhatDoesNotFit rfl rfl rfl rfl rfl (by omega) ?_
      refine Ev.clV e_X2_freeWhatDoesNotFit rfl rfl (as := [_, _]) rfl rfl rfl kl_X2_fitsPerson rfl rfl rfl (by rw [show (va_up g 50 f) 50 p = nI x from ex]; exact c_X2_fitsPerson _ _ _ hc2 (by omega) hx) rfl ?_
      refine Ev.brB (i1 := 23) (i2 := 29) e_X2_freeWhatDoesNotFit rfl rfl (fun h1 => ?_) (fun h1 => ?_)
      · refine Ev.sn e_X2_freeWhatDoesNotFit 5 (i' := 28) (ls' := [_, _]) (st' := [_, _, _]) rfl ?_
        refine Ev.iastE e_X2_freeWhatDoesNotFit rfl rfl rfl rfl (by omega) (w1 := (wC (va_up g 50 (upd f p (-9))) tr)) rfl ?_
        refine Ev.sn e_X2_freeWhatDoesNotFit 2 (i' := 2) (ls' := [_, _]) (st' := []) rfl ?_
        rw [nI_1, show stFR (vC n q dn g) p f = upd f p (-9) by unfold stFR; rw [if_neg (show ¬ f p = -9 from h0), exc, if_neg (by rw [show fpB (vC n q dn g) p x = false from h1]; decide)]]
        exact ih (p + 1) _ (by omega) (hf.upd9 p)
      · refine Ev.sn e_X2_freeWhatDoesNotFit 2 (i' := 2) (ls' := [_, _]) (st' := []) rfl ?_
        rw [nI_1, show stFR (vC n q dn g) p f = f by unfold stFR; rw [if_neg (show ¬ f p = -9 from h0), exc, if_pos (show fpB (vC n q dn g) p x = true from h1)]]
        exact ih (p + 1) f (by omega) hf
set_option maxRecDepth 20000 in
set_option maxHeartbeats 200000 in
theorem c_X2_freeWhatDoesNotFit (d : Nat) (g : Nat → Nat → Int32) (tr : Int64) {n q dn : Nat} (hc : CI n q dn g) : Ev (d + 2) 26 0 [.ref 16, .null] [] (wC g tr) none (wC (va_up g 50 (FRE n (vC n q dn g) (g 50))) tr) := by
  have hb := hc.b
  refine Ev.sn e_X2_freeWhatDoesNotFit 2 (i' := 2) (ls' := [_, _]) (st' := []) rfl ?_
  refine Ev.wd (w2 := (wC (va_up g 50 (g 50)) tr)) rfl ?_
  exact lp_X2_freeWhatDoesNotFit _ _ _ hc n 0 (g 50) (by omega) hc.own
set_option maxRecDepth 20000 in
set_option maxHeartbeats 200000 in
theorem c_X8_lays_b (d : Nat) (g : Nat → Nat → Int32) (tr : Int64) {n q dn : Nat} (hc : CI n q dn g) (t p : Int32) (h : ((decide (0 ≤ t) && decide (t < nI n)) && (decide (0 ≤ p) && decide (p < nI q))) = false) : Ev (d + 3) 82 0 [.ref 0, .int t, .int p] [] (wC g tr) (some (.int (-1))) (wC g tr) := by
  have hb := hc.b
  refine Ev.sn e_X8_lays 3 (i' := 3) (ls' := [_, _, _]) (st' := [_, _]) rfl ?_
  refine Ev.clV e_X8_lays rfl rfl (as := [_]) rfl rfl rfl kl_X2_hasThing rfl rfl rfl (c_X2_hasThing _ _ _ hc _) rfl ?_
  refine Ev.brB (i1 := 10) (i2 := 5) e_X8_lays rfl rfl (fun h0 => ?_) (fun h0 => ?_)
  · refine Ev.sn e_X8_lays 1 (i' := 11) (ls' := [_, _, _]) (st' := [_]) rfl ?_
    refine Ev.iret e_X8_lays rfl rfl rfl ?_ rfl
    rfl
  · refine Ev.sn e_X8_lays 3 (i' := 8) (ls' := [_, _, _]) (st' := [_, _]) rfl ?_
    refine Ev.clV e_X8_lays rfl rfl (as := [_]) rfl rfl rfl kl_X2_hasPerson rfl rfl rfl (c_X2_hasPerson _ _ _ hc _) rfl ?_
    refine Ev.brB (i1 := 10) (i2 := 12) e_X8_lays rfl rfl (fun h1 => ?_) (fun h1 => ?_)
    · refine Ev.sn e_X8_lays 1 (i' := 11) (ls' := [_, _, _]) (st' := [_]) rfl ?_
      refine Ev.iret e_X8_lays rfl rfl rfl ?_ rfl
      rfl
    · exact absurd h (by rw [h0, h1]; decide)
theorem g_ok {j n : Nat} (h : j < n) (hn : n < 2000) : (decide (0 ≤ nI j) && decide (nI j < nI n)) = true := by simp [nI_pos' (show j < 2 ^ 31 by omega), nI_lt h (show n < 2 ^ 31 by omega)]
set_option maxRecDepth 20000 in
set_option maxHeartbeats 200000 in
theorem c_X8_lays_f (d : Nat) (g : Nat → Nat → Int32) (tr : Int64) {n q dn : Nat} (hc : CI n q dn g) {t p : Nat} (ht : t < n) (hp : p < q) (h : (decide ((vC n q dn g) 12 t = -9) && (fpB (vC n q dn g) t p && !HOO n (vC n q dn g) (nI p) ((vC n q dn g) 0 t))) = false) : Ev (d + 3) 82 0 [.ref 0, .int (nI t), .int (nI p)] [] (wC g tr) (some (.int (-2))) (wC g tr) := by
  have hb := hc.b
  refine Ev.sn e_X8_lays 3 (i' := 3) (ls' := [_, _, _]) (st' := [_, _]) rfl ?_
  refine Ev.clV e_X8_lays rfl rfl (as := [_]) rfl rfl rfl kl_X2_hasThing rfl rfl rfl (c_X2_hasThing _ _ _ hc _) rfl ?_
  refine Ev.brF (i1 := 10) (i2 := 5) e_X8_lays rfl rfl (bF (g_ok ht (by omega))) ?_
  refine Ev.sn e_X8_lays 3 (i' := 8) (ls' := [_, _, _]) (st' := [_, _]) rfl ?_
  refine Ev.clV e_X8_lays rfl rfl (as := [_]) rfl rfl rfl kl_X2_hasPerson rfl rfl rfl (c_X2_hasPerson _ _ _ hc _) rfl ?_
  refine Ev.brF (i1 := 10) (i2 := 12) e_X8_lays rfl rfl (bF (g_ok hp (by omega))) ?_
  refine Ev.sn e_X8_lays 4 (i' := 16) (ls' := [_, _, _]) (st' := [_, _, _]) rfl ?_
  refine Ev.clV e_X8_lays rfl rfl (as := [_, _]) rfl rfl rfl kl_X2_canLay rfl rfl rfl (c_X2_canLay _ _ _ hc ht hp) rfl ?_
  refine Ev.brT (i1 := 18) (i2 := 20) e_X8_lays rfl rfl (bT h) ?_
  refine Ev.sn e_X8_lays 1 (i' := 19) (ls' := [_, _, _]) (st' := [_]) rfl ?_
  refine Ev.iret e_X8_lays rfl rfl rfl ?_ rfl
  rfl
set_option maxRecDepth 20000 in
set_option maxHeartbeats 200000 in
theorem c_X8_lays_s (d : Nat) (g : Nat → Nat → Int32) (tr : Int64) {n q dn : Nat} (hc : CI n q dn g) {o k : Nat} (ho : g 90 0 = nI o) (hk : g 90 1 = nI k) (ho10 : o < 10) (hk10 : k ≤ 10) {t p : Nat} (ht : t < n) (hp : p < q) (h : (decide ((vC n q dn g) 12 t = -9) && (fpB (vC n q dn g) t p && !HOO n (vC n q dn g) (nI p) ((vC n q dn g) 0 t))) = true) : ∃ g1, RMB g g1 o k ∧ Ev (d + 3) 82 0 [.ref 0, .int (nI t), .int (nI p)] [] (wC g tr) (some (.int (bcI (TOF n (vC n q dn (va_up g1 50 (upd (g1 50) t (nI p)))) (nI p))))) (wC (va_up g1 50 (upd (g1 50) t (nI p))) tr) := by
  have hb := hc.b
  obtain ⟨g1, hr1, hr2⟩ := c_X1_remember (d + 0) g tr ho hk ho10 hk10
  have hlow := hr2.low
  have hc1 := hc.keep hlow
  have hc2 := hc1.ow (hc1.own.updp t hp)
  refine ⟨g1, hr2, ?_⟩
  refine Ev.sn e_X8_lays 3 (i' := 3) (ls' := [_, _, _]) (st' := [_, _]) rfl ?_
  refine Ev.clV e_X8_lays rfl rfl (as := [_]) rfl rfl rfl kl_X2_hasThing rfl rfl rfl (c_X2_hasThing _ _ _ hc _) rfl ?_
  refine Ev.brF (i1 := 10) (i2 := 5) e_X8_lays rfl rfl (bF (g_ok ht (by omega))) ?_
  refine Ev.sn e_X8_lays 3 (i' := 8) (ls' := [_, _, _]) (st' := [_, _]) rfl ?_
  refine Ev.clV e_X8_lays rfl rfl (as := [_]) rfl rfl rfl kl_X2_hasPerson rfl rfl rfl (c_X2_hasPerson _ _ _ hc _) rfl ?_
  refine Ev.brF (i1 := 10) (i2 := 12) e_X8_lays rfl rfl (bF (g_ok hp (by omega))) ?_
  refine Ev.sn e_X8_lays 4 (i' := 16) (ls' := [_, _, _]) (st' := [_, _, _]) rfl ?_
  refine Ev.clV e_X8_lays rfl rfl (as := [_, _]) rfl rfl rfl kl_X2_canLay rfl rfl rfl (c_X2_canLay _ _ _ hc ht hp) rfl ?_
  refine Ev.brF (i1 := 18) (i2 := 20) e_X8_lays rfl rfl (bF h) ?_
  refine Ev.sn e_X8_lays 5 (i' := 25) (ls' := [_, _, _]) (st' := [_, _]) rfl ?_
  refine Ev.clV e_X8_lays rfl rfl (as := [_]) rfl rfl rfl kl_X1_remember rfl rfl rfl (hr1) rfl ?_
  refine Ev.sn e_X8_lays 6 (i' := 32) (ls' := [_, _, _]) (st' := [_, _, _]) rfl ?_
  refine Ev.iastE e_X8_lays rfl rfl rfl rfl (by omega) (w1 := wC (va_up g1 50 (upd (g1 50) t (nI p))) tr) rfl ?_
  refine Ev.sn e_X8_lays 3 (i' := 36) (ls' := [_, _, _]) (st' := [_, _]) rfl ?_
  refine Ev.clV e_X8_lays rfl rfl (as := [_]) rfl rfl rfl kl_X2_thingsOf rfl rfl rfl (c_X2_thingsOf _ _ _ hc2 _) rfl ?_
  refine Ev.clS e_X8_lays rfl rfl rfl (as := [_]) rfl rfl rfl rfl rfl (c_J6_bitCount_0f7a4 _ _ _) rfl ?_
  refine Ev.iret e_X8_lays rfl rfl rfl ?_ rfl
  rfl
set_option maxRecDepth 20000 in
set_option maxHeartbeats 200000 in
theorem c_X8_takes_b (d : Nat) (g : Nat → Nat → Int32) (tr : Int64) {n q dn : Nat} (hc : CI n q dn g) (t : Int32) (h : (decide (0 ≤ t) && decide (t < nI n)) = false) : Ev (d + 3) 83 0 [.ref 0, .int t, .null] [] (wC g tr) (some (.int (-1))) (wC g tr) := by
  have hb := hc.b
  refine Ev.sn e_X8_takes 3 (i' := 3) (ls' := [_, _, _]) (st' := [_, _]) rfl ?_
  refine Ev.clV e_X8_takes rfl rfl (as := [_]) rfl rfl rfl kl_X2_hasThing rfl rfl rfl (c_X2_hasThing _ _ _ hc _) rfl ?_
  refine Ev.brT (i1 := 5) (i2 := 7) e_X8_takes rfl rfl (bT h) ?_
  refine Ev.sn e_X8_takes 1 (i' := 6) (ls' := [_, _, _]) (st' := [_]) rfl ?_
  refine Ev.iret e_X8_takes rfl rfl rfl ?_ rfl
  rfl
set_option maxRecDepth 20000 in
set_option maxHeartbeats 200000 in
theorem c_X8_takes_f (d : Nat) (g : Nat → Nat → Int32) (tr : Int64) {n q dn : Nat} (hc : CI n q dn g) {t : Nat} (ht : t < n) (h : g 50 t = -9) : Ev (d + 3) 83 0 [.ref 0, .int (nI t), .null] [] (wC g tr) (some (.int (-2))) (wC g tr) := by
  have hb := hc.b
  refine Ev.sn e_X8_takes 3 (i' := 3) (ls' := [_, _, _]) (st' := [_, _]) rfl ?_
  refine Ev.clV e_X8_takes rfl rfl (as := [_]) rfl rfl rfl kl_X2_hasThing rfl rfl rfl (c_X2_hasThing _ _ _ hc _) rfl ?_
  refine Ev.brF (i1 := 5) (i2 := 7) e_X8_takes rfl rfl (bF (g_ok ht (by omega))) ?_
  refine Ev.sn e_X8_takes 5 (i' := 12) (ls' := [_, _, _]) (st' := [_, _]) rfl ?_
  refine Ev.ialdE e_X8_takes rfl rfl rfl rfl rfl (by omega) ?_
  refine Ev.sn e_X8_takes 3 (i' := 16) (ls' := [_, _, _]) (st' := [_, _]) rfl ?_
  refine Ev.brT (i1 := 17) (i2 := 19) e_X8_takes rfl rfl (h) ?_
  refine Ev.sn e_X8_takes 1 (i' := 18) (ls' := [_, _, _]) (st' := [_]) rfl ?_
  refine Ev.iret e_X8_takes rfl rfl rfl ?_ rfl
  rfl
set_option maxRecDepth 20000 in
set_option maxHeartbeats 200000 in
theorem c_X8_takes_s (d : Nat) (g : Nat → Nat → Int32) (tr : Int64) {n q dn : Nat} (hc : CI n q dn g) {o k : Nat} (ho : g 90 0 = nI o) (hk : g 90 1 = nI k) (ho10 : o < 10) (hk10 : k ≤ 10) {t : Nat} (ht : t < n) (h : ¬ g 50 t = -9) : ∃ g1, RMB g g1 o k ∧ Ev (d + 3) 83 0 [.ref 0, .int (nI t), .null] [] (wC g tr) (some (.int (g 50 t))) (wC (va_up g1 50 (upd (g1 50) t (-9))) tr) := by
  have hb := hc.b
  obtain ⟨g1, hr1, hr2⟩ := c_X1_remember (d + 0) g tr ho hk ho10 hk10
  have hlow := hr2.low
  have hc1 := hc.keep hlow
  refine ⟨g1, hr2, ?_⟩
  refine Ev.sn e_X8_takes 3 (i' := 3) (ls' := [_, _, _]) (st' := [_, _]) rfl ?_
  refine Ev.clV e_X8_takes rfl rfl (as := [_]) rfl rfl rfl kl_X2_hasThing rfl rfl rfl (c_X2_hasThing _ _ _ hc _) rfl ?_
  refine Ev.brF (i1 := 5) (i2 := 7) e_X8_takes rfl rfl (bF (g_ok ht (by omega))) ?_
  refine Ev.sn e_X8_takes 5 (i' := 12) (ls' := [_, _, _]) (st' := [_, _]) rfl ?_
  refine Ev.ialdE e_X8_takes rfl rfl rfl rfl rfl (by omega) ?_
  refine Ev.sn e_X8_takes 3 (i' := 16) (ls' := [_, _, _]) (st' := [_, _]) rfl ?_
  refine Ev.brF (i1 := 17) (i2 := 19) e_X8_takes rfl rfl (h) ?_
  refine Ev.sn e_X8_takes 5 (i' := 24) (ls' := [_, _, _]) (st' := [_, _]) rfl ?_
  refine Ev.clV e_X8_takes rfl rfl (as := [_]) rfl rfl rfl kl_X1_remember rfl rfl rfl (hr1) rfl ?_
  refine Ev.sn e_X8_takes 6 (i' := 31) (ls' := [_, _, _]) (st' := [_, _, _]) rfl ?_
  refine Ev.iastE e_X8_takes rfl rfl rfl rfl (by omega) (w1 := wC (va_up g1 50 (upd (g1 50) t (-9))) tr) rfl ?_
  refine Ev.sn e_X8_takes 1 (i' := 33) (ls' := [_, _, _]) (st' := [_]) rfl ?_
  refine Ev.iret e_X8_takes rfl rfl rfl ?_ rfl
  rfl
set_option maxRecDepth 20000 in
set_option maxHeartbeats 200000 in
theorem c_X8_undo_f (d : Nat) (g : Nat → Nat → Int32) (tr : Int64) (h : g 90 1 = 0) : Ev (d + 3) 85 0 [.ref 0] [] (wC g tr) (some (.int (-2))) (wC g tr) := by
  refine Ev.sn e_X8_undo 2 (i' := 2) (ls' := [_]) (st' := [_]) rfl ?_
  refine Ev.clV e_X8_undo rfl rfl (as := []) rfl rfl rfl kl_X1_size rfl rfl rfl (c_X1_size _ _ _) rfl ?_
  refine Ev.brT (i1 := 4) (i2 := 6) e_X8_undo rfl rfl (h) ?_
  refine Ev.sn e_X8_undo 1 (i' := 5) (ls' := [_]) (st' := [_]) rfl ?_
  refine Ev.iret e_X8_undo rfl rfl rfl ?_ rfl
  rfl
set_option maxRecDepth 20000 in
set_option maxHeartbeats 200000 in
theorem c_X8_undo_s (d : Nat) (g : Nat → Nat → Int32) (tr : Int64) {o k r : Nat} (ho : g 90 0 = nI o) (hk : g 90 1 = nI (k + 1)) (ho10 : o < 10) (hk10 : k < 10) (hr : r = (o + k) % 10) : Ev (d + 3) 85 0 [.ref 0] [] (wC g tr) (some (.int (nI k))) (wC (resT g r k) tr) := by
  refine Ev.sn e_X8_undo 2 (i' := 2) (ls' := [_]) (st' := [_]) rfl ?_
  refine Ev.clV e_X8_undo rfl rfl (as := []) rfl rfl rfl kl_X1_size rfl rfl rfl (c_X1_size _ _ _) rfl ?_
  refine Ev.brF (i1 := 4) (i2 := 6) e_X8_undo rfl rfl ((by rw [hk]; exact nI_ne0 (by omega) (by omega))) ?_
  refine Ev.sn e_X8_undo 5 (i' := 11) (ls' := [_]) (st' := [_, _]) rfl ?_
  refine Ev.clV e_X8_undo rfl rfl (as := [_]) rfl rfl rfl kl_X1_restoreLatest rfl rfl rfl (c_X1_restoreLatest _ _ _ ho hk ho10 hk10 hr) rfl ?_
  refine Ev.sn e_X8_undo 2 (i' := 14) (ls' := [_]) (st' := [_]) rfl ?_
  refine Ev.clV e_X8_undo rfl rfl (as := []) rfl rfl rfl kl_X1_size rfl rfl rfl (c_X1_size _ _ _) rfl ?_
  refine Ev.iret e_X8_undo rfl rfl rfl ?_ rfl
  unfold resT cp3
  rw [va_up_ne _ _ (by omega), va_up_ne _ _ (by omega), va_up_ne _ _ (by omega), va_up_self, pk_us]
def gRS (n q : Nat) (a i s : Int32) : Bool := ((if a = 1 then (decide (0 ≤ i) && decide (i < nI n)) else (decide (a = 0) && (decide (0 ≤ i) && decide (i < nI q)))) && (decide (1 ≤ s) && decide (s ≤ 48)))
set_option maxRecDepth 20000 in
set_option maxHeartbeats 200000 in
theorem c_X8_rescales_b (d : Nat) (g : Nat → Nat → Int32) (tr : Int64) {n q dn : Nat} (hc : CI n q dn g) (a i s : Int32) (h : gRS n q a i s = false) : Ev (d + 3) 84 0 [.ref 0, .int a, .int i, .int s, .null, .null, .null] [] (wC g tr) (some (.int (-1))) (wC g tr) := by
  have hb := hc.b
  refine Ev.sn e_X8_rescales 2 (i' := 2) (ls' := [_, _, _, _, _, _, _]) (st' := [_, _]) rfl ?_
  refine Ev.br (i1 := 3) (i2 := 8) e_X8_rescales rfl rfl (fun h0 => ?_) (fun h0 => ?_)
  · refine Ev.sn e_X8_rescales 3 (i' := 6) (ls' := [_, _, _, _, _, _, _]) (st' := [_, _]) rfl ?_
    refine Ev.clV e_X8_rescales rfl rfl (as := [_]) rfl rfl rfl kl_X2_hasThing rfl rfl rfl (c_X2_hasThing _ _ _ hc _) rfl ?_
    refine Ev.sn e_X8_rescales 3 (i' := 20) (ls' := [_, _, _, _, _, _, _]) (st' := [_]) rfl ?_
    refine Ev.brB (i1 := 27) (i2 := 21) e_X8_rescales rfl rfl (fun h20 => ?_) (fun h20 => ?_)
    · exact Ev.sn e_X8_rescales 1 (i' := 28) (ls' := [_, _, _, _, _, _, _]) (st' := [_]) rfl (Ev.iret e_X8_rescales rfl rfl rfl rfl rfl)
    · refine Ev.sn e_X8_rescales 2 (i' := 23) (ls' := [_, _, _, _, _, _, _]) (st' := [_, _]) rfl ?_
      refine Ev.br (i1 := 27) (i2 := 24) e_X8_rescales rfl rfl (fun h2 => ?_) (fun h2 => ?_)
      · exact Ev.sn e_X8_rescales 1 (i' := 28) (ls' := [_, _, _, _, _, _, _]) (st' := [_]) rfl (Ev.iret e_X8_rescales rfl rfl rfl rfl rfl)
      · refine Ev.sn e_X8_rescales 2 (i' := 26) (ls' := [_, _, _, _, _, _, _]) (st' := [_, _]) rfl ?_
        refine Ev.br (i1 := 29) (i2 := 27) e_X8_rescales rfl rfl (fun h3 => ?_) (fun h3 => ?_)
        · exfalso
          simp_all [gRS, bI, Int32.not_lt]
        · exact Ev.sn e_X8_rescales 1 (i' := 28) (ls' := [_, _, _, _, _, _, _]) (st' := [_]) rfl (Ev.iret e_X8_rescales rfl rfl rfl rfl rfl)
  · refine Ev.sn e_X8_rescales 1 (i' := 9) (ls' := [_, _, _, _, _, _, _]) (st' := [_]) rfl ?_
    refine Ev.br (i1 := 10) (i2 := 17) e_X8_rescales rfl rfl (fun h4 => ?_) (fun h4 => ?_)
    · refine Ev.sn e_X8_rescales 3 (i' := 13) (ls' := [_, _, _, _, _, _, _]) (st' := [_, _]) rfl ?_
      refine Ev.clV e_X8_rescales rfl rfl (as := [_]) rfl rfl rfl kl_X2_hasPerson rfl rfl rfl (c_X2_hasPerson _ _ _ hc _) rfl ?_
      refine Ev.brB (i1 := 17) (i2 := 15) e_X8_rescales rfl rfl (fun h5 => ?_) (fun h5 => ?_)
      · refine Ev.sn e_X8_rescales 3 (i' := 20) (ls' := [_, _, _, _, _, _, _]) (st' := [_]) rfl ?_
        refine Ev.br (i1 := 27) (i2 := 21) e_X8_rescales rfl rfl (fun h20 => ?_) (fun h20 => ?_)
        · exact Ev.sn e_X8_rescales 1 (i' := 28) (ls' := [_, _, _, _, _, _, _]) (st' := [_]) rfl (Ev.iret e_X8_rescales rfl rfl rfl rfl rfl)
        · refine Ev.sn e_X8_rescales 2 (i' := 23) (ls' := [_, _, _, _, _, _, _]) (st' := [_, _]) rfl ?_
          refine Ev.br (i1 := 27) (i2 := 24) e_X8_rescales rfl rfl (fun h7 => ?_) (fun h7 => ?_)
          · exact Ev.sn e_X8_rescales 1 (i' := 28) (ls' := [_, _, _, _, _, _, _]) (st' := [_]) rfl (Ev.iret e_X8_rescales rfl rfl rfl rfl rfl)
          · refine Ev.sn e_X8_rescales 2 (i' := 26) (ls' := [_, _, _, _, _, _, _]) (st' := [_, _]) rfl ?_
            refine Ev.br (i1 := 29) (i2 := 27) e_X8_rescales rfl rfl (fun h8 => ?_) (fun h8 => ?_)
            · exfalso
              simp_all [gRS, bI, Int32.not_lt]
            · exact Ev.sn e_X8_rescales 1 (i' := 28) (ls' := [_, _, _, _, _, _, _]) (st' := [_]) rfl (Ev.iret e_X8_rescales rfl rfl rfl rfl rfl)
      · refine Ev.sn e_X8_rescales 4 (i' := 20) (ls' := [_, _, _, _, _, _, _]) (st' := [_]) rfl ?_
        refine Ev.br (i1 := 27) (i2 := 21) e_X8_rescales rfl rfl (fun h20 => ?_) (fun h20 => ?_)
        · exact Ev.sn e_X8_rescales 1 (i' := 28) (ls' := [_, _, _, _, _, _, _]) (st' := [_]) rfl (Ev.iret e_X8_rescales rfl rfl rfl rfl rfl)
        · refine Ev.sn e_X8_rescales 2 (i' := 23) (ls' := [_, _, _, _, _, _, _]) (st' := [_, _]) rfl ?_
          refine Ev.br (i1 := 27) (i2 := 24) e_X8_rescales rfl rfl (fun h10 => ?_) (fun h10 => ?_)
          · exact Ev.sn e_X8_rescales 1 (i' := 28) (ls' := [_, _, _, _, _, _, _]) (st' := [_]) rfl (Ev.iret e_X8_rescales rfl rfl rfl rfl rfl)
          · refine Ev.sn e_X8_rescales 2 (i' := 26) (ls' := [_, _, _, _, _, _, _]) (st' := [_, _]) rfl ?_
            refine Ev.br (i1 := 29) (i2 := 27) e_X8_rescales rfl rfl (fun h11 => ?_) (fun h11 => ?_)
            · exfalso
              simp_all [gRS, bI, Int32.not_lt]
            · exact Ev.sn e_X8_rescales 1 (i' := 28) (ls' := [_, _, _, _, _, _, _]) (st' := [_]) rfl (Ev.iret e_X8_rescales rfl rfl rfl rfl rfl)
    · refine Ev.sn e_X8_rescales 3 (i' := 20) (ls' := [_, _, _, _, _, _, _]) (st' := [_]) rfl ?_
      refine Ev.br (i1 := 27) (i2 := 21) e_X8_rescales rfl rfl (fun h20 => ?_) (fun h20 => ?_)
      · exact Ev.sn e_X8_rescales 1 (i' := 28) (ls' := [_, _, _, _, _, _, _]) (st' := [_]) rfl (Ev.iret e_X8_rescales rfl rfl rfl rfl rfl)
      · refine Ev.sn e_X8_rescales 2 (i' := 23) (ls' := [_, _, _, _, _, _, _]) (st' := [_, _]) rfl ?_
        refine Ev.br (i1 := 27) (i2 := 24) e_X8_rescales rfl rfl (fun h13 => ?_) (fun h13 => ?_)
        · exact Ev.sn e_X8_rescales 1 (i' := 28) (ls' := [_, _, _, _, _, _, _]) (st' := [_]) rfl (Ev.iret e_X8_rescales rfl rfl rfl rfl rfl)
        · refine Ev.sn e_X8_rescales 2 (i' := 26) (ls' := [_, _, _, _, _, _, _]) (st' := [_, _]) rfl ?_
          refine Ev.br (i1 := 29) (i2 := 27) e_X8_rescales rfl rfl (fun h14 => ?_) (fun h14 => ?_)
          · exfalso
            simp_all [gRS, bI, Int32.not_lt]
          · exact Ev.sn e_X8_rescales 1 (i' := 28) (ls' := [_, _, _, _, _, _, _]) (st' := [_]) rfl (Ev.iret e_X8_rescales rfl rfl rfl rfl rfl)
set_option maxRecDepth 20000 in
set_option maxHeartbeats 200000 in
theorem c_X8_rescales_t (d : Nat) (g : Nat → Nat → Int32) (tr : Int64) {n q dn : Nat} (hc : CI n q dn g) {o k : Nat} (ho : g 90 0 = nI o) (hk : g 90 1 = nI k) (ho10 : o < 10) (hk10 : k ≤ 10) {i s : Nat} (hi : i < n) (hs : 1 ≤ s ∧ s ≤ 48) : ∃ g1, RMB g g1 o k ∧ Ev (d + 3) 84 0 [.ref 0, .int 1, .int (nI i), .int (nI s), .null, .null, .null] [] (wC g tr) (some (.int (g 51 i))) (wC (va_up (va_up g1 51 (upd (g1 51) i (nI s))) 50 (FRE n (vC n q dn (va_up g1 51 (upd (g1 51) i (nI s)))) ((va_up g1 51 (upd (g1 51) i (nI s))) 50))) tr) := by
  have hb := hc.b
  obtain ⟨g1, hr1, hr2⟩ := c_X1_remember (d + 0) g tr ho hk ho10 hk10
  have hlow := hr2.low
  have hc1 := hc.keep hlow
  have hb48 : ∀ t, t < n → btw 1 48 (upd (g1 51) i (nI s) t) := fun t ht => by
    by_cases e : t = i
    · subst e; rw [pk_us]; exact ⟨s, hs.1, hs.2, rfl⟩
    · rw [pk_un e, hlow 51 (by omega)]
      have := (hc.w.2.1 t ht).2.1
      rw [show vC n q dn g 1 t = g 51 t from cut_lt ht] at this
      exact this
  have hc2 := hc1.ts hb48
  refine ⟨g1, hr2, ?_⟩
  refine Ev.sn e_X8_rescales 2 (i' := 2) (ls' := [_, _, _, _, _, _, _]) (st' := [_, _]) rfl ?_
  refine Ev.brT (i1 := 3) (i2 := 8) e_X8_rescales rfl rfl (rfl) ?_
  refine Ev.sn e_X8_rescales 3 (i' := 6) (ls' := [_, _, _, _, _, _, _]) (st' := [_, _]) rfl ?_
  refine Ev.clV e_X8_rescales rfl rfl (as := [_]) rfl rfl rfl kl_X2_hasThing rfl rfl rfl (c_X2_hasThing _ _ _ hc _) rfl ?_
  refine Ev.sn e_X8_rescales 3 (i' := 20) (ls' := [_, _, _, _, _, _, _]) (st' := [_]) rfl ?_
  refine Ev.brF (i1 := 27) (i2 := 21) e_X8_rescales rfl rfl (bF (g_ok hi (by omega))) ?_
  refine Ev.sn e_X8_rescales 2 (i' := 23) (ls' := [_, _, _, _, _, _, _]) (st' := [_, _]) rfl ?_
  refine Ev.brF (i1 := 27) (i2 := 24) e_X8_rescales rfl rfl (nI_nlt (b := 1) (by omega) (by omega)) ?_
  refine Ev.sn e_X8_rescales 2 (i' := 26) (ls' := [_, _, _, _, _, _, _]) (st' := [_, _]) rfl ?_
  refine Ev.brT (i1 := 29) (i2 := 27) e_X8_rescales rfl rfl (nI_le (b := 48) (by omega) (by omega)) ?_
  refine Ev.sn e_X8_rescales 5 (i' := 34) (ls' := [_, _, _, _, _, _, _]) (st' := [_, _]) rfl ?_
  refine Ev.clV e_X8_rescales rfl rfl (as := [_]) rfl rfl rfl kl_X1_remember rfl rfl rfl (hr1) rfl ?_
  refine Ev.sn e_X8_rescales 2 (i' := 37) (ls' := [_, _, _, _, _, _, _]) (st' := [_, _]) rfl ?_
  refine Ev.brT (i1 := 38) (i2 := 43) e_X8_rescales rfl rfl (rfl) ?_
  refine Ev.sn e_X8_rescales 8 (i' := 50) (ls' := [_, _, _, _, _, _, _]) (st' := [_, _]) rfl ?_
  refine Ev.ialdE e_X8_rescales rfl rfl rfl rfl rfl (by omega) ?_
  refine Ev.sn e_X8_rescales 4 (i' := 55) (ls' := [_, _, _, _, _, _, _]) (st' := [_, _, _]) rfl ?_
  refine Ev.iastE e_X8_rescales rfl rfl rfl rfl (by omega) (w1 := wC (va_up g1 51 (upd (g1 51) i (nI s))) tr) rfl ?_
  refine Ev.sn e_X8_rescales 2 (i' := 58) (ls' := [_, _, _, _, _, _, _]) (st' := [_]) rfl ?_
  refine Ev.clV e_X8_rescales rfl rfl (as := []) rfl rfl rfl kl_X2_freeWhatDoesNotFit rfl rfl rfl (c_X2_freeWhatDoesNotFit _ _ _ hc2) rfl ?_
  refine Ev.sn e_X8_rescales 1 (i' := 60) (ls' := [_, _, _, _, _, _, _]) (st' := [_]) rfl ?_
  refine Ev.iret e_X8_rescales rfl rfl rfl ?_ rfl
  exact congrFun (hlow 51 (by omega)) i
set_option maxRecDepth 20000 in
set_option maxHeartbeats 200000 in
theorem c_X8_rescales_p (d : Nat) (g : Nat → Nat → Int32) (tr : Int64) {n q dn : Nat} (hc : CI n q dn g) {o k : Nat} (ho : g 90 0 = nI o) (hk : g 90 1 = nI k) (ho10 : o < 10) (hk10 : k ≤ 10) {i s : Nat} (hi : i < q) (hs : 1 ≤ s ∧ s ≤ 48) : ∃ g1, RMB g g1 o k ∧ Ev (d + 3) 84 0 [.ref 0, .int 0, .int (nI i), .int (nI s), .null, .null, .null] [] (wC g tr) (some (.int (g 52 i))) (wC (va_up (va_up g1 52 (upd (g1 52) i (nI s))) 50 (FRE n (vC n q dn (va_up g1 52 (upd (g1 52) i (nI s)))) ((va_up g1 52 (upd (g1 52) i (nI s))) 50))) tr) := by
  have hb := hc.b
  obtain ⟨g1, hr1, hr2⟩ := c_X1_remember (d + 0) g tr ho hk ho10 hk10
  have hlow := hr2.low
  have hc1 := hc.keep hlow
  have hb48 : ∀ t, t < q → btw 1 48 (upd (g1 52) i (nI s) t) := fun t ht => by
    by_cases e : t = i
    · subst e; rw [pk_us]; exact ⟨s, hs.1, hs.2, rfl⟩
    · rw [pk_un e, hlow 52 (by omega)]
      have := (hc.w.2.2.1 t ht).1
      rw [show vC n q dn g 4 t = g 52 t from cut_lt ht] at this
      exact this
  have hc2 := hc1.ps hb48
  refine ⟨g1, hr2, ?_⟩
  refine Ev.sn e_X8_rescales 2 (i' := 2) (ls' := [_, _, _, _, _, _, _]) (st' := [_, _]) rfl ?_
  refine Ev.brF (i1 := 3) (i2 := 8) e_X8_rescales rfl rfl ((by decide)) ?_
  refine Ev.sn e_X8_rescales 1 (i' := 9) (ls' := [_, _, _, _, _, _, _]) (st' := [_]) rfl ?_
  refine Ev.brT (i1 := 10) (i2 := 17) e_X8_rescales rfl rfl (rfl) ?_
  refine Ev.sn e_X8_rescales 3 (i' := 13) (ls' := [_, _, _, _, _, _, _]) (st' := [_, _]) rfl ?_
  refine Ev.clV e_X8_rescales rfl rfl (as := [_]) rfl rfl rfl kl_X2_hasPerson rfl rfl rfl (c_X2_hasPerson _ _ _ hc _) rfl ?_
  refine Ev.brF (i1 := 17) (i2 := 15) e_X8_rescales rfl rfl (bF (g_ok hi (by omega))) ?_
  refine Ev.sn e_X8_rescales 4 (i' := 20) (ls' := [_, _, _, _, _, _, _]) (st' := [_]) rfl ?_
  refine Ev.brF (i1 := 27) (i2 := 21) e_X8_rescales rfl rfl ((by decide)) ?_
  refine Ev.sn e_X8_rescales 2 (i' := 23) (ls' := [_, _, _, _, _, _, _]) (st' := [_, _]) rfl ?_
  refine Ev.brF (i1 := 27) (i2 := 24) e_X8_rescales rfl rfl (nI_nlt (b := 1) (by omega) (by omega)) ?_
  refine Ev.sn e_X8_rescales 2 (i' := 26) (ls' := [_, _, _, _, _, _, _]) (st' := [_, _]) rfl ?_
  refine Ev.brT (i1 := 29) (i2 := 27) e_X8_rescales rfl rfl (nI_le (b := 48) (by omega) (by omega)) ?_
  refine Ev.sn e_X8_rescales 5 (i' := 34) (ls' := [_, _, _, _, _, _, _]) (st' := [_, _]) rfl ?_
  refine Ev.clV e_X8_rescales rfl rfl (as := [_]) rfl rfl rfl kl_X1_remember rfl rfl rfl (hr1) rfl ?_
  refine Ev.sn e_X8_rescales 2 (i' := 37) (ls' := [_, _, _, _, _, _, _]) (st' := [_, _]) rfl ?_
  refine Ev.brF (i1 := 38) (i2 := 43) e_X8_rescales rfl rfl ((by decide)) ?_
  refine Ev.sn e_X8_rescales 7 (i' := 50) (ls' := [_, _, _, _, _, _, _]) (st' := [_, _]) rfl ?_
  refine Ev.ialdE e_X8_rescales rfl rfl rfl rfl rfl (by omega) ?_
  refine Ev.sn e_X8_rescales 4 (i' := 55) (ls' := [_, _, _, _, _, _, _]) (st' := [_, _, _]) rfl ?_
  refine Ev.iastE e_X8_rescales rfl rfl rfl rfl (by omega) (w1 := wC (va_up g1 52 (upd (g1 52) i (nI s))) tr) rfl ?_
  refine Ev.sn e_X8_rescales 2 (i' := 58) (ls' := [_, _, _, _, _, _, _]) (st' := [_]) rfl ?_
  refine Ev.clV e_X8_rescales rfl rfl (as := []) rfl rfl rfl kl_X2_freeWhatDoesNotFit rfl rfl rfl (c_X2_freeWhatDoesNotFit _ _ _ hc2) rfl ?_
  refine Ev.sn e_X8_rescales 1 (i' := 60) (ls' := [_, _, _, _, _, _, _]) (st' := [_]) rfl ?_
  refine Ev.iret e_X8_rescales rfl rfl rfl ?_ rfl
  exact congrFun (hlow 52 (by omega)) i
