/-! the class's other public methods -/
theorem bF {b : Bool} (h : b = true) : ¬ bI b = 0 := by rw [h]; decide
theorem bT {b : Bool} (h : b = false) : bI b = 0 := by rw [h]; rfl
theorem bitI_nI : ∀ p, p < 6 → bitI p = nI (2 ^ p) := by decide
theorem nI_or (a b : Nat) : nI a ||| nI b = nI (a ||| b) := by
  apply Int32.toBitVec_inj.mp
  show (nI a).toBitVec ||| (nI b).toBitVec = (nI (a ||| b)).toBitVec
  apply BitVec.eq_of_toNat_eq
  simp only [nI, BitVec.toNat_or]
  show (BitVec.ofNat 32 a).toNat ||| (BitVec.ofNat 32 b).toNat = (BitVec.ofNat 32 (a ||| b)).toNat
  simp only [BitVec.toNat_ofNat]
  rw [Nat.or_mod_two_pow]
/-- a set of at most six bits -/
theorem orB {c : Nat → Bool} {f : Nat → Int32 → Int32} (hf : ∀ t a, f t a = if c t = true then a ||| bitI t else a) : ∀ (k p m : Nat), p + k ≤ 6 → m < 2 ^ p → ∃ m', m' < 2 ^ (p + k) ∧ fo f k p (nI m) = nI m'
  | 0, p, m, _, h => ⟨m, h, rfl⟩
  | k + 1, p, m, hp, h => by
    show ∃ m', _ ∧ fo f k (p + 1) (f p (nI m)) = nI m'
    rw [hf]
    have e : p + (k + 1) = p + 1 + k := by omega
    rw [e]
    have h2 : 2 ^ p < 2 ^ (p + 1) := by rw [Nat.pow_succ]; have := Nat.two_pow_pos p; omega
    by_cases hc : c p = true
    · rw [if_pos hc, bitI_nI p (by omega), nI_or]
      exact orB hf k (p + 1) _ (by omega) (Nat.or_lt_two_pow (by omega) h2)
    · rw [if_neg hc]
      exact orB hf k (p + 1) m (by omega) (by omega)
theorem orB6 {c : Nat → Bool} {f : Nat → Int32 → Int32} (hf : ∀ t a, f t a = if c t = true then a ||| bitI t else a) {k : Nat} (hk : k ≤ 6) : ∃ m, m < 64 ∧ fo f k 0 0 = nI m := by
  obtain ⟨m, h1, h2⟩ := orB hf k 0 0 (by omega) (by decide)
  refine ⟨m, Nat.lt_of_lt_of_le h1 ?_, h2⟩
  rw [Nat.zero_add]
  exact Nat.pow_le_pow_right (by omega) hk
theorem bc64 : ∀ m, m < 64 → bcI (nI m) = nI ((bcI (nI m)).toNatClampNeg) ∧ (bcI (nI m)).toNatClampNeg ≤ 6 := by decide +kernel
theorem PIF_m {q : Nat} (hq : q ≤ 5) (v : VW) (t : Nat) : ∃ m, m < 64 ∧ PIF q v t = nI m := orB6 (c := fun p => fpB v t p) (fun _ _ => rfl) (by omega)
theorem ULS_m {n : Nat} (hn : n ≤ 6) (q : Nat) (v : VW) : ∃ m, m < 64 ∧ ULS n q v = nI m := orB6 (c := fun t => decide (PIF q v t = 0)) (fun t a => by simp) hn
theorem TOF_m {n : Nat} (hn : n ≤ 6) (v : VW) (p : Int32) : ∃ m, m < 64 ∧ TOF n v p = nI m := orB6 (c := fun t => decide (v 12 t = p)) (fun t a => by simp) hn
theorem OWN_m {n : Nat} (hn : n ≤ 6) (v : VW) : ∃ m, m < 64 ∧ OWN n v = nI m := orB6 (c := fun t => decide (¬ v 12 t = -9)) (fun t a => by by_cases h : v 12 t = -9 <;> simp [h]) hn
set_option maxRecDepth 20000 in
set_option maxHeartbeats 200000 in
theorem c_X8_tries_b (d : Nat) (g : Nat → Nat → Int32) (tr : Int64) {n q dn : Nat} (hc : CI n q dn g) (t x : Int32) (h : ((decide (0 ≤ t) && decide (t < nI n)) && (decide (x = 0) || decide (x = 1))) = false) : Ev (d + 2) 88 0 [.ref 0, .int t, .int x] [] (wC g tr) (some (.int (-1))) (wC g tr) := by
  have hb := hc.b
  refine Ev.sn e_X8_tries 3 (i' := 3) (ls' := [_, _, _]) (st' := [_, _]) rfl ?_
  refine Ev.clV e_X8_tries rfl rfl (as := [_]) rfl rfl rfl kl_X2_hasThing rfl rfl rfl (c_X2_hasThing _ _ _ hc _) rfl ?_
  refine Ev.brB (i1 := 8) (i2 := 5) e_X8_tries rfl rfl (fun h0 => ?_) (fun h0 => ?_)
  · refine Ev.sn e_X8_tries 1 (i' := 9) (ls' := [_, _, _]) (st' := [_]) rfl ?_
    refine Ev.iret e_X8_tries rfl rfl rfl ?_ rfl
    rfl
  · refine Ev.sn e_X8_tries 1 (i' := 6) (ls' := [_, _, _]) (st' := [_]) rfl ?_
    refine Ev.clS e_X8_tries rfl rfl rfl (as := [_]) rfl rfl rfl rfl rfl (c_X8_isFirstOrSecond _ _ _) rfl ?_
    refine Ev.brB (i1 := 8) (i2 := 10) e_X8_tries rfl rfl (fun h1 => ?_) (fun h1 => ?_)
    · refine Ev.sn e_X8_tries 1 (i' := 9) (ls' := [_, _, _]) (st' := [_]) rfl ?_
      refine Ev.iret e_X8_tries rfl rfl rfl ?_ rfl
      rfl
    · exact absurd h (by rw [h0, h1]; decide)
set_option maxRecDepth 20000 in
set_option maxHeartbeats 200000 in
theorem c_X8_tries_f (d : Nat) (g : Nat → Nat → Int32) (tr : Int64) {n q dn : Nat} (hc : CI n q dn g) (t x : Int32) (h1 : (decide (0 ≤ t) && decide (t < nI n)) = true) (h2 : (decide (x = 0) || decide (x = 1)) = true) (hk : g 100 0 = nI 6) : Ev (d + 2) 88 0 [.ref 0, .int t, .int x] [] (wC g tr) (some (.int (-3))) (wC g tr) := by
  have hb := hc.b
  refine Ev.sn e_X8_tries 3 (i' := 3) (ls' := [_, _, _]) (st' := [_, _]) rfl ?_
  refine Ev.clV e_X8_tries rfl rfl (as := [_]) rfl rfl rfl kl_X2_hasThing rfl rfl rfl (c_X2_hasThing _ _ _ hc _) rfl ?_
  refine Ev.brF (i1 := 8) (i2 := 5) e_X8_tries rfl rfl (bF h1) ?_
  refine Ev.sn e_X8_tries 1 (i' := 6) (ls' := [_, _, _]) (st' := [_]) rfl ?_
  refine Ev.clS e_X8_tries rfl rfl rfl (as := [_]) rfl rfl rfl rfl rfl (c_X8_isFirstOrSecond _ _ _) rfl ?_
  refine Ev.brF (i1 := 8) (i2 := 10) e_X8_tries rfl rfl (bF h2) ?_
  refine Ev.sn e_X8_tries 2 (i' := 12) (ls' := [_, _, _]) (st' := [_]) rfl ?_
  refine Ev.clV e_X8_tries rfl rfl (as := []) rfl rfl rfl kl_X7_isFull rfl rfl rfl (c_X7_isFull _ _ _ hk (by omega)) rfl ?_
  refine Ev.brF (i1 := 16) (i2 := 14) e_X8_tries rfl rfl ((by decide)) ?_
  refine Ev.sn e_X8_tries 1 (i' := 15) (ls' := [_, _, _]) (st' := [_]) rfl ?_
  refine Ev.iret e_X8_tries rfl rfl rfl ?_ rfl
  rfl
set_option maxRecDepth 20000 in
set_option maxHeartbeats 200000 in
theorem c_X8_tries_s (d : Nat) (g : Nat → Nat → Int32) (tr : Int64) {n q dn : Nat} (hc : CI n q dn g) (t x : Int32) (h1 : (decide (0 ≤ t) && decide (t < nI n)) = true) (h2 : (decide (x = 0) || decide (x = 1)) = true) {k : Nat} (hk : g 100 0 = nI k) (hk6 : k < 6) : Ev (d + 2) 88 0 [.ref 0, .int t, .int x] [] (wC g tr) (some (.int (nI (k + 1)))) (wC (va_up (va_up (va_up g 98 (upd (g 98) k t)) 99 (upd (g 99) k x)) 100 (upd (g 100) 0 (nI (k + 1)))) tr) := by
  have hb := hc.b
  have h01 : x = 0 ∨ x = 1 := by simpa using h2
  refine Ev.sn e_X8_tries 3 (i' := 3) (ls' := [_, _, _]) (st' := [_, _]) rfl ?_
  refine Ev.clV e_X8_tries rfl rfl (as := [_]) rfl rfl rfl kl_X2_hasThing rfl rfl rfl (c_X2_hasThing _ _ _ hc _) rfl ?_
  refine Ev.brF (i1 := 8) (i2 := 5) e_X8_tries rfl rfl (bF h1) ?_
  refine Ev.sn e_X8_tries 1 (i' := 6) (ls' := [_, _, _]) (st' := [_]) rfl ?_
  refine Ev.clS e_X8_tries rfl rfl rfl (as := [_]) rfl rfl rfl rfl rfl (c_X8_isFirstOrSecond _ _ _) rfl ?_
  refine Ev.brF (i1 := 8) (i2 := 10) e_X8_tries rfl rfl (bF h2) ?_
  refine Ev.sn e_X8_tries 2 (i' := 12) (ls' := [_, _, _]) (st' := [_]) rfl ?_
  refine Ev.clV e_X8_tries rfl rfl (as := []) rfl rfl rfl kl_X7_isFull rfl rfl rfl (c_X7_isFull _ _ _ hk (by omega)) rfl ?_
  refine Ev.brT (i1 := 16) (i2 := 14) e_X8_tries rfl rfl ((by rw [bI_0]; simp; omega)) ?_
  refine Ev.sn e_X8_tries 5 (i' := 21) (ls' := [_, _, _]) (st' := [_, _, _, _]) rfl ?_
  refine Ev.br (i1 := 22) (i2 := 24) e_X8_tries rfl rfl (fun hx1 => ?_) (fun hx1 => ?_)
  · refine Ev.sn e_X8_tries 2 (i' := 25) (ls' := [_, _, _]) (st' := [_, _, _]) rfl ?_
    refine Ev.clV e_X8_tries rfl rfl (as := [_, _]) rfl rfl rfl kl_X7_add rfl rfl rfl (by rw [show (1 : Int32) = x from hx1.symm]; exact c_X7_add _ _ _ hk hk6 _ _ h01) rfl ?_
    refine Ev.sn e_X8_tries 2 (i' := 28) (ls' := [_, _, _]) (st' := [_]) rfl ?_
    refine Ev.clV e_X8_tries rfl rfl (as := []) rfl rfl rfl kl_X7_size rfl rfl rfl (c_X7_size _ _ _) rfl ?_
    refine Ev.iret e_X8_tries rfl rfl rfl ?_ rfl
    rfl
  · refine Ev.sn e_X8_tries 1 (i' := 25) (ls' := [_, _, _]) (st' := [_, _, _]) rfl ?_
    refine Ev.clV e_X8_tries rfl rfl (as := [_, _]) rfl rfl rfl kl_X7_add rfl rfl rfl (by rw [show (0 : Int32) = x from (h01.resolve_right hx1).symm]; exact c_X7_add _ _ _ hk hk6 _ _ h01) rfl ?_
    refine Ev.sn e_X8_tries 2 (i' := 28) (ls' := [_, _, _]) (st' := [_]) rfl ?_
    refine Ev.clV e_X8_tries rfl rfl (as := []) rfl rfl rfl kl_X7_size rfl rfl rfl (c_X7_size _ _ _) rfl ?_
    refine Ev.iret e_X8_tries rfl rfl rfl ?_ rfl
    rfl
set_option maxRecDepth 20000 in
set_option maxHeartbeats 200000 in
theorem c_X8_forget (d : Nat) (g : Nat → Nat → Int32) (tr : Int64) : Ev (d + 1) 89 0 [.ref 0, .null] [] (wC g tr) (some (.int (g 100 0))) (wC (va_up g 100 (upd (g 100) 0 0)) tr) := by
  refine Ev.sn e_X8_forget 2 (i' := 2) (ls' := [_, _]) (st' := [_]) rfl ?_
  refine Ev.clV e_X8_forget rfl rfl (as := []) rfl rfl rfl kl_X7_size rfl rfl rfl (c_X7_size _ _ _) rfl ?_
  refine Ev.sn e_X8_forget 3 (i' := 6) (ls' := [_, _]) (st' := [_]) rfl ?_
  refine Ev.clV e_X8_forget rfl rfl (as := []) rfl rfl rfl kl_X7_loseAll rfl rfl rfl (c_X7_loseAll _ _ _) rfl ?_
  refine Ev.sn e_X8_forget 1 (i' := 8) (ls' := [_, _]) (st' := [_]) rfl ?_
  refine Ev.iret e_X8_forget rfl rfl rfl ?_ rfl
  rfl
def gSz (z x : Int32) : Bool := (decide (1 ≤ z) && decide (z ≤ 99)) && (decide (x = 0) || decide (x = 1))
def S_mayBe (k : Nat) (u v : VW) (z x : Int32) : Int32 := if gSz z x = true then (if x = 0 then SLF k u v z else LSC k u v z) else -1
set_option maxRecDepth 20000 in
set_option maxHeartbeats 200000 in
theorem c_X8_mayBe (d : Nat) (g : Nat → Nat → Int32) (tr : Int64) {n q dn : Nat} (hc : CI n q dn g) {k : Nat} (hk : g 100 0 = nI k) (ht : TI n k (tC k g)) (z x : Int32) : Ev (d + 4) 90 0 [.ref 0, .int z, .int x] [] (wC g tr) (some (.int (S_mayBe k (tC k g) (vC n q dn g) z x))) (wC g tr) := by
  refine Ev.sn e_X8_mayBe 1 (i' := 1) (ls' := [_, _, _]) (st' := [_]) rfl ?_
  refine Ev.clS e_X8_mayBe rfl rfl rfl (as := [_]) rfl rfl rfl rfl rfl (c_X8_isSize _ _ _) rfl ?_
  refine Ev.brB (i1 := 6) (i2 := 3) e_X8_mayBe rfl rfl (fun h0 => ?_) (fun h0 => ?_)
  · refine Ev.sn e_X8_mayBe 1 (i' := 7) (ls' := [_, _, _]) (st' := [_]) rfl ?_
    refine Ev.iret e_X8_mayBe rfl rfl rfl ?_ rfl
    simp [S_mayBe, gSz, h0]
  · refine Ev.sn e_X8_mayBe 1 (i' := 4) (ls' := [_, _, _]) (st' := [_]) rfl ?_
    refine Ev.clS e_X8_mayBe rfl rfl rfl (as := [_]) rfl rfl rfl rfl rfl (c_X8_isFirstOrSecond _ _ _) rfl ?_
    refine Ev.brB (i1 := 6) (i2 := 8) e_X8_mayBe rfl rfl (fun h1 => ?_) (fun h1 => ?_)
    · refine Ev.sn e_X8_mayBe 1 (i' := 7) (ls' := [_, _, _]) (st' := [_]) rfl ?_
      refine Ev.iret e_X8_mayBe rfl rfl rfl ?_ rfl
      simp [S_mayBe, gSz, h0, h1]
    · refine Ev.sn e_X8_mayBe 1 (i' := 9) (ls' := [_, _, _]) (st' := [_]) rfl ?_
      refine Ev.br (i1 := 10) (i2 := 17) e_X8_mayBe rfl rfl (fun h2 => ?_) (fun h2 => ?_)
      · refine Ev.sn e_X8_mayBe 5 (i' := 15) (ls' := [_, _, _]) (st' := [_, _, _]) rfl ?_
        refine Ev.clV e_X8_mayBe rfl rfl (as := [_, _]) rfl rfl rfl kl_X7_scalesLeft rfl rfl rfl (c_X7_scalesLeft _ _ _ hc hk ht _) rfl ?_
        refine Ev.sn e_X8_mayBe 1 (i' := 23) (ls' := [_, _, _]) (st' := [_]) rfl ?_
        refine Ev.iret e_X8_mayBe rfl rfl rfl ?_ rfl
        simp only [S_mayBe, gSz, h0, h1, Bool.and_self, if_true]
        simp [h2]
      · refine Ev.sn e_X8_mayBe 5 (i' := 22) (ls' := [_, _, _]) (st' := [_, _, _]) rfl ?_
        refine Ev.clV e_X8_mayBe rfl rfl (as := [_, _]) rfl rfl rfl kl_X7_leastScale rfl rfl rfl (c_X7_leastScale _ _ _ hc hk ht _) rfl ?_
        refine Ev.iret e_X8_mayBe rfl rfl rfl ?_ rfl
        simp only [S_mayBe, gSz, h0, h1, Bool.and_self, if_true]
        simp [h2]
theorem BTT_ix {k : Nat} {u v : VW} {z : Int32} : ∀ (j p N : Nat) (a : Int32 × Int32), p + j = N → (a.1 = -9 ∨ ∃ t, t < p ∧ a.1 = nI t) → ((fo (stBT k u v z) j p a).1 = -9 ∨ ∃ t, t < N ∧ (fo (stBT k u v z) j p a).1 = nI t)
  | 0, p, N, a, h, ha => by
    have : p = N := by omega
    subst this
    exact ha
  | j + 1, p, N, a, h, ha => by
    refine BTT_ix j (p + 1) N (stBT k u v z p a) (by omega) ?_
    unfold stBT
    split
    · exact Or.inr ⟨p, by omega, rfl⟩
    · rcases ha with h | ⟨t, h1, h2⟩
      · exact Or.inl h
      · exact Or.inr ⟨t, by omega, h2⟩
def S_next (n k : Nat) (u v : VW) (z x : Int32) : Int32 := if gSz z x = true then (if (BTT n k u v z).1 = -9 then (BTT n k u v z).1 else if x = 0 then (BTT n k u v z).1 else LAW k u v z (BTT n k u v z).1.toNatClampNeg) else -1
set_option maxRecDepth 20000 in
set_option maxHeartbeats 200000 in
theorem c_X8_next (d : Nat) (g : Nat → Nat → Int32) (tr : Int64) {n q dn : Nat} (hc : CI n q dn g) {k : Nat} (hk : g 100 0 = nI k) (ht : TI n k (tC k g)) (z x : Int32) : Ev (d + 5) 91 0 [.ref 0, .int z, .int x, .null] [] (wC g tr) (some (.int (S_next n k (tC k g) (vC n q dn g) z x))) (wC g tr) := by
  refine Ev.sn e_X8_next 1 (i' := 1) (ls' := [_, _, _, _]) (st' := [_]) rfl ?_
  refine Ev.clS e_X8_next rfl rfl rfl (as := [_]) rfl rfl rfl rfl rfl (c_X8_isSize _ _ _) rfl ?_
  refine Ev.brB (i1 := 6) (i2 := 3) e_X8_next rfl rfl (fun h0 => ?_) (fun h0 => ?_)
  · refine Ev.sn e_X8_next 1 (i' := 7) (ls' := [_, _, _, _]) (st' := [_]) rfl ?_
    refine Ev.iret e_X8_next rfl rfl rfl ?_ rfl
    simp [S_next, gSz, h0]
  · refine Ev.sn e_X8_next 1 (i' := 4) (ls' := [_, _, _, _]) (st' := [_]) rfl ?_
    refine Ev.clS e_X8_next rfl rfl rfl (as := [_]) rfl rfl rfl rfl rfl (c_X8_isFirstOrSecond _ _ _) rfl ?_
    refine Ev.brB (i1 := 6) (i2 := 8) e_X8_next rfl rfl (fun h1 => ?_) (fun h1 => ?_)
    · refine Ev.sn e_X8_next 1 (i' := 7) (ls' := [_, _, _, _]) (st' := [_]) rfl ?_
      refine Ev.iret e_X8_next rfl rfl rfl ?_ rfl
      simp [S_next, gSz, h0, h1]
    · refine Ev.sn e_X8_next 5 (i' := 13) (ls' := [_, _, _, _]) (st' := [_, _, _]) rfl ?_
      refine Ev.clV e_X8_next rfl rfl (as := [_, _]) rfl rfl rfl kl_X7_bestToTry rfl rfl rfl (c_X7_bestToTry _ _ _ hc hk ht _) rfl ?_
      refine Ev.sn e_X8_next 3 (i' := 17) (ls' := [_, _, _, _]) (st' := [_, _]) rfl ?_
      refine Ev.br (i1 := 20) (i2 := 18) e_X8_next rfl rfl (fun h2 => ?_) (fun h2 => ?_)
      · refine Ev.sn e_X8_next 1 (i' := 21) (ls' := [_, _, _, _]) (st' := [_]) rfl ?_
        refine Ev.iret e_X8_next rfl rfl rfl ?_ rfl
        simp only [S_next, gSz, h0, h1, Bool.and_self, if_true]
        rw [if_pos h2]
      · refine Ev.sn e_X8_next 1 (i' := 19) (ls' := [_, _, _, _]) (st' := [_]) rfl ?_
        refine Ev.br (i1 := 20) (i2 := 22) e_X8_next rfl rfl (fun h3 => ?_) (fun h3 => ?_)
        · refine Ev.sn e_X8_next 1 (i' := 21) (ls' := [_, _, _, _]) (st' := [_]) rfl ?_
          refine Ev.iret e_X8_next rfl rfl rfl ?_ rfl
          simp only [S_next, gSz, h0, h1, Bool.and_self, if_true]
          rw [if_neg h2, if_pos h3]
        · have hix := BTT_ix (k := k) (u := (tC k g)) (v := (vC n q dn g)) (z := z) n 0 n (-9, 49) (by omega) (Or.inl rfl)
          obtain ⟨j, hj, ej⟩ := hix.resolve_left h2
          have ej : (BTT n k (tC k g) (vC n q dn g) z).1 = nI j := ej
          have hb := hc.b
          refine Ev.sn e_X8_next 6 (i' := 28) (ls' := [_, _, _, _]) (st' := [_, _, _, _]) rfl ?_
          refine Ev.clV e_X8_next rfl rfl (as := [_, _, _]) rfl rfl rfl kl_X7_leftAtWorst rfl rfl rfl (by rw [ej]; exact c_X7_leftAtWorst _ _ _ hc hk ht z hj) rfl ?_
          refine Ev.iret e_X8_next rfl rfl rfl ?_ rfl
          simp only [S_next, gSz, h0, h1, Bool.and_self, if_true]
          rw [if_neg h2, if_neg h3, ej, nI_clamp (by omega)]
/-- the least of those at which T is most, of 1 .. 48 -/
def stAM (T : Nat → Int32) (s b : Nat) : Nat := if T s ≤ T b then b else s
def AMX (T : Nat → Int32) : Nat := fo (stAM T) 47 2 1
theorem stAM_or (T : Nat → Int32) (s b : Nat) : stAM T s b = b ∨ stAM T s b = s := by
  unfold stAM
  by_cases h : T s ≤ T b
  · exact Or.inl (if_pos h)
  · exact Or.inr (if_neg h)
theorem AMX_in {T : Nat → Int32} (k : Nat) : ∀ (p b : Nat), p + k = 49 → 1 ≤ b → b ≤ 48 → 1 ≤ p → 1 ≤ fo (stAM T) k p b ∧ fo (stAM T) k p b ≤ 48 := by
  induction k with
  | zero => intro p b _ h1 h2 _; exact ⟨h1, h2⟩
  | succ k ih =>
    intro p b h h1 h2 h3
    rw [fo_s]
    rcases stAM_or T p b with h4 | h4
    · rw [h4]; exact ih (p + 1) b (by omega) h1 h2 (by omega)
    · rw [h4]; exact ih (p + 1) p (by omega) (by omega) (by omega) (by omega)
theorem AMX_congr {T T' : Nat → Int32} (hT : ∀ s, 1 ≤ s → s ≤ 48 → T s = T' s) (k : Nat) : ∀ (p b : Nat), p + k = 49 → 1 ≤ b → b ≤ 48 → 1 ≤ p → fo (stAM T) k p b = fo (stAM T') k p b := by
  induction k with
  | zero =>
    intro p b _ _ _ _
    show b = b
    rfl
  | succ k ih =>
    intro p b h h1 h2 h3
    rw [fo_s, fo_s]
    have hp48 : p ≤ 48 := by omega
    have e : stAM T p b = stAM T' p b := by
      unfold stAM
      rw [hT p h3 hp48, hT b h1 h2]
    rw [e]
    rcases stAM_or T' p b with h4 | h4
    · rw [h4]; exact ih (p + 1) b (by omega) h1 h2 (by omega)
    · rw [h4]; exact ih (p + 1) p (by omega) (by omega) (by omega) (by omega)
def filT (T : Nat → Int32) (k p : Nat) (f : Nat → Int32) : Nat → Int32 := fo (fun s f => upd f s (T s)) k p f
theorem filT_at {T : Nat → Int32} : ∀ (k p : Nat) (f : Nat → Int32) (s : Nat), filT T k p f s = if p ≤ s ∧ s < p + k then T s else f s
  | 0, p, f, s => by
    rw [if_neg (by omega)]
    rfl
  | k + 1, p, f, s => by
    show filT T k (p + 1) (upd f p (T p)) s = _
    rw [filT_at k (p + 1)]
    by_cases h : s = p
    · subst h
      rw [if_neg (by omega), if_pos (by omega), pk_us]
    · rw [pk_un h]
      by_cases h2 : p + 1 ≤ s ∧ s < p + 1 + k
      · rw [if_pos h2, if_pos (by omega)]
      · rw [if_neg h2, if_neg (by omega)]
set_option maxRecDepth 20000 in
set_option maxHeartbeats 200000 in
theorem lp_X8_scaleOfMost (d : Nat) (g : Nat → Nat → Int32) (tr : Int64) : ∀ (k p b : Nat), p + k = 49 → 1 ≤ b → b ≤ 48 → 1 ≤ p → Ev d 94 4 [.ref 0, .int (nI b), .int (nI p)] [] (wC g tr) (some (.int (nI (fo (stAM (g 104)) k p b)))) (wC g tr) := by
  intro k
  induction k with
  | zero =>
    intro p b hp h1 h2 h3
    refine Ev.sn e_X8_scaleOfMost 2 (i' := 6) (ls' := [_, _, _]) (st' := [_, _]) rfl ?_
    refine Ev.brT (i1 := 20) (i2 := 7) e_X8_scaleOfMost rfl rfl (nI_lt (a := 48) (by omega) (by omega)) ?_
    refine Ev.sn e_X8_scaleOfMost 1 (i' := 21) (ls' := [_, _, _]) (st' := [_]) rfl ?_
    refine Ev.iret e_X8_scaleOfMost rfl rfl rfl ?_ rfl
    rfl
  | succ k ih =>
    intro p b hp h1 h2 h3
    rw [fo_s (k := k)]
    unfold stAM
    refine Ev.sn e_X8_scaleOfMost 2 (i' := 6) (ls' := [_, _, _]) (st' := [_, _]) rfl ?_
    refine Ev.brF (i1 := 20) (i2 := 7) e_X8_scaleOfMost rfl rfl (nI_nlt (a := 48) (by omega) (by omega)) ?_
    refine Ev.sn e_X8_scaleOfMost 3 (i' := 10) (ls' := [_, _, _]) (st' := [_, _]) rfl ?_
    refine Ev.ialdE e_X8_scaleOfMost rfl rfl rfl rfl rfl (by omega) ?_
    refine Ev.sn e_X8_scaleOfMost 3 (i' := 14) (ls' := [_, _, _]) (st' := [_, _, _]) rfl ?_
    refine Ev.ialdE e_X8_scaleOfMost rfl rfl rfl rfl rfl (by omega) ?_
    refine Ev.br (i1 := 18) (i2 := 16) e_X8_scaleOfMost rfl rfl (fun h0 => ?_) (fun h0 => ?_)
    · refine Ev.sn e_X8_scaleOfMost 2 (i' := 4) (ls' := [_, _, _]) (st' := []) rfl ?_
      rw [if_pos h0, nI_1]
      exact ih (p + 1) b (by omega) h1 h2 (by omega)
    · refine Ev.sn e_X8_scaleOfMost 4 (i' := 4) (ls' := [_, _, _]) (st' := []) rfl ?_
      rw [if_neg h0, nI_1]
      exact ih (p + 1) p (by omega) (by omega) (by omega) (by omega)
set_option maxRecDepth 20000 in
set_option maxHeartbeats 200000 in
theorem c_X8_scaleOfMost (d : Nat) (g : Nat → Nat → Int32) (tr : Int64) : Ev d 94 0 [.ref 0, .null, .null] [] (wC g tr) (some (.int (nI (AMX (g 104))))) (wC g tr) := by
  refine Ev.sn e_X8_scaleOfMost 4 (i' := 4) (ls' := [_, _, _]) (st' := []) rfl ?_
  exact lp_X8_scaleOfMost _ _ _ 47 2 1 rfl (by omega) (by omega) (by omega)
def S_best (T : Nat → Int32) (x : Int32) : Int32 := if x = 0 then nI (AMX T) else T (AMX T)
set_option maxRecDepth 20000 in
set_option maxHeartbeats 200000 in
theorem lp_X8_bestScale (d : Nat) (g : Nat → Nat → Int32) (tr : Int64) {n q dn : Nat} (hc : CI n q dn g) (x : Int32) (r : Option Value) (w2 : AW) : ∀ (k p : Nat) (f : Nat → Int32), p + k = 49 → 1 ≤ p → Ev (d + 2) 92 20 [.ref 0, .int x, .null] [] (wC (va_up g 104 (filT (fun s => TWO n q (vC n q dn g) (nI s)) k p f)) tr) r w2 → Ev (d + 2) 92 7 [.ref 0, .int x, .int (nI p)] [] (wC (va_up g 104 f) tr) r w2 := by
  intro k
  induction k with
  | zero =>
    intro p f hp h1 K
    refine Ev.sn e_X8_bestScale 2 (i' := 9) (ls' := [_, _, _]) (st' := [_, _]) rfl ?_
    refine Ev.brT (i1 := 20) (i2 := 10) e_X8_bestScale rfl rfl (nI_lt (a := 48) (by omega) (by omega)) ?_
    exact Ev.weak (lle_c (lle_c (lle_n lle_0))) K
  | succ k ih =>
    intro p f hp h1 K
    have hc2 : CI n q dn (va_up g 104 f) := hc
    refine Ev.sn e_X8_bestScale 2 (i' := 9) (ls' := [_, _, _]) (st' := [_, _]) rfl ?_
    refine Ev.brF (i1 := 20) (i2 := 10) e_X8_bestScale rfl rfl (nI_nlt (a := 48) (by omega) (by omega)) ?_
    refine Ev.sn e_X8_bestScale 6 (i' := 16) (ls' := [_, _, _]) (st' := [_, _, _, _]) rfl ?_
    refine Ev.clV e_X8_bestScale rfl rfl (as := [_]) rfl rfl rfl kl_X2_twosIfAllThingsWere rfl rfl rfl (c_X2_twosIfAllThingsWere _ _ _ hc2 _) rfl ?_
    refine Ev.iastE e_X8_bestScale rfl rfl rfl rfl (by omega) (w1 := (wC (va_up g 104 (upd f p ((fun s => TWO n q (vC n q dn g) (nI s)) p))) tr)) rfl ?_
    refine Ev.sn e_X8_bestScale 2 (i' := 7) (ls' := [_, _, _]) (st' := []) rfl ?_
    rw [nI_1]
    exact ih (p + 1) _ (by omega) (by omega) K
set_option maxRecDepth 20000 in
set_option maxHeartbeats 200000 in
theorem c_X8_bestScale_s (d : Nat) (g : Nat → Nat → Int32) (tr : Int64) {n q dn : Nat} (hc : CI n q dn g) (x : Int32) (hx : (decide (x = 0) || decide (x = 1)) = true) : Ev (d + 2) 92 0 [.ref 0, .int x, .null] [] (wC g tr) (some (.int (S_best (fun s => TWO n q (vC n q dn g) (nI s)) x))) (wC (va_up g 104 (filT (fun s => TWO n q (vC n q dn g) (nI s)) 48 1 (g 104))) tr) := by
  have hb := hc.b
  refine Ev.sn e_X8_bestScale 1 (i' := 1) (ls' := [_, _, _]) (st' := [_]) rfl ?_
  refine Ev.clS e_X8_bestScale rfl rfl rfl (as := [_]) rfl rfl rfl rfl rfl (c_X8_isFirstOrSecond _ _ _) rfl ?_
  refine Ev.brF (i1 := 3) (i2 := 5) e_X8_bestScale rfl rfl (bF hx) ?_
  refine Ev.sn e_X8_bestScale 2 (i' := 7) (ls' := [_, _, _]) (st' := []) rfl ?_
  refine Ev.wd (w2 := (wC (va_up g 104 (g 104)) tr)) rfl ?_
  refine lp_X8_bestScale _ _ _ hc _ _ _ 48 1 (g 104) rfl (by omega) ?_
  have hm : AMX (filT (fun s => TWO n q (vC n q dn g) (nI s)) 48 1 (g 104)) = AMX (fun s => TWO n q (vC n q dn g) (nI s)) := AMX_congr (fun s h1 h2 => by rw [filT_at, if_pos (by omega)]) 47 2 1 rfl (by omega) (by omega) (by omega)
  have hin : 1 ≤ AMX (fun s => TWO n q (vC n q dn g) (nI s)) ∧ AMX (fun s => TWO n q (vC n q dn g) (nI s)) ≤ 48 := AMX_in 47 2 1 rfl (by omega) (by omega) (by omega)
  have hs := c_X8_scaleOfMost (d + 1) (va_up g 104 (filT (fun s => TWO n q (vC n q dn g) (nI s)) 48 1 (g 104))) tr
  rw [show (va_up g 104 (filT (fun s => TWO n q (vC n q dn g) (nI s)) 48 1 (g 104))) 104 = filT (fun s => TWO n q (vC n q dn g) (nI s)) 48 1 (g 104) from rfl, hm] at hs
  refine Ev.sn e_X8_bestScale 1 (i' := 21) (ls' := [_, _, _]) (st' := [_]) rfl ?_
  refine Ev.clV e_X8_bestScale rfl rfl (as := []) rfl rfl rfl kl_X8_scaleOfMost rfl rfl rfl (hs) rfl ?_
  refine Ev.sn e_X8_bestScale 2 (i' := 24) (ls' := [_, _, _]) (st' := [_]) rfl ?_
  refine Ev.br (i1 := 25) (i2 := 27) e_X8_bestScale rfl rfl (fun h0 => ?_) (fun h0 => ?_)
  · refine Ev.sn e_X8_bestScale 2 (i' := 31) (ls' := [_, _, _]) (st' := [_]) rfl ?_
    refine Ev.iret e_X8_bestScale rfl rfl rfl ?_ rfl
    simp [S_best, h0]
  · refine Ev.sn e_X8_bestScale 3 (i' := 30) (ls' := [_, _, _]) (st' := [_, _]) rfl ?_
    refine Ev.ialdE e_X8_bestScale rfl rfl rfl rfl (by rfl) (show AMX (fun s => TWO n q (vC n q dn g) (nI s)) < 49 from by omega) ?_
    refine Ev.iret e_X8_bestScale rfl rfl rfl ?_ rfl
    simp only [S_best, h0, if_false]
    show filT (fun s => TWO n q (vC n q dn g) (nI s)) 48 1 (g 104) (AMX (fun s => TWO n q (vC n q dn g) (nI s))) = _
    rw [filT_at, if_pos (by omega)]
set_option maxRecDepth 20000 in
set_option maxHeartbeats 200000 in
theorem c_X8_bestScale_b (d : Nat) (g : Nat → Nat → Int32) (tr : Int64) {n q dn : Nat} (hc : CI n q dn g) (x : Int32) (hx : (decide (x = 0) || decide (x = 1)) = false) : Ev (d + 2) 92 0 [.ref 0, .int x, .null] [] (wC g tr) (some (.int (-1))) (wC g tr) := by
  have hb := hc.b
  refine Ev.sn e_X8_bestScale 1 (i' := 1) (ls' := [_, _, _]) (st' := [_]) rfl ?_
  refine Ev.clS e_X8_bestScale rfl rfl rfl (as := [_]) rfl rfl rfl rfl rfl (c_X8_isFirstOrSecond _ _ _) rfl ?_
  refine Ev.brB (i1 := 3) (i2 := 5) e_X8_bestScale rfl rfl (fun h0 => ?_) (fun h0 => ?_)
  · refine Ev.sn e_X8_bestScale 1 (i' := 4) (ls' := [_, _, _]) (st' := [_]) rfl ?_
    refine Ev.iret e_X8_bestScale rfl rfl rfl ?_ rfl
    rfl
  · refine Ev.sn e_X8_bestScale 2 (i' := 7) (ls' := [_, _, _]) (st' := []) rfl ?_
    exact absurd hx (by simp only [h0]; decide)
set_option maxRecDepth 20000 in
set_option maxHeartbeats 200000 in
theorem lp_X8_oneMore (d : Nat) (g : Nat → Nat → Int32) (tr : Int64) {n q dn : Nat} (hc : CI n q dn g) (z x : Int32) (r : Option Value) (w2 : AW) : ∀ (k p : Nat) (f : Nat → Int32), p + k = 49 → 1 ≤ p → Ev (d + 3) 93 24 [.ref 0, .int z, .int x, .null] [] (wC (va_up g 104 (filT (fun s => THF n (vC n q dn g) z (nI s)) k p f)) tr) r w2 → Ev (d + 3) 93 10 [.ref 0, .int z, .int x, .int (nI p)] [] (wC (va_up g 104 f) tr) r w2 := by
  intro k
  induction k with
  | zero =>
    intro p f hp h1 K
    refine Ev.sn e_X8_oneMore 2 (i' := 12) (ls' := [_, _, _, _]) (st' := [_, _]) rfl ?_
    refine Ev.brT (i1 := 24) (i2 := 13) e_X8_oneMore rfl rfl (nI_lt (a := 48) (by omega) (by omega)) ?_
    exact Ev.weak (lle_c (lle_c (lle_c (lle_n lle_0)))) K
  | succ k ih =>
    intro p f hp h1 K
    have hc2 : CI n q dn (va_up g 104 f) := hc
    refine Ev.sn e_X8_oneMore 2 (i' := 12) (ls' := [_, _, _, _]) (st' := [_, _]) rfl ?_
    refine Ev.brF (i1 := 24) (i2 := 13) e_X8_oneMore rfl rfl (nI_nlt (a := 48) (by omega) (by omega)) ?_
    refine Ev.sn e_X8_oneMore 7 (i' := 20) (ls' := [_, _, _, _]) (st' := [_, _, _, _, _]) rfl ?_
    refine Ev.clV e_X8_oneMore rfl rfl (as := [_, _]) rfl rfl rfl kl_X2_thingsFitting rfl rfl rfl (c_X2_thingsFitting _ _ _ hc2 _ _) rfl ?_
    refine Ev.iastE e_X8_oneMore rfl rfl rfl rfl (by omega) (w1 := (wC (va_up g 104 (upd f p ((fun s => THF n (vC n q dn g) z (nI s)) p))) tr)) rfl ?_
    refine Ev.sn e_X8_oneMore 2 (i' := 10) (ls' := [_, _, _, _]) (st' := []) rfl ?_
    rw [nI_1]
    exact ih (p + 1) _ (by omega) (by omega) K
set_option maxRecDepth 20000 in
set_option maxHeartbeats 200000 in
theorem c_X8_oneMore_s (d : Nat) (g : Nat → Nat → Int32) (tr : Int64) {n q dn : Nat} (hc : CI n q dn g) (z x : Int32) (hx : gSz z x = true) : Ev (d + 3) 93 0 [.ref 0, .int z, .int x, .null] [] (wC g tr) (some (.int (S_best (fun s => THF n (vC n q dn g) z (nI s)) x))) (wC (va_up g 104 (filT (fun s => THF n (vC n q dn g) z (nI s)) 48 1 (g 104))) tr) := by
  have hb := hc.b
  refine Ev.sn e_X8_oneMore 1 (i' := 1) (ls' := [_, _, _, _]) (st' := [_]) rfl ?_
  refine Ev.clS e_X8_oneMore rfl rfl rfl (as := [_]) rfl rfl rfl rfl rfl (c_X8_isSize _ _ _) rfl ?_
  refine Ev.brF (i1 := 6) (i2 := 3) e_X8_oneMore rfl rfl (bF (by simp only [gSz, Bool.and_eq_true] at hx; simpa using hx.1)) ?_
  refine Ev.sn e_X8_oneMore 1 (i' := 4) (ls' := [_, _, _, _]) (st' := [_]) rfl ?_
  refine Ev.clS e_X8_oneMore rfl rfl rfl (as := [_]) rfl rfl rfl rfl rfl (c_X8_isFirstOrSecond _ _ _) rfl ?_
  refine Ev.brF (i1 := 6) (i2 := 8) e_X8_oneMore rfl rfl (bF (by simp only [gSz, Bool.and_eq_true] at hx; exact hx.2)) ?_
  refine Ev.sn e_X8_oneMore 2 (i' := 10) (ls' := [_, _, _, _]) (st' := []) rfl ?_
  refine Ev.wd (w2 := (wC (va_up g 104 (g 104)) tr)) rfl ?_
  refine lp_X8_oneMore _ _ _ hc _ _ _ _ 48 1 (g 104) rfl (by omega) ?_
  have hm : AMX (filT (fun s => THF n (vC n q dn g) z (nI s)) 48 1 (g 104)) = AMX (fun s => THF n (vC n q dn g) z (nI s)) := AMX_congr (fun s h1 h2 => by rw [filT_at, if_pos (by omega)]) 47 2 1 rfl (by omega) (by omega) (by omega)
  have hin : 1 ≤ AMX (fun s => THF n (vC n q dn g) z (nI s)) ∧ AMX (fun s => THF n (vC n q dn g) z (nI s)) ≤ 48 := AMX_in 47 2 1 rfl (by omega) (by omega) (by omega)
  have hs := c_X8_scaleOfMost (d + 2) (va_up g 104 (filT (fun s => THF n (vC n q dn g) z (nI s)) 48 1 (g 104))) tr
  rw [show (va_up g 104 (filT (fun s => THF n (vC n q dn g) z (nI s)) 48 1 (g 104))) 104 = filT (fun s => THF n (vC n q dn g) z (nI s)) 48 1 (g 104) from rfl, hm] at hs
  refine Ev.sn e_X8_oneMore 1 (i' := 25) (ls' := [_, _, _, _]) (st' := [_]) rfl ?_
  refine Ev.clV e_X8_oneMore rfl rfl (as := []) rfl rfl rfl kl_X8_scaleOfMost rfl rfl rfl (hs) rfl ?_
  refine Ev.sn e_X8_oneMore 2 (i' := 28) (ls' := [_, _, _, _]) (st' := [_]) rfl ?_
  refine Ev.br (i1 := 29) (i2 := 31) e_X8_oneMore rfl rfl (fun h0 => ?_) (fun h0 => ?_)
  · refine Ev.sn e_X8_oneMore 2 (i' := 35) (ls' := [_, _, _, _]) (st' := [_]) rfl ?_
    refine Ev.iret e_X8_oneMore rfl rfl rfl ?_ rfl
    simp [S_best, h0]
  · refine Ev.sn e_X8_oneMore 3 (i' := 34) (ls' := [_, _, _, _]) (st' := [_, _]) rfl ?_
    refine Ev.ialdE e_X8_oneMore rfl rfl rfl rfl (by rfl) (show AMX (fun s => THF n (vC n q dn g) z (nI s)) < 49 from by omega) ?_
    refine Ev.iret e_X8_oneMore rfl rfl rfl ?_ rfl
    simp only [S_best, h0, if_false]
    show filT (fun s => THF n (vC n q dn g) z (nI s)) 48 1 (g 104) (AMX (fun s => THF n (vC n q dn g) z (nI s))) = _
    rw [filT_at, if_pos (by omega)]
set_option maxRecDepth 20000 in
set_option maxHeartbeats 200000 in
theorem c_X8_oneMore_b (d : Nat) (g : Nat → Nat → Int32) (tr : Int64) {n q dn : Nat} (hc : CI n q dn g) (z x : Int32) (hx : gSz z x = false) : Ev (d + 3) 93 0 [.ref 0, .int z, .int x, .null] [] (wC g tr) (some (.int (-1))) (wC g tr) := by
  have hb := hc.b
  refine Ev.sn e_X8_oneMore 1 (i' := 1) (ls' := [_, _, _, _]) (st' := [_]) rfl ?_
  refine Ev.clS e_X8_oneMore rfl rfl rfl (as := [_]) rfl rfl rfl rfl rfl (c_X8_isSize _ _ _) rfl ?_
  refine Ev.brB (i1 := 6) (i2 := 3) e_X8_oneMore rfl rfl (fun h0 => ?_) (fun h0 => ?_)
  · refine Ev.sn e_X8_oneMore 1 (i' := 7) (ls' := [_, _, _, _]) (st' := [_]) rfl ?_
    refine Ev.iret e_X8_oneMore rfl rfl rfl ?_ rfl
    rfl
  · refine Ev.sn e_X8_oneMore 1 (i' := 4) (ls' := [_, _, _, _]) (st' := [_]) rfl ?_
    refine Ev.clS e_X8_oneMore rfl rfl rfl (as := [_]) rfl rfl rfl rfl rfl (c_X8_isFirstOrSecond _ _ _) rfl ?_
    refine Ev.brB (i1 := 6) (i2 := 8) e_X8_oneMore rfl rfl (fun h1 => ?_) (fun h1 => ?_)
    · refine Ev.sn e_X8_oneMore 1 (i' := 7) (ls' := [_, _, _, _]) (st' := [_]) rfl ?_
      refine Ev.iret e_X8_oneMore rfl rfl rfl ?_ rfl
      rfl
    · refine Ev.sn e_X8_oneMore 2 (i' := 10) (ls' := [_, _, _, _]) (st' := []) rfl ?_
      exact absurd hx (by simp only [gSz, h0, h1]; decide)
