/-! who can have what: the class -/
def CHB (v : VW) (n q S : Nat) : Bool := EXB v n 0 S q 0 0 && (EXB v n 1 S q 0 0 && EXB v n 2 S q 0 0)
def pcN (S : Nat) : Nat := (bcI (nI S)).toNatClampNeg
theorem pc_bc {S : Nat} (h : S < 64) : bcI (nI S) = nI (pcN S) ∧ pcN S ≤ 6 := bc64 S h
theorem bc_le {S b : Nat} (hS : S < 64) (hb : b < 64) : bcI (nI S) ≤ bcI (nI b) ↔ pcN S ≤ pcN b := by
  have h1 := pc_bc hS
  have h2 := pc_bc hb
  rw [h1.1, h2.1]
  exact nI_leI (by omega) (by omega)
def stM (v : VW) (n q S b : Nat) : Nat := if pcN b < pcN S ∧ CHB v n q S = true then S else b
def MPB (v : VW) (n q : Nat) : Nat := fo (stM v n q) (2 ^ q - 1) 1 0
theorem stM_ok {v : VW} {n q : Nat} (hq : q ≤ 5) : ∀ (j S b : Nat), S + j ≤ 2 ^ q → b < 2 ^ q → (b = 0 ∨ CHB v n q b = true) → fo (stM v n q) j S b < 2 ^ q ∧ (fo (stM v n q) j S b = 0 ∨ CHB v n q (fo (stM v n q) j S b) = true)
  | 0, _, _, _, h1, h2 => ⟨h1, h2⟩
  | j + 1, S, b, hj, h1, h2 => by
    rw [fo_s]
    have hs : stM v n q S b < 2 ^ q ∧ (stM v n q S b = 0 ∨ CHB v n q (stM v n q S b) = true) := by
      unfold stM
      by_cases h : pcN b < pcN S ∧ CHB v n q S = true
      · rw [if_pos h]; exact ⟨by omega, Or.inr h.2⟩
      · rw [if_neg h]; exact ⟨h1, h2⟩
    exact stM_ok hq j (S + 1) _ (by omega) hs.1 hs.2
theorem pow_q {q : Nat} (hq : q ≤ 5) : 2 ^ q ≤ 32 := Nat.pow_le_pow_right (n := 2) (by omega) hq
theorem MPB_ok {v : VW} {n q : Nat} (hq : q ≤ 5) : MPB v n q < 32 ∧ (MPB v n q = 0 ∨ CHB v n q (MPB v n q) = true) := by
  have hp := Nat.two_pow_pos q
  have h32 := pow_q hq
  have h := stM_ok (v := v) (n := n) hq (2 ^ q - 1) 1 0 (by omega) hp (Or.inl rfl)
  exact ⟨Nat.lt_of_lt_of_le h.1 h32, h.2⟩
/-- the THING of a PERSON in the first laying -/
def gpk (v : VW) (n : Nat) (u : Int32) (S : Nat) : Nat → Nat → Nat → Nat → Nat
  | 0, _, _, _ => 0
  | k + 1, p, T, P => if S.testBit p = true then (if p = P then firT (FXB v n u S k p T) n 0 else gpk v n u S k (p + 1) (T ||| 2 ^ firT (FXB v n u S k p T) n 0) P) else gpk v n u S k (p + 1) T P
theorem LRW_g {v : VW} {n : Nat} {u : Int32} {S P : Nat} (hP : S.testBit P = true) : ∀ (k p T : Nat) (R : Nat → Int32), p ≤ P → P < p + k → LRW v n u S k p T R P = nI (gpk v n u S k p T P)
  | 0, p, T, R, h1, h2 => absurd h2 (by omega)
  | k + 1, p, T, R, h1, h2 => by
    unfold LRW gpk
    by_cases hb : S.testBit p = true
    · rw [if_pos hb, if_pos hb]
      by_cases e : p = P
      · rw [if_pos e, e, pk_us]
      · rw [if_neg e, pk_un (Ne.symm e)]
        exact LRW_g hP k (p + 1) _ R (by omega) (by omega)
    · have e : p ≠ P := fun e => hb (by rw [e]; exact hP)
      rw [if_neg hb, if_neg hb]
      exact LRW_g hP k (p + 1) _ R (by omega) (by omega)
theorem CHB_u {v : VW} {n q S u : Nat} (hu : u < 3) (h : CHB v n q S = true) : EXB v n (nI u) S q 0 0 = true := by
  unfold CHB at h
  simp only [Bool.and_eq_true] at h
  match u, hu with
  | 0, _ => exact h.1
  | 1, _ => exact h.2.1
  | 2, _ => exact h.2.2
theorem y_lay (g : RG) (tr : Int64) {n q dn : Nat} (hc : CI n q dn g) (u : Int32) {S : Nat} (hS : S < 32) (R : Nat → Int32) {D : Nat} (hD : q + 2 ≤ D) : ∃ R', Ev D 38 0 [.ref 16, .int u, .int (nI S), .int 0, .int 0, .ref 82, .null, .null] [] (wC (va_up g 101 R) tr) (some (.int (bI (EXB (vC n q dn g) n u S q 0 0)))) (wC (va_up g 101 R') tr) :=
  ⟨_, c_X3_layFrom g tr hc u hS q 0 0 R D 0 0 (by omega) (by omega) hD rfl rfl⟩
set_option maxRecDepth 20000 in
set_option maxHeartbeats 200000 in
theorem c_X3_canHouse (g : RG) (tr : Int64) {n q dn : Nat} (hc : CI n q dn g) {S : Nat} (hS : S < 32) (R : Nat → Int32) {D : Nat} (hD : q + 2 ≤ D) : ∃ R', Ev (D + 1) 37 0 [.ref 81, .ref 16, .int (nI S), .null] [] (wC (va_up g 101 R) tr) (some (.int (bI (CHB (vC n q dn g) n q S)))) (wC (va_up g 101 R') tr) := by
  obtain ⟨R1, a0⟩ := y_lay g tr hc 0 hS R hD
  obtain ⟨R2, a1⟩ := y_lay g tr hc 1 hS R1 hD
  obtain ⟨R3, a2⟩ := y_lay g tr hc 2 hS R2 hD
  cases h0 : EXB (vC n q dn g) n 0 S q 0 0 with
  | false =>
    refine ⟨R1, ?_⟩
    refine Ev.sn e_X3_canHouse 4 (i' := 4) (ls' := [_, _, _, _]) (st' := [_, _]) rfl ?_
    refine Ev.brF (i1 := 18) (i2 := 5) e_X3_canHouse rfl rfl ((by decide)) ?_
    refine Ev.sn e_X3_canHouse 7 (i' := 12) (ls' := [_, _, _, _]) (st' := [_, _, _, _, _, _]) rfl ?_
    refine Ev.clS e_X3_canHouse rfl rfl rfl (as := [_, _, _, _, _, _]) rfl rfl rfl rfl rfl (a0) rfl ?_
    refine Ev.brT (i1 := 14) (i2 := 16) e_X3_canHouse rfl rfl (bT h0) ?_
    refine Ev.sn e_X3_canHouse 1 (i' := 15) (ls' := [_, _, _, _]) (st' := [_]) rfl ?_
    refine Ev.iret e_X3_canHouse rfl rfl rfl ?_ rfl
    simp [CHB, h0, bI]
  | true =>
   cases h1 : EXB (vC n q dn g) n 1 S q 0 0 with
   | false =>
    refine ⟨R2, ?_⟩
    refine Ev.sn e_X3_canHouse 4 (i' := 4) (ls' := [_, _, _, _]) (st' := [_, _]) rfl ?_
    refine Ev.brF (i1 := 18) (i2 := 5) e_X3_canHouse rfl rfl ((by decide)) ?_
    refine Ev.sn e_X3_canHouse 7 (i' := 12) (ls' := [_, _, _, _]) (st' := [_, _, _, _, _, _]) rfl ?_
    refine Ev.clS e_X3_canHouse rfl rfl rfl (as := [_, _, _, _, _, _]) rfl rfl rfl rfl rfl (a0) rfl ?_
    refine Ev.brF (i1 := 14) (i2 := 16) e_X3_canHouse rfl rfl (bF h0) ?_
    refine Ev.sn e_X3_canHouse 4 (i' := 4) (ls' := [_, _, _, _]) (st' := [_, _]) rfl ?_
    refine Ev.brF (i1 := 18) (i2 := 5) e_X3_canHouse rfl rfl ((by decide)) ?_
    refine Ev.sn e_X3_canHouse 7 (i' := 12) (ls' := [_, _, _, _]) (st' := [_, _, _, _, _, _]) rfl ?_
    refine Ev.clS e_X3_canHouse rfl rfl rfl (as := [_, _, _, _, _, _]) rfl rfl rfl rfl rfl (a1) rfl ?_
    refine Ev.brT (i1 := 14) (i2 := 16) e_X3_canHouse rfl rfl (bT h1) ?_
    refine Ev.sn e_X3_canHouse 1 (i' := 15) (ls' := [_, _, _, _]) (st' := [_]) rfl ?_
    refine Ev.iret e_X3_canHouse rfl rfl rfl ?_ rfl
    simp [CHB, h0, h1, bI]
   | true =>
    cases h2 : EXB (vC n q dn g) n 2 S q 0 0 with
    | false =>
      refine ⟨R3, ?_⟩
      refine Ev.sn e_X3_canHouse 4 (i' := 4) (ls' := [_, _, _, _]) (st' := [_, _]) rfl ?_
      refine Ev.brF (i1 := 18) (i2 := 5) e_X3_canHouse rfl rfl ((by decide)) ?_
      refine Ev.sn e_X3_canHouse 7 (i' := 12) (ls' := [_, _, _, _]) (st' := [_, _, _, _, _, _]) rfl ?_
      refine Ev.clS e_X3_canHouse rfl rfl rfl (as := [_, _, _, _, _, _]) rfl rfl rfl rfl rfl (a0) rfl ?_
      refine Ev.brF (i1 := 14) (i2 := 16) e_X3_canHouse rfl rfl (bF h0) ?_
      refine Ev.sn e_X3_canHouse 4 (i' := 4) (ls' := [_, _, _, _]) (st' := [_, _]) rfl ?_
      refine Ev.brF (i1 := 18) (i2 := 5) e_X3_canHouse rfl rfl ((by decide)) ?_
      refine Ev.sn e_X3_canHouse 7 (i' := 12) (ls' := [_, _, _, _]) (st' := [_, _, _, _, _, _]) rfl ?_
      refine Ev.clS e_X3_canHouse rfl rfl rfl (as := [_, _, _, _, _, _]) rfl rfl rfl rfl rfl (a1) rfl ?_
      refine Ev.brF (i1 := 14) (i2 := 16) e_X3_canHouse rfl rfl (bF h1) ?_
      refine Ev.sn e_X3_canHouse 4 (i' := 4) (ls' := [_, _, _, _]) (st' := [_, _]) rfl ?_
      refine Ev.brF (i1 := 18) (i2 := 5) e_X3_canHouse rfl rfl ((by decide)) ?_
      refine Ev.sn e_X3_canHouse 7 (i' := 12) (ls' := [_, _, _, _]) (st' := [_, _, _, _, _, _]) rfl ?_
      refine Ev.clS e_X3_canHouse rfl rfl rfl (as := [_, _, _, _, _, _]) rfl rfl rfl rfl rfl (a2) rfl ?_
      refine Ev.brT (i1 := 14) (i2 := 16) e_X3_canHouse rfl rfl (bT h2) ?_
      refine Ev.sn e_X3_canHouse 1 (i' := 15) (ls' := [_, _, _, _]) (st' := [_]) rfl ?_
      refine Ev.iret e_X3_canHouse rfl rfl rfl ?_ rfl
      simp [CHB, h0, h1, h2, bI]
    | true =>
      refine ⟨R3, ?_⟩
      refine Ev.sn e_X3_canHouse 4 (i' := 4) (ls' := [_, _, _, _]) (st' := [_, _]) rfl ?_
      refine Ev.brF (i1 := 18) (i2 := 5) e_X3_canHouse rfl rfl ((by decide)) ?_
      refine Ev.sn e_X3_canHouse 7 (i' := 12) (ls' := [_, _, _, _]) (st' := [_, _, _, _, _, _]) rfl ?_
      refine Ev.clS e_X3_canHouse rfl rfl rfl (as := [_, _, _, _, _, _]) rfl rfl rfl rfl rfl (a0) rfl ?_
      refine Ev.brF (i1 := 14) (i2 := 16) e_X3_canHouse rfl rfl (bF h0) ?_
      refine Ev.sn e_X3_canHouse 4 (i' := 4) (ls' := [_, _, _, _]) (st' := [_, _]) rfl ?_
      refine Ev.brF (i1 := 18) (i2 := 5) e_X3_canHouse rfl rfl ((by decide)) ?_
      refine Ev.sn e_X3_canHouse 7 (i' := 12) (ls' := [_, _, _, _]) (st' := [_, _, _, _, _, _]) rfl ?_
      refine Ev.clS e_X3_canHouse rfl rfl rfl (as := [_, _, _, _, _, _]) rfl rfl rfl rfl rfl (a1) rfl ?_
      refine Ev.brF (i1 := 14) (i2 := 16) e_X3_canHouse rfl rfl (bF h1) ?_
      refine Ev.sn e_X3_canHouse 4 (i' := 4) (ls' := [_, _, _, _]) (st' := [_, _]) rfl ?_
      refine Ev.brF (i1 := 18) (i2 := 5) e_X3_canHouse rfl rfl ((by decide)) ?_
      refine Ev.sn e_X3_canHouse 7 (i' := 12) (ls' := [_, _, _, _]) (st' := [_, _, _, _, _, _]) rfl ?_
      refine Ev.clS e_X3_canHouse rfl rfl rfl (as := [_, _, _, _, _, _]) rfl rfl rfl rfl rfl (a2) rfl ?_
      refine Ev.brF (i1 := 14) (i2 := 16) e_X3_canHouse rfl rfl (bF h2) ?_
      refine Ev.sn e_X3_canHouse 4 (i' := 4) (ls' := [_, _, _, _]) (st' := [_, _]) rfl ?_
      refine Ev.brT (i1 := 18) (i2 := 5) e_X3_canHouse rfl rfl ((by decide)) ?_
      refine Ev.sn e_X3_canHouse 1 (i' := 19) (ls' := [_, _, _, _]) (st' := [_]) rfl ?_
      refine Ev.iret e_X3_canHouse rfl rfl rfl ?_ rfl
      simp [CHB, h0, h1, h2, bI]
set_option maxRecDepth 20000 in
set_option maxHeartbeats 200000 in
theorem lp_X3_mostPeople (g : RG) (tr : Int64) {n q dn : Nat} (hc : CI n q dn g) {D : Nat} (hD : q + 2 ≤ D) : ∀ (j S b : Nat) (R : Nat → Int32), S + j = 2 ^ q → b < 32 → ∃ R', Ev (D + 2) 35 4 [.ref 81, .ref 16, .int (nI b), .int (nI S)] [] (wC (va_up g 101 R) tr) (some (.int (nI (fo (stM (vC n q dn g) n q) j S b)))) (wC (va_up g 101 R') tr) := by
  have hb := hc.b
  have h32 := pow_q hb.2.1
  have hbd : (1 : Int32) <<< (g 42 1 &&& 31) = nI (2 ^ q) := by
    rw [hc.hq]
    exact bitI_nI q (by omega)
  intro j
  induction j with
  | zero =>
    intro S b R hj hb2
    refine ⟨R, ?_⟩
    refine Ev.sn e_X3_mostPeople 6 (i' := 10) (ls' := [_, _, _, _]) (st' := [_, _]) rfl ?_
    refine Ev.brT (i1 := 25) (i2 := 11) e_X3_mostPeople rfl rfl (ge_t hbd (by omega) (by omega)) ?_
    refine Ev.sn e_X3_mostPeople 1 (i' := 26) (ls' := [_, _, _, _]) (st' := [_]) rfl ?_
    refine Ev.iret e_X3_mostPeople rfl rfl rfl ?_ rfl
    rfl
  | succ j ih =>
    intro S b R hj hb2
    rw [fo_s]
    by_cases hp : pcN b < pcN S
    · obtain ⟨R1, a1⟩ := c_X3_canHouse g tr hc (S := S) (by omega) R hD
      have hle : ¬ bcI (nI S) ≤ bcI (nI b) := fun h => by
        have := (bc_le (by omega) (by omega)).mp h
        omega
      cases hx : CHB (vC n q dn g) n q S with
      | true =>
        rw [show stM (vC n q dn g) n q S b = S from if_pos ⟨hp, hx⟩]
        obtain ⟨R2, a2⟩ := ih (S + 1) S R1 (by omega) (by omega)
        refine ⟨R2, ?_⟩
        refine Ev.sn e_X3_mostPeople 6 (i' := 10) (ls' := [_, _, _, _]) (st' := [_, _]) rfl ?_
        refine Ev.brF (i1 := 25) (i2 := 11) e_X3_mostPeople rfl rfl (ge_f hbd (by omega) (by omega)) ?_
        refine Ev.sn e_X3_mostPeople 1 (i' := 12) (ls' := [_, _, _, _]) (st' := [_]) rfl ?_
        refine Ev.clS e_X3_mostPeople rfl rfl rfl (as := [_]) rfl rfl rfl rfl rfl (c_J6_bitCount_0f7a4 _ _ _) rfl ?_
        refine Ev.sn e_X3_mostPeople 1 (i' := 14) (ls' := [_, _, _, _]) (st' := [_, _]) rfl ?_
        refine Ev.clS e_X3_mostPeople rfl rfl rfl (as := [_]) rfl rfl rfl rfl rfl (c_J6_bitCount_0f7a4 _ _ _) rfl ?_
        refine Ev.brF (i1 := 23) (i2 := 16) e_X3_mostPeople rfl rfl (hle) ?_
        refine Ev.sn e_X3_mostPeople 3 (i' := 19) (ls' := [_, _, _, _]) (st' := [_, _, _]) rfl ?_
        refine Ev.clV e_X3_mostPeople rfl rfl (as := [_, _]) rfl rfl rfl kl_X3_canHouse rfl rfl rfl (a1) rfl ?_
        refine Ev.brF (i1 := 23) (i2 := 21) e_X3_mostPeople rfl rfl (bF hx) ?_
        refine Ev.sn e_X3_mostPeople 4 (i' := 4) (ls' := [_, _, _, _]) (st' := []) rfl ?_
        rw [nI_1]
        exact a2
      | false =>
        rw [show stM (vC n q dn g) n q S b = b from if_neg (fun h => by rw [hx] at h; exact absurd h.2 (by decide))]
        obtain ⟨R2, a2⟩ := ih (S + 1) b R1 (by omega) (by omega)
        refine ⟨R2, ?_⟩
        refine Ev.sn e_X3_mostPeople 6 (i' := 10) (ls' := [_, _, _, _]) (st' := [_, _]) rfl ?_
        refine Ev.brF (i1 := 25) (i2 := 11) e_X3_mostPeople rfl rfl (ge_f hbd (by omega) (by omega)) ?_
        refine Ev.sn e_X3_mostPeople 1 (i' := 12) (ls' := [_, _, _, _]) (st' := [_]) rfl ?_
        refine Ev.clS e_X3_mostPeople rfl rfl rfl (as := [_]) rfl rfl rfl rfl rfl (c_J6_bitCount_0f7a4 _ _ _) rfl ?_
        refine Ev.sn e_X3_mostPeople 1 (i' := 14) (ls' := [_, _, _, _]) (st' := [_, _]) rfl ?_
        refine Ev.clS e_X3_mostPeople rfl rfl rfl (as := [_]) rfl rfl rfl rfl rfl (c_J6_bitCount_0f7a4 _ _ _) rfl ?_
        refine Ev.brF (i1 := 23) (i2 := 16) e_X3_mostPeople rfl rfl (hle) ?_
        refine Ev.sn e_X3_mostPeople 3 (i' := 19) (ls' := [_, _, _, _]) (st' := [_, _, _]) rfl ?_
        refine Ev.clV e_X3_mostPeople rfl rfl (as := [_, _]) rfl rfl rfl kl_X3_canHouse rfl rfl rfl (a1) rfl ?_
        refine Ev.brT (i1 := 23) (i2 := 21) e_X3_mostPeople rfl rfl (bT hx) ?_
        refine Ev.sn e_X3_mostPeople 2 (i' := 4) (ls' := [_, _, _, _]) (st' := []) rfl ?_
        rw [nI_1]
        exact a2
    · have hle : bcI (nI S) ≤ bcI (nI b) := (bc_le (by omega) (by omega)).mpr (by omega)
      rw [show stM (vC n q dn g) n q S b = b from if_neg (fun h => hp h.1)]
      obtain ⟨R2, a2⟩ := ih (S + 1) b R (by omega) (by omega)
      refine ⟨R2, ?_⟩
      refine Ev.sn e_X3_mostPeople 6 (i' := 10) (ls' := [_, _, _, _]) (st' := [_, _]) rfl ?_
      refine Ev.brF (i1 := 25) (i2 := 11) e_X3_mostPeople rfl rfl (ge_f hbd (by omega) (by omega)) ?_
      refine Ev.sn e_X3_mostPeople 1 (i' := 12) (ls' := [_, _, _, _]) (st' := [_]) rfl ?_
      refine Ev.clS e_X3_mostPeople rfl rfl rfl (as := [_]) rfl rfl rfl rfl rfl (c_J6_bitCount_0f7a4 _ _ _) rfl ?_
      refine Ev.sn e_X3_mostPeople 1 (i' := 14) (ls' := [_, _, _, _]) (st' := [_, _]) rfl ?_
      refine Ev.clS e_X3_mostPeople rfl rfl rfl (as := [_]) rfl rfl rfl rfl rfl (c_J6_bitCount_0f7a4 _ _ _) rfl ?_
      refine Ev.brT (i1 := 23) (i2 := 16) e_X3_mostPeople rfl rfl (hle) ?_
      refine Ev.sn e_X3_mostPeople 2 (i' := 4) (ls' := [_, _, _, _]) (st' := []) rfl ?_
      rw [nI_1]
      exact a2
set_option maxRecDepth 20000 in
set_option maxHeartbeats 200000 in
theorem c_X3_mostPeople (g : RG) (tr : Int64) {n q dn : Nat} (hc : CI n q dn g) (R : Nat → Int32) {D : Nat} (hD : q + 2 ≤ D) : ∃ R', Ev (D + 2) 35 0 [.ref 81, .ref 16, .null, .null] [] (wC (va_up g 101 R) tr) (some (.int (nI (MPB (vC n q dn g) n q)))) (wC (va_up g 101 R') tr) := by
  have hp := Nat.two_pow_pos q
  obtain ⟨R2, a2⟩ := lp_X3_mostPeople g tr hc hD (2 ^ q - 1) 1 0 R (by omega) (by omega)
  refine ⟨R2, ?_⟩
  refine Ev.sn e_X3_mostPeople 4 (i' := 4) (ls' := [_, _, _, _]) (st' := []) rfl ?_
  exact a2
set_option maxRecDepth 20000 in
set_option maxHeartbeats 200000 in
theorem c_X3_firstThingOf (g : RG) (tr : Int64) {n q dn : Nat} (hc : CI n q dn g) {p u : Nat} (hp : p < q) (hu : u < 3) (R : Nat → Int32) {D : Nat} (hD : q + 2 ≤ D) : ∃ R', Ev (D + 3) 36 0 [.ref 81, .ref 16, .int (nI p), .int (nI u), .null] [] (wC (va_up g 101 R) tr) (some (.int (if (MPB (vC n q dn g) n q).testBit p = true then nI (gpk (vC n q dn g) n (nI u) (MPB (vC n q dn g) n q) q 0 0 p) else -9))) (wC (va_up g 101 R') tr) := by
  have hb := hc.b
  have hM := MPB_ok (v := (vC n q dn g)) (n := n) hb.2.1
  obtain ⟨R1, a1⟩ := c_X3_mostPeople g tr hc R hD
  have hbt := bit_I (MPB (vC n q dn g) n q) (by omega) p (by omega)
  cases hz : (MPB (vC n q dn g) n q).testBit p with
  | false =>
    refine ⟨R1, ?_⟩
    rw [hz, if_neg (by decide)] at hbt
    refine Ev.sn e_X3_firstThingOf 2 (i' := 2) (ls' := [_, _, _, _, _]) (st' := [_, _]) rfl ?_
    refine Ev.clV e_X3_firstThingOf rfl rfl (as := [_]) rfl rfl rfl kl_X3_mostPeople rfl rfl rfl (a1) rfl ?_
    refine Ev.sn e_X3_firstThingOf 6 (i' := 9) (ls' := [_, _, _, _, _]) (st' := [_]) rfl ?_
    refine Ev.brT (i1 := 19) (i2 := 10) e_X3_firstThingOf rfl rfl (hbt) ?_
    refine Ev.sn e_X3_firstThingOf 1 (i' := 20) (ls' := [_, _, _, _, _]) (st' := [_]) rfl ?_
    refine Ev.iret e_X3_firstThingOf rfl rfl rfl ?_ rfl
    rw [if_neg (by decide)]
  | true =>
    have hE : EXB (vC n q dn g) n (nI u) (MPB (vC n q dn g) n q) q 0 0 = true := by
      rcases hM.2 with h | h
      · rw [h] at hz; rw [Nat.zero_testBit] at hz; exact absurd hz (by decide)
      · exact CHB_u hu h
    have a2 := c_X3_layFrom g tr hc (nI u) hM.1 q 0 0 R1 (D + 2) 0 0 (by omega) (by omega) (by omega) rfl rfl
    rw [if_pos hE, hE] at a2
    refine ⟨LRW (vC n q dn g) n (nI u) (MPB (vC n q dn g) n q) q 0 0 R1, ?_⟩
    rw [hz, if_pos rfl] at hbt
    rw [if_pos rfl, ← LRW_g hz q 0 0 R1 (by omega) (by omega)]
    refine Ev.sn e_X3_firstThingOf 2 (i' := 2) (ls' := [_, _, _, _, _]) (st' := [_, _]) rfl ?_
    refine Ev.clV e_X3_firstThingOf rfl rfl (as := [_]) rfl rfl rfl kl_X3_mostPeople rfl rfl rfl (a1) rfl ?_
    refine Ev.sn e_X3_firstThingOf 6 (i' := 9) (ls' := [_, _, _, _, _]) (st' := [_]) rfl ?_
    refine Ev.brF (i1 := 19) (i2 := 10) e_X3_firstThingOf rfl rfl ((fun h => absurd (hbt.symm.trans h) (by decide))) ?_
    refine Ev.sn e_X3_firstThingOf 7 (i' := 17) (ls' := [_, _, _, _, _]) (st' := [_, _, _, _, _, _]) rfl ?_
    refine Ev.clS e_X3_firstThingOf rfl rfl rfl (as := [_, _, _, _, _, _]) rfl rfl rfl rfl rfl (a2) rfl ?_
    refine Ev.brF (i1 := 19) (i2 := 21) e_X3_firstThingOf rfl rfl ((by decide)) ?_
    refine Ev.sn e_X3_firstThingOf 3 (i' := 24) (ls' := [_, _, _, _, _]) (st' := [_, _]) rfl ?_
    refine Ev.ialdE e_X3_firstThingOf rfl rfl rfl rfl (m := p) rfl (by omega) ?_
    refine Ev.iret e_X3_firstThingOf rfl rfl rfl ?_ rfl
    rfl
def S_housed (v : VW) (n q : Nat) (x : Int32) : Int32 := if x = 0 then bcI (nI (MPB v n q)) else nI (MPB v n q)
def S_laying (v : VW) (n q p u : Nat) : Int32 := if (MPB v n q).testBit p = true then nI (gpk v n (nI u) (MPB v n q) q 0 0 p) else -9
theorem va_101 (g : RG) : va_up g 101 (g 101) = g := va_same g 101
set_option maxRecDepth 20000 in
set_option maxHeartbeats 200000 in
theorem c_X8_housed_b (d : Nat) (g : RG) (tr : Int64) (x : Int32) (h : (decide (x = 0) || decide (x = 1)) = false) : Ev (d + 1) 86 0 [.ref 0, .int x, .null] [] (wC g tr) (some (.int (-1))) (wC g tr) := by
  refine Ev.sn e_X8_housed 1 (i' := 1) (ls' := [_, _, _]) (st' := [_]) rfl ?_
  refine Ev.clS e_X8_housed rfl rfl rfl (as := [_]) rfl rfl rfl rfl rfl (c_X8_isFirstOrSecond _ _ _) rfl ?_
  refine Ev.brT (i1 := 3) (i2 := 5) e_X8_housed rfl rfl (bT h) ?_
  refine Ev.sn e_X8_housed 1 (i' := 4) (ls' := [_, _, _]) (st' := [_]) rfl ?_
  refine Ev.iret e_X8_housed rfl rfl rfl ?_ rfl
  rfl
set_option maxRecDepth 20000 in
set_option maxHeartbeats 200000 in
theorem c_X8_housed_s (g : RG) (tr : Int64) {n q dn : Nat} (hc : CI n q dn g) {D : Nat} (hD : q + 2 ≤ D) (x : Int32) (h : (decide (x = 0) || decide (x = 1)) = true) : ∃ R', Ev (D + 3) 86 0 [.ref 0, .int x, .null] [] (wC g tr) (some (.int (S_housed (vC n q dn g) n q x))) (wC (va_up g 101 R') tr) := by
  obtain ⟨R1, a1⟩ := c_X3_mostPeople g tr hc (g 101) hD
  rw [va_101] at a1
  by_cases hx : x = 0
  · refine ⟨R1, ?_⟩
    unfold S_housed
    rw [if_pos hx]
    refine Ev.sn e_X8_housed 1 (i' := 1) (ls' := [_, _, _]) (st' := [_]) rfl ?_
    refine Ev.clS e_X8_housed rfl rfl rfl (as := [_]) rfl rfl rfl rfl rfl (c_X8_isFirstOrSecond _ _ _) rfl ?_
    refine Ev.brF (i1 := 3) (i2 := 5) e_X8_housed rfl rfl (bF h) ?_
    refine Ev.sn e_X8_housed 4 (i' := 9) (ls' := [_, _, _]) (st' := [_, _]) rfl ?_
    refine Ev.clV e_X8_housed rfl rfl (as := [_]) rfl rfl rfl kl_X3_mostPeople rfl rfl rfl (a1) rfl ?_
    refine Ev.sn e_X8_housed 2 (i' := 12) (ls' := [_, _, _]) (st' := [_]) rfl ?_
    refine Ev.brT (i1 := 13) (i2 := 16) e_X8_housed rfl rfl (hx) ?_
    refine Ev.sn e_X8_housed 1 (i' := 14) (ls' := [_, _, _]) (st' := [_]) rfl ?_
    refine Ev.clS e_X8_housed rfl rfl rfl (as := [_]) rfl rfl rfl rfl rfl (c_J6_bitCount_0f7a4 _ _ _) rfl ?_
    refine Ev.sn e_X8_housed 1 (i' := 17) (ls' := [_, _, _]) (st' := [_]) rfl ?_
    refine Ev.iret e_X8_housed rfl rfl rfl ?_ rfl
    rfl
  · refine ⟨R1, ?_⟩
    unfold S_housed
    rw [if_neg hx]
    refine Ev.sn e_X8_housed 1 (i' := 1) (ls' := [_, _, _]) (st' := [_]) rfl ?_
    refine Ev.clS e_X8_housed rfl rfl rfl (as := [_]) rfl rfl rfl rfl rfl (c_X8_isFirstOrSecond _ _ _) rfl ?_
    refine Ev.brF (i1 := 3) (i2 := 5) e_X8_housed rfl rfl (bF h) ?_
    refine Ev.sn e_X8_housed 4 (i' := 9) (ls' := [_, _, _]) (st' := [_, _]) rfl ?_
    refine Ev.clV e_X8_housed rfl rfl (as := [_]) rfl rfl rfl kl_X3_mostPeople rfl rfl rfl (a1) rfl ?_
    refine Ev.sn e_X8_housed 2 (i' := 12) (ls' := [_, _, _]) (st' := [_]) rfl ?_
    refine Ev.brF (i1 := 13) (i2 := 16) e_X8_housed rfl rfl (hx) ?_
    refine Ev.sn e_X8_housed 1 (i' := 17) (ls' := [_, _, _]) (st' := [_]) rfl ?_
    refine Ev.iret e_X8_housed rfl rfl rfl ?_ rfl
    rfl
set_option maxRecDepth 20000 in
set_option maxHeartbeats 200000 in
theorem c_X8_laying_b (d : Nat) (g : RG) (tr : Int64) {n q dn : Nat} (hc : CI n q dn g) (p u : Int32) (h : ((decide (0 ≤ p) && decide (p < nI q)) && (decide (0 ≤ u) && decide (u < 3))) = false) : Ev (d + 1) 87 0 [.ref 0, .int p, .int u] [] (wC g tr) (some (.int (-1))) (wC g tr) := by
  refine Ev.sn e_X8_laying 3 (i' := 3) (ls' := [_, _, _]) (st' := [_, _]) rfl ?_
  refine Ev.clV e_X8_laying rfl rfl (as := [_]) rfl rfl rfl kl_X2_hasPerson rfl rfl rfl (c_X2_hasPerson _ _ _ hc _) rfl ?_
  refine Ev.brB (i1 := 8) (i2 := 5) e_X8_laying rfl rfl (fun h0 => ?_) (fun h0 => ?_)
  · refine Ev.sn e_X8_laying 1 (i' := 9) (ls' := [_, _, _]) (st' := [_]) rfl ?_
    refine Ev.iret e_X8_laying rfl rfl rfl ?_ rfl
    rfl
  · refine Ev.sn e_X8_laying 1 (i' := 6) (ls' := [_, _, _]) (st' := [_]) rfl ?_
    refine Ev.clS e_X8_laying rfl rfl rfl (as := [_]) rfl rfl rfl rfl rfl (c_X8_isUse _ _ _) rfl ?_
    refine Ev.brB (i1 := 8) (i2 := 10) e_X8_laying rfl rfl (fun h1 => ?_) (fun h1 => ?_)
    · refine Ev.sn e_X8_laying 1 (i' := 9) (ls' := [_, _, _]) (st' := [_]) rfl ?_
      refine Ev.iret e_X8_laying rfl rfl rfl ?_ rfl
      rfl
    · exact absurd h (by rw [h0, h1]; decide)
set_option maxRecDepth 20000 in
set_option maxHeartbeats 200000 in
theorem c_X8_laying_s (g : RG) (tr : Int64) {n q dn : Nat} (hc : CI n q dn g) {D : Nat} (hD : q + 2 ≤ D) {p u : Nat} (hp : p < q) (hu : u < 3) : ∃ R', Ev (D + 4) 87 0 [.ref 0, .int (nI p), .int (nI u)] [] (wC g tr) (some (.int (S_laying (vC n q dn g) n q p u))) (wC (va_up g 101 R') tr) := by
  obtain ⟨R1, a1⟩ := c_X3_firstThingOf g tr hc hp hu (g 101) hD
  rw [va_101] at a1
  have hb := hc.b
  have h1 : (decide (0 ≤ nI p) && decide (nI p < nI q)) = true := by
    simp only [Bool.and_eq_true, decide_eq_true_eq]
    exact ⟨nI_pos' (by omega), nI_lt hp (by omega)⟩
  have h2 : (decide (0 ≤ nI u) && decide (nI u < 3)) = true := by
    simp only [Bool.and_eq_true, decide_eq_true_eq]
    exact ⟨nI_pos' (by omega), nI_lt (b := 3) hu (by omega)⟩
  refine ⟨R1, ?_⟩
  refine Ev.sn e_X8_laying 3 (i' := 3) (ls' := [_, _, _]) (st' := [_, _]) rfl ?_
  refine Ev.clV e_X8_laying rfl rfl (as := [_]) rfl rfl rfl kl_X2_hasPerson rfl rfl rfl (c_X2_hasPerson _ _ _ hc _) rfl ?_
  refine Ev.brF (i1 := 8) (i2 := 5) e_X8_laying rfl rfl (bF h1) ?_
  refine Ev.sn e_X8_laying 1 (i' := 6) (ls' := [_, _, _]) (st' := [_]) rfl ?_
  refine Ev.clS e_X8_laying rfl rfl rfl (as := [_]) rfl rfl rfl rfl rfl (c_X8_isUse _ _ _) rfl ?_
  refine Ev.brF (i1 := 8) (i2 := 10) e_X8_laying rfl rfl (bF h2) ?_
  refine Ev.sn e_X8_laying 6 (i' := 16) (ls' := [_, _, _]) (st' := [_, _, _, _]) rfl ?_
  refine Ev.clV e_X8_laying rfl rfl (as := [_, _, _]) rfl rfl rfl kl_X3_firstThingOf rfl rfl rfl (a1) rfl ?_
  refine Ev.iret e_X8_laying rfl rfl rfl ?_ rfl
  rfl
