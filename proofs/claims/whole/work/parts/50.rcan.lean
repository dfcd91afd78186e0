/-! who can have what: the reference tries all rows by figures -/
def cnB (S : Nat) : Nat → Nat → Nat
  | 0, _ => 0
  | k + 1, p => (if S.testBit p = true then 1 else 0) + cnB S k (p + 1)
def CHK (v : VW) (n : Nat) (u : Int32) (S : Nat) : Nat → Nat → Nat → Nat → Bool
  | 0, _, _, _ => true
  | k + 1, p, w, T => if S.testBit p = true then (okB v u T (w % n) p && CHK v n u S k (p + 1) (w / n) (T ||| 2 ^ (w % n))) else CHK v n u S k (p + 1) w T
theorem cnB_le (S : Nat) : ∀ k p, cnB S k p ≤ k
  | 0, _ => by simp [cnB]
  | k + 1, p => by
    have := cnB_le S k (p + 1)
    unfold cnB
    split <;> omega
theorem anyN_iff (f : Nat → Bool) : ∀ k p, anyN f k p = true ↔ ∃ x, p ≤ x ∧ x < p + k ∧ f x = true
  | 0, p => by
    constructor
    · intro h; exact absurd h (by simp [anyN])
    · rintro ⟨x, h1, h2, _⟩; omega
  | k + 1, p => by
    rw [anyN_s]
    by_cases h : f p = true
    · rw [if_pos h]
      exact ⟨fun _ => ⟨p, by omega, by omega, h⟩, fun _ => rfl⟩
    · rw [if_neg h, anyN_iff f k (p + 1)]
      constructor
      · rintro ⟨x, h1, h2, h3⟩; exact ⟨x, by omega, by omega, h3⟩
      · rintro ⟨x, h1, h2, h3⟩
        refine ⟨x, ?_, by omega, h3⟩
        rcases Nat.lt_or_ge p x with h4 | h4
        · omega
        · have : x = p := by omega
          rw [this] at h3; exact absurd h3 h
theorem firT_ok (f : Nat → Bool) : ∀ k p, anyN f k p = true → f (firT f k p) = true ∧ firT f k p < p + k ∧ p ≤ firT f k p
  | 0, p, h => absurd h (by simp [anyN])
  | k + 1, p, h => by
    rw [anyN_s] at h
    rw [firT_s]
    by_cases hp : f p = true
    · rw [if_pos hp]; exact ⟨hp, by omega, by omega⟩
    · rw [if_neg hp] at h ⊢
      have := firT_ok f k (p + 1) h
      exact ⟨this.1, by omega, by omega⟩
theorem CHK_iff (v : VW) (n : Nat) (u : Int32) (S : Nat) : ∀ k p T, (∃ w, w < n ^ cnB S k p ∧ CHK v n u S k p w T = true) ↔ EXB v n u S k p T = true
  | 0, p, T => ⟨fun _ => rfl, fun _ => ⟨0, by simp [cnB], rfl⟩⟩
  | k + 1, p, T => by
    rw [EXB_s]
    unfold cnB CHK
    by_cases hz : S.testBit p = true
    · simp only [if_pos hz]
      rw [anyN_iff]
      constructor
      · rintro ⟨w, h1, h2⟩
        simp only [Bool.and_eq_true] at h2
        have hn : 0 < n := by
          rcases Nat.eq_zero_or_pos n with e | e
          · rw [e, Nat.add_comm, Nat.pow_succ, Nat.mul_zero] at h1; omega
          · exact e
        refine ⟨w % n, by omega, by rw [Nat.zero_add]; exact Nat.mod_lt _ hn, ?_⟩
        unfold FXB
        rw [Bool.and_eq_true]
        refine ⟨h2.1, (CHK_iff v n u S k (p + 1) _).mp ⟨w / n, ?_, h2.2⟩⟩
        rw [Nat.add_comm, Nat.pow_succ] at h1
        exact (Nat.div_lt_iff_lt_mul hn).mpr h1
      · rintro ⟨t, -, h1, h2⟩
        unfold FXB at h2
        rw [Bool.and_eq_true] at h2
        obtain ⟨w, h3, h4⟩ := (CHK_iff v n u S k (p + 1) _).mpr h2.2
        have ht : t < n := by omega
        have e1 : (n * w + t) % n = t := by rw [Nat.mul_add_mod]; exact Nat.mod_eq_of_lt ht
        have e2 : (n * w + t) / n = w := by rw [Nat.mul_add_div (by omega), Nat.div_eq_of_lt ht, Nat.add_zero]
        refine ⟨n * w + t, ?_, ?_⟩
        · rw [Nat.add_comm 1, Nat.pow_succ, Nat.mul_comm _ n]
          calc n * w + t < n * w + n := by omega
            _ = n * (w + 1) := by rw [Nat.mul_succ]
            _ ≤ n * n ^ cnB S k (p + 1) := Nat.mul_le_mul_left n h3
        · rw [e1, e2, Bool.and_eq_true]
          exact ⟨h2.1, h4⟩
    · simp only [if_neg hz, Nat.zero_add]
      exact CHK_iff v n u S k (p + 1) T
theorem CHK_any (v : VW) (n : Nat) (u : Int32) (S k p T : Nat) : anyN (fun w => CHK v n u S k p w T) (n ^ cnB S k p) 0 = EXB v n u S k p T := by
  apply Bool.eq_iff_iff.mpr
  rw [anyN_iff, ← CHK_iff]
  constructor
  · rintro ⟨x, -, h1, h2⟩; exact ⟨x, by omega, h2⟩
  · rintro ⟨x, h1, h2⟩; exact ⟨x, by omega, by omega, h2⟩
theorem EXB_0 (v : VW) (n : Nat) (u : Int32) (S : Nat) : ∀ k p T, cnB S k p = 0 → EXB v n u S k p T = true
  | 0, _, _, _ => rfl
  | k + 1, p, T, h => by
    unfold cnB at h
    rw [EXB_s]
    by_cases hz : S.testBit p = true
    · rw [if_pos hz] at h; omega
    · rw [if_neg hz] at h ⊢
      exact EXB_0 v n u S k (p + 1) T (by omega)
theorem nI_mul1 (a : Nat) : nI a * 1 = nI a := by rw [show (1 : Int32) = nI 1 from rfl, pk_mul, Nat.mul_one]
theorem nI_add0 (a : Nat) : nI a + 0 = nI a := by rw [show (0 : Int32) = nI 0 from rfl, nI_add, Nat.add_zero]
theorem bit_1 {S p : Nat} (hS : S < 64) (hp : p < 6) : (nI S >>> (nI p &&& 31) &&& 1) = 1 ↔ S.testBit p = true := by
  rw [bit_I S hS p hp]
  cases S.testBit p <;> decide
theorem bit_0 {S p : Nat} (hS : S < 64) (hp : p < 6) : (nI S >>> (nI p &&& 31) &&& 1) = 0 ↔ S.testBit p = false := by
  rw [bit_I S hS p hp]
  cases S.testBit p <;> decide
set_option maxRecDepth 20000 in
set_option maxHeartbeats 200000 in
theorem l1_X9_canHave (d : Nat) (g : RG) (tr : Int64) {n q dn : Nat} (hc : RI n q dn g) {S : Nat} (hS : S < 64) {T : Nat} (hT : T < 64) (u : Int32) (fr : Int32) (r : Option Value) (w2 : AW) : ∀ (k p a c A C : Nat), p + k = q → a * n ^ cnB S k p = A → c + cnB S k p = C → Ev (d + 3) 155 38 [.ref 0, .int (nI S), .int u, .int fr, .int (nI T), .int (nI A), .int (nI C), .null, .null, .null, .null, .null, .null, .null] [] (wR g tr) r w2 → Ev (d + 3) 155 6 [.ref 0, .int (nI S), .int u, .int fr, .int (nI T), .int (nI a), .int (nI c), .int (nI p), .null, .null, .null, .null, .null, .null] [] (wR g tr) r w2 := by
  have hb := hc.b
  intro k
  induction k with
  | zero =>
    intro p a c A C hp hA hC K
    have hA : a = A := by rw [← hA]; unfold cnB; rw [Nat.pow_zero, Nat.mul_one]
    have hC : c = C := hC
    subst hA
    subst hC
    refine Ev.sn e_X9_canHave 4 (i' := 10) (ls' := [_, _, _, _, _, _, _, _, _, _, _, _, _, _]) (st' := [_, _, _]) rfl ?_
    refine Ev.ialdE e_X9_canHave rfl rfl rfl rfl (m := 1) rfl (by decide) ?_
    refine Ev.brT (i1 := 38) (i2 := 12) e_X9_canHave rfl rfl (ge_t hc.hq (by omega) (by omega)) ?_
    refine Ev.weak (lle_c (lle_c (lle_c (lle_c (lle_c (lle_c (lle_c (lle_n (lle_n (lle_n (lle_n (lle_n (lle_n (lle_n lle_0)))))))))))))) K
  | succ k ih =>
    intro p a c A C hp hA hC K
    unfold cnB at hA hC
    have hb1 := bit_1 hS (show p < 6 by omega)
    have hb0 := bit_0 hS (show p < 6 by omega)
    refine Ev.sn e_X9_canHave 4 (i' := 10) (ls' := [_, _, _, _, _, _, _, _, _, _, _, _, _, _]) (st' := [_, _, _]) rfl ?_
    refine Ev.ialdE e_X9_canHave rfl rfl rfl rfl (m := 1) rfl (by decide) ?_
    refine Ev.brF (i1 := 38) (i2 := 12) e_X9_canHave rfl rfl (ge_f hc.hq (by omega) (by omega)) ?_
    refine Ev.sn e_X9_canHave 7 (i' := 19) (ls' := [_, _, _, _, _, _, _, _, _, _, _, _, _, _]) (st' := [_, _, _]) rfl ?_
    refine Ev.br (i1 := 20) (i2 := 25) e_X9_canHave rfl rfl (fun hq => ?_) (fun hq => ?_)
    · refine Ev.sn e_X9_canHave 3 (i' := 23) (ls' := [_, _, _, _, _, _, _, _, _, _, _, _, _, _]) (st' := [_, _, _]) rfl ?_
      refine Ev.ialdE e_X9_canHave rfl rfl rfl rfl (m := 0) rfl (by decide) ?_
      refine Ev.sn e_X9_canHave 13 (i' := 6) (ls' := [_, _, _, _, _, _, _, _, _, _, _, _, _, _]) (st' := []) rfl ?_
      have hz : S.testBit p = true := hb1.mp hq
      rw [if_pos hz] at hA hC
      rw [hb1.mpr hz, hc.hn, pk_mul, nI_1, nI_1]
      exact ih (p + 1) (a * n) (c + 1) A C (by omega) (by rw [← hA, Nat.pow_add, Nat.pow_one, Nat.mul_assoc]) (by omega) K
    · refine Ev.sn e_X9_canHave 13 (i' := 6) (ls' := [_, _, _, _, _, _, _, _, _, _, _, _, _, _]) (st' := []) rfl ?_
      have hz : S.testBit p = false := by
        cases hz : S.testBit p with
        | false => rfl
        | true => exact absurd (hb1.mpr hz) hq
      rw [hz, if_neg (by decide)] at hA hC
      rw [hb0.mpr hz, nI_mul1, nI_add0, nI_1]
      exact ih (p + 1) a c A C (by omega) (by rw [← hA, Nat.zero_add]) (by omega) K
set_option maxRecDepth 20000 in
set_option maxHeartbeats 200000 in
theorem l2_X9_canHave (d : Nat) (g : RG) (tr : Int64) {n q dn : Nat} (hc : RI n q dn g) {S : Nat} (hS : S < 64) {T : Nat} (hT : T < 64) (u : Int32) (fr : Int32) (A x : Int32) : Ev (d + 3) 155 46 [.ref 0, .int (nI S), .int u, .int fr, .int (nI T), .int A, .null, .int 1, .int x, .null, .null, .null, .null, .null] [] (wR g tr) (some (.int 1)) (wR g tr) := by
  refine Ev.sn e_X9_canHave 2 (i' := 48) (ls' := [_, _, _, _, _, _, _, _, _, _, _, _, _, _]) (st' := [_, _]) rfl ?_
  refine Ev.br (i1 := 125) (i2 := 49) e_X9_canHave rfl rfl (fun h0 => ?_) (fun h0 => ?_)
  · refine Ev.sn e_X9_canHave 1 (i' := 126) (ls' := [_, _, _, _, _, _, _, _, _, _, _, _, _, _]) (st' := [_]) rfl ?_
    refine Ev.iret e_X9_canHave rfl rfl rfl ?_ rfl
    rfl
  · refine Ev.sn e_X9_canHave 1 (i' := 50) (ls' := [_, _, _, _, _, _, _, _, _, _, _, _, _, _]) (st' := [_]) rfl ?_
    refine Ev.brF (i1 := 51) (i2 := 125) e_X9_canHave rfl rfl ((by decide)) ?_
    refine Ev.sn e_X9_canHave 1 (i' := 126) (ls' := [_, _, _, _, _, _, _, _, _, _, _, _, _, _]) (st' := [_]) rfl ?_
    refine Ev.iret e_X9_canHave rfl rfl rfl ?_ rfl
    rfl
set_option maxRecDepth 20000 in
set_option maxHeartbeats 200000 in
theorem l3_X9_canHave (d : Nat) (g : RG) (tr : Int64) {n q dn : Nat} (hc : RI n q dn g) {S : Nat} (hS : S < 64) {T : Nat} (hT : T < 64) (u : Int32) (fr : Int32) (A x y z e : Int32) (r : Option Value) (w2 : AW) (K : Ev (d + 3) 155 121 [.ref 0, .int (nI S), .int u, .int fr, .int (nI T), .int A, .null, .null, .int x, .null, .null, .int (bI false), .null, .null] [] (wR g tr) r w2) : Ev (d + 3) 155 64 [.ref 0, .int (nI S), .int u, .int fr, .int (nI T), .int A, .null, .null, .int x, .int y, .int z, .int 0, .int e, .null] [] (wR g tr) r w2 := by
  refine Ev.sn e_X9_canHave 4 (i' := 68) (ls' := [_, _, _, _, _, _, _, _, _, _, _, _, _, _]) (st' := [_, _, _]) rfl ?_
  refine Ev.ialdE e_X9_canHave rfl rfl rfl rfl (m := 1) rfl (by decide) ?_
  refine Ev.br (i1 := 121) (i2 := 70) e_X9_canHave rfl rfl (fun h0 => ?_) (fun h0 => ?_)
  · refine Ev.weak (lle_c (lle_c (lle_c (lle_c (lle_c (lle_c (lle_n (lle_n (lle_c (lle_n (lle_n (lle_c (lle_n (lle_n lle_0)))))))))))))) K
  · refine Ev.sn e_X9_canHave 1 (i' := 71) (ls' := [_, _, _, _, _, _, _, _, _, _, _, _, _, _]) (st' := [_]) rfl ?_
    refine Ev.brT (i1 := 121) (i2 := 72) e_X9_canHave rfl rfl ((by decide)) ?_
    refine Ev.weak (lle_c (lle_c (lle_c (lle_c (lle_c (lle_c (lle_n (lle_n (lle_c (lle_n (lle_n (lle_c (lle_n (lle_n lle_0)))))))))))))) K
set_option maxRecDepth 20000 in
set_option maxHeartbeats 200000 in
theorem l4_X9_canHave (d : Nat) (g : RG) (tr : Int64) {n q dn : Nat} (hc : RI n q dn g) {S : Nat} (hS : S < 64) {T : Nat} (hT : T < 64) (u : Int32) (fr : Int32) (hn : 0 < n) (A x : Int32) (r : Option Value) (w2 : AW) : ∀ (k p y M : Nat), p + k = q → M < 64 → y < 10000 → Ev (d + 3) 155 121 [.ref 0, .int (nI S), .int u, .int fr, .int (nI T), .int A, .null, .null, .int x, .null, .null, .int (bI (CHK (vR n q dn g) n u S k p y M)), .null, .null] [] (wR g tr) r w2 → Ev (d + 3) 155 64 [.ref 0, .int (nI S), .int u, .int fr, .int (nI T), .int A, .null, .null, .int x, .int (nI y), .int (nI M), .int 1, .int (nI p), .null] [] (wR g tr) r w2 := by
  have hb := hc.b
  intro k
  induction k with
  | zero =>
    intro p y M hp hM hy K
    refine Ev.sn e_X9_canHave 4 (i' := 68) (ls' := [_, _, _, _, _, _, _, _, _, _, _, _, _, _]) (st' := [_, _, _]) rfl ?_
    refine Ev.ialdE e_X9_canHave rfl rfl rfl rfl (m := 1) rfl (by decide) ?_
    refine Ev.brT (i1 := 121) (i2 := 70) e_X9_canHave rfl rfl (ge_t hc.hq (by omega) (by omega)) ?_
    refine Ev.weak (lle_c (lle_c (lle_c (lle_c (lle_c (lle_c (lle_n (lle_n (lle_c (lle_n (lle_n (lle_c (lle_n (lle_n lle_0)))))))))))))) K
  | succ k ih =>
    intro p y M hp hM hy K
    have hb1 := bit_1 hS (show p < 6 by omega)
    have hmn : y % n < n := Nat.mod_lt _ hn
    have hb2 := bit_0 hM (show y % n < 6 by omega)
    have hyd : y / n < 10000 := Nat.lt_of_le_of_lt (Nat.div_le_self _ _) hy
    have hn0 : ¬ g 2 0 = 0 := by rw [hc.hn]; exact nI_ne0 hn (by omega)
    have hsub : ∀ {b : Bool}, S.testBit p = true → okB (vR n q dn g) u M (y % n) p = b → CHK (vR n q dn g) n u S (k + 1) p y M = (b && CHK (vR n q dn g) n u S k (p + 1) (y / n) (M ||| 2 ^ (y % n))) := by
      intro b h1 h2
      show (if S.testBit p = true then _ else _) = _
      rw [if_pos h1, h2]
    refine Ev.sn e_X9_canHave 4 (i' := 68) (ls' := [_, _, _, _, _, _, _, _, _, _, _, _, _, _]) (st' := [_, _, _]) rfl ?_
    refine Ev.ialdE e_X9_canHave rfl rfl rfl rfl (m := 1) rfl (by decide) ?_
    refine Ev.brF (i1 := 121) (i2 := 70) e_X9_canHave rfl rfl (ge_f hc.hq (by omega) (by omega)) ?_
    refine Ev.sn e_X9_canHave 1 (i' := 71) (ls' := [_, _, _, _, _, _, _, _, _, _, _, _, _, _]) (st' := [_]) rfl ?_
    refine Ev.brF (i1 := 121) (i2 := 72) e_X9_canHave rfl rfl ((by decide)) ?_
    refine Ev.sn e_X9_canHave 6 (i' := 78) (ls' := [_, _, _, _, _, _, _, _, _, _, _, _, _, _]) (st' := [_, _]) rfl ?_
    refine Ev.br (i1 := 79) (i2 := 119) e_X9_canHave rfl rfl (fun hp1 => ?_) (fun hp1 => ?_)
    · have hz : S.testBit p = true := hb1.mp hp1
      refine Ev.sn e_X9_canHave 4 (i' := 83) (ls' := [_, _, _, _, _, _, _, _, _, _, _, _, _, _]) (st' := [_, _, _]) rfl ?_
      refine Ev.ialdE e_X9_canHave rfl rfl rfl rfl (m := 0) rfl (by decide) ?_
      refine Ev.irem e_X9_canHave rfl rfl hn0 ?_
      rw [hc.hn, pk_rem (by omega) hn (by omega)]
      refine Ev.sn e_X9_canHave 5 (i' := 90) (ls' := [_, _, _, _, _, _, _, _, _, _, _, _, _, _]) (st' := [_, _, _]) rfl ?_
      refine Ev.ialdE e_X9_canHave rfl rfl rfl rfl (m := 0) rfl (by decide) ?_
      refine Ev.idiv e_X9_canHave rfl rfl hn0 ?_
      rw [hc.hn, pk_div (by omega) hn (by omega)]
      refine Ev.sn e_X9_canHave 3 (i' := 95) (ls' := [_, _, _, _, _, _, _, _, _, _, _, _, _, _]) (st' := [_, _]) rfl ?_
      refine Ev.clV e_X9_canHave rfl rfl (as := [_]) rfl rfl rfl kl_X9_useOf rfl rfl rfl (c_X9_useOf _ _ _ hc hmn) rfl ?_
      refine Ev.sn e_X9_canHave 1 (i' := 97) (ls' := [_, _, _, _, _, _, _, _, _, _, _, _, _, _]) (st' := [_, _]) rfl ?_
      refine Ev.br (i1 := 98) (i2 := 111) e_X9_canHave rfl rfl (fun hu => ?_) (fun hu => ?_)
      · refine Ev.sn e_X9_canHave 5 (i' := 103) (ls' := [_, _, _, _, _, _, _, _, _, _, _, _, _, _]) (st' := [_]) rfl ?_
        refine Ev.br (i1 := 104) (i2 := 111) e_X9_canHave rfl rfl (fun hq => ?_) (fun hq => ?_)
        · refine Ev.sn e_X9_canHave 3 (i' := 107) (ls' := [_, _, _, _, _, _, _, _, _, _, _, _, _, _]) (st' := [_, _, _]) rfl ?_
          refine Ev.clV e_X9_canHave rfl rfl (as := [_, _]) rfl rfl rfl kl_X9_isFit rfl rfl rfl (c_X9_isFit _ _ _ hc hmn (show p < q by omega)) rfl ?_
          refine Ev.brB (i1 := 111) (i2 := 109) e_X9_canHave rfl rfl (fun hf => ?_) (fun hf => ?_)
          · refine Ev.sn e_X9_canHave 10 (i' := 64) (ls' := [_, _, _, _, _, _, _, _, _, _, _, _, _, _]) (st' := []) rfl ?_
            have hok : okB (vR n q dn g) u M (y % n) p = false := by
              have h3 : fpB (vR n q dn g) (y % n) p = false := hf
              simp [okB, h3]
            rw [hsub hz hok, Bool.false_and] at K
            exact Ev.weak (lle_c (lle_c (lle_c (lle_c (lle_c (lle_c (lle_n (lle_n (lle_c (lle_c (lle_c (lle_c (lle_c (lle_n lle_0)))))))))))))) (l3_X9_canHave d g tr hc hS hT u fr A x _ _ _ r w2 K)
          · refine Ev.sn e_X9_canHave 11 (i' := 64) (ls' := [_, _, _, _, _, _, _, _, _, _, _, _, _, _]) (st' := []) rfl ?_
            have hok : okB (vR n q dn g) u M (y % n) p = true := by
              have h1 : (vR n q dn g) 0 (y % n) = u := hu
              have h2 : M.testBit (y % n) = false := hb2.mp hq
              have h3 : fpB (vR n q dn g) (y % n) p = true := hf
              simp [okB, h1, h2, h3]
            rw [hsub hz hok, Bool.true_and] at K
            rw [nI_1, or_I (by omega)]
            exact Ev.weak (lle_c (lle_c (lle_c (lle_c (lle_c (lle_c (lle_n (lle_n (lle_c (lle_c (lle_c (lle_c (lle_c (lle_n lle_0)))))))))))))) (ih (p + 1) (y / n) (M ||| 2 ^ (y % n)) (by omega) (or_lt M hM _ (by omega)) hyd K)
        · refine Ev.sn e_X9_canHave 10 (i' := 64) (ls' := [_, _, _, _, _, _, _, _, _, _, _, _, _, _]) (st' := []) rfl ?_
          have hok : okB (vR n q dn g) u M (y % n) p = false := by
            have h2 : M.testBit (y % n) = true := by
              cases hz : M.testBit (y % n) with
              | true => rfl
              | false => exact absurd (hb2.mpr hz) hq
            simp [okB, h2]
          rw [hsub hz hok, Bool.false_and] at K
          exact Ev.weak (lle_c (lle_c (lle_c (lle_c (lle_c (lle_c (lle_n (lle_n (lle_c (lle_c (lle_c (lle_c (lle_c (lle_n lle_0)))))))))))))) (l3_X9_canHave d g tr hc hS hT u fr A x _ _ _ r w2 K)
      · refine Ev.sn e_X9_canHave 10 (i' := 64) (ls' := [_, _, _, _, _, _, _, _, _, _, _, _, _, _]) (st' := []) rfl ?_
        have hok : okB (vR n q dn g) u M (y % n) p = false := by
          have h1 : ¬ (vR n q dn g) 0 (y % n) = u := hu
          simp [okB, h1]
        rw [hsub hz hok, Bool.false_and] at K
        exact Ev.weak (lle_c (lle_c (lle_c (lle_c (lle_c (lle_c (lle_n (lle_n (lle_c (lle_c (lle_c (lle_c (lle_c (lle_n lle_0)))))))))))))) (l3_X9_canHave d g tr hc hS hT u fr A x _ _ _ r w2 K)
    · refine Ev.sn e_X9_canHave 2 (i' := 64) (ls' := [_, _, _, _, _, _, _, _, _, _, _, _, _, _]) (st' := []) rfl ?_
      have hz : ¬ S.testBit p = true := fun h => hp1 (hb1.mpr h)
      rw [show CHK (vR n q dn g) n u S (k + 1) p y M = CHK (vR n q dn g) n u S k (p + 1) y M from if_neg hz] at K
      rw [nI_1]
      exact Ev.weak (lle_c (lle_c (lle_c (lle_c (lle_c (lle_c (lle_n (lle_n (lle_c (lle_c (lle_c (lle_c (lle_c (lle_n lle_0)))))))))))))) (ih (p + 1) y M (by omega) hM hy K)
set_option maxRecDepth 20000 in
set_option maxHeartbeats 200000 in
theorem l5_X9_canHave (d : Nat) (g : RG) (tr : Int64) {n q dn : Nat} (hc : RI n q dn g) {S : Nat} (hS : S < 64) {T : Nat} (hT : T < 64) (u : Int32) {fr : Int32} {k p A : Nat} (hp : fr = nI p) (hk : p + k = q) (hA : A < 10000) (hAn : A = 0 ∨ 0 < n) : ∀ (j w : Nat), w + j = A → Ev (d + 3) 155 46 [.ref 0, .int (nI S), .int u, .int fr, .int (nI T), .int (nI A), .null, .int 0, .int (nI w), .null, .null, .null, .null, .null] [] (wR g tr) (some (.int (bI (anyN (fun w => CHK (vR n q dn g) n u S k p w T) j w)))) (wR g tr) := by
  have hb := hc.b
  intro j
  induction j with
  | zero =>
    intro w hw
    refine Ev.sn e_X9_canHave 2 (i' := 48) (ls' := [_, _, _, _, _, _, _, _, _, _, _, _, _, _]) (st' := [_, _]) rfl ?_
    refine Ev.brT (i1 := 125) (i2 := 49) e_X9_canHave rfl rfl ((nI_le (by omega) (by omega))) ?_
    refine Ev.sn e_X9_canHave 1 (i' := 126) (ls' := [_, _, _, _, _, _, _, _, _, _, _, _, _, _]) (st' := [_]) rfl ?_
    refine Ev.iret e_X9_canHave rfl rfl rfl ?_ rfl
    rfl
  | succ j ih =>
    intro w hw
    have hn : 0 < n := by omega
    rw [anyN_s]
    refine Ev.sn e_X9_canHave 2 (i' := 48) (ls' := [_, _, _, _, _, _, _, _, _, _, _, _, _, _]) (st' := [_, _]) rfl ?_
    refine Ev.brF (i1 := 125) (i2 := 49) e_X9_canHave rfl rfl ((nI_ge (by omega) (by omega))) ?_
    refine Ev.sn e_X9_canHave 1 (i' := 50) (ls' := [_, _, _, _, _, _, _, _, _, _, _, _, _, _]) (st' := [_]) rfl ?_
    refine Ev.brT (i1 := 51) (i2 := 125) e_X9_canHave rfl rfl ((by decide)) ?_
    refine Ev.sn e_X9_canHave 3 (i' := 54) (ls' := [_, _, _, _, _, _, _, _, _, _, _, _, _, _]) (st' := [_, _]) rfl ?_
    refine Ev.ialdE e_X9_canHave rfl rfl rfl rfl (m := 0) rfl (by decide) ?_
    refine Ev.brF (i1 := 125) (i2 := 56) e_X9_canHave rfl rfl ((by rw [hc.hn]; exact nI_nle hn (by omega))) ?_
    refine Ev.sn e_X9_canHave 8 (i' := 64) (ls' := [_, _, _, _, _, _, _, _, _, _, _, _, _, _]) (st' := []) rfl ?_
    subst hp
    refine Ev.weak (lle_c (lle_c (lle_c (lle_c (lle_c (lle_c (lle_n (lle_n (lle_c (lle_c (lle_c (lle_c (lle_c (lle_n lle_0)))))))))))))) (l4_X9_canHave d g tr hc hS hT u (nI p) hn (nI A) (nI w) _ _ k p w T hk hT (by omega) ?_)
    cases hx : CHK (vR n q dn g) n u S k p w T with
    | true =>
      rw [if_pos rfl]
      refine Ev.sn e_X9_canHave 4 (i' := 46) (ls' := [_, _, _, _, _, _, _, _, _, _, _, _, _, _]) (st' := []) rfl ?_
      exact Ev.weak (lle_c (lle_c (lle_c (lle_c (lle_c (lle_c (lle_n (lle_c (lle_c (lle_n (lle_n (lle_n (lle_n (lle_n lle_0)))))))))))))) (l2_X9_canHave d g tr hc hS hT u (nI p) _ _)
    | false =>
      rw [if_neg (by decide)]
      refine Ev.sn e_X9_canHave 4 (i' := 46) (ls' := [_, _, _, _, _, _, _, _, _, _, _, _, _, _]) (st' := []) rfl ?_
      rw [nI_1]
      exact Ev.weak (lle_c (lle_c (lle_c (lle_c (lle_c (lle_c (lle_n (lle_c (lle_c (lle_n (lle_n (lle_n (lle_n (lle_n lle_0)))))))))))))) (ih (w + 1) (by omega))
set_option maxRecDepth 20000 in
set_option maxHeartbeats 200000 in
theorem c_X9_canHave (d : Nat) (g : RG) (tr : Int64) {n q dn : Nat} (hc : RI n q dn g) {S : Nat} (hS : S < 64) {T : Nat} (hT : T < 64) (u : Int32)  {k p : Nat} (hk : p + k = q) {x y : Int32} (hx : x = nI p) (hy : y = nI T) : Ev (d + 3) 155 0 [.ref 0, .int (nI S), .int u, .int x, .int y, .null, .null, .null, .null, .null, .null, .null, .null, .null] [] (wR g tr) (some (.int (bI (EXB (vR n q dn g) n u S k p T)))) (wR g tr) := by
  subst hx
  subst hy
  have hb := hc.b
  have hcl := cnB_le S k p
  have hA : n ^ cnB S k p < 10000 := by
    have h1 : n ^ cnB S k p ≤ 6 ^ cnB S k p := Nat.pow_le_pow_left (by omega) _
    have h2 : 6 ^ cnB S k p ≤ 6 ^ 5 := Nat.pow_le_pow_right (by omega) (by omega)
    have h3 : 6 ^ 5 = 7776 := rfl
    omega
  have hAn : n ^ cnB S k p = 0 ∨ 0 < n ∨ cnB S k p = 0 := by
    rcases Nat.eq_zero_or_pos n with e | e
    · rcases Nat.eq_zero_or_pos (cnB S k p) with e2 | e2
      · exact Or.inr (Or.inr e2)
      · left; rw [e]; exact Nat.zero_pow e2
    · exact Or.inr (Or.inl e)
  refine Ev.sn e_X9_canHave 6 (i' := 6) (ls' := [_, _, _, _, _, _, _, _, _, _, _, _, _, _]) (st' := []) rfl ?_
  refine l1_X9_canHave d g tr hc hS hT u (nI p) _ _ k p 1 0 (n ^ cnB S k p) (cnB S k p) hk (by rw [Nat.one_mul]) (by rw [Nat.zero_add]) ?_
  refine Ev.sn e_X9_canHave 1 (i' := 39) (ls' := [_, _, _, _, _, _, _, _, _, _, _, _, _, _]) (st' := [_]) rfl ?_
  refine Ev.br (i1 := 40) (i2 := 42) e_X9_canHave rfl rfl (fun hz => ?_) (fun hz => ?_)
  · have hz2 : cnB S k p = 0 := by
      rcases Nat.eq_zero_or_pos (cnB S k p) with e | e
      · exact e
      · exact absurd hz (nI_ne0 e (by omega))
    refine Ev.sn e_X9_canHave 5 (i' := 46) (ls' := [_, _, _, _, _, _, _, _, _, _, _, _, _, _]) (st' := []) rfl ?_
    rw [EXB_0 (vR n q dn g) n u S k p T hz2]
    exact Ev.weak (lle_c (lle_c (lle_c (lle_c (lle_c (lle_c (lle_n (lle_c (lle_c (lle_n (lle_n (lle_n (lle_n (lle_n lle_0)))))))))))))) (l2_X9_canHave d g tr hc hS hT u (nI p) _ _)
  · have hAn2 : n ^ cnB S k p = 0 ∨ 0 < n := by
      rcases hAn with e | e | e
      · exact Or.inl e
      · exact Or.inr e
      · exact absurd (by rw [e]; rfl) hz
    refine Ev.sn e_X9_canHave 4 (i' := 46) (ls' := [_, _, _, _, _, _, _, _, _, _, _, _, _, _]) (st' := []) rfl ?_
    rw [← CHK_any]
    exact Ev.weak (lle_c (lle_c (lle_c (lle_c (lle_c (lle_c (lle_n (lle_c (lle_c (lle_n (lle_n (lle_n (lle_n (lle_n lle_0)))))))))))))) (l5_X9_canHave d g tr hc hS hT u rfl hk hA hAn2 (n ^ cnB S k p) 0 (by omega))
