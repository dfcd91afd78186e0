/-! longs that hold a natural number; the greatest divisor; lowest terms -/
def nL (k : Nat) : Int64 := Int64.ofNat k
theorem nL_toInt {k : Nat} (h : k < 2 ^ 63) : (nL k).toInt = (k : Int) := Int64.toInt_ofNat_of_lt h
theorem nL_add (a b : Nat) : nL a + nL b = nL (a + b) := (Int64.ofNat_add a b).symm
theorem nL_mul (a b : Nat) : nL a * nL b = nL (a * b) := (Int64.ofNat_mul a b).symm
theorem nL_inj {a b : Nat} (ha : a < 2 ^ 63) (hb : b < 2 ^ 63) (h : nL a = nL b) : a = b := by
  have h2 := congrArg Int64.toInt h
  rw [nL_toInt ha, nL_toInt hb] at h2
  omega
theorem nL_0 {a : Nat} (ha : a < 2 ^ 63) : nL a = 0 ↔ a = 0 := ⟨fun h => nL_inj ha (by decide) h, fun h => by rw [h]; rfl⟩
theorem nL_div {a b : Nat} (ha : a < 2 ^ 63) (hb : b < 2 ^ 63) : nL a / nL b = nL (a / b) := by
  apply Int64.toInt_inj.mp
  have h3 : a / b ≤ a := Nat.div_le_self a b
  rw [nL_toInt (by omega), Int64.toInt_div_of_ne_left, nL_toInt ha, nL_toInt hb]
  · exact (Int.ofNat_tdiv a b).symm
  · intro h
    have h2 := congrArg Int64.toInt h
    rw [nL_toInt ha] at h2
    have h3 : Int64.minValue.toInt = -9223372036854775808 := by decide
    omega
theorem nL_sub {a b : Nat} (h : b ≤ a) : nL a - nL b = nL (a - b) := by
  have e : a = (a - b) + b := by omega
  rw [show nL a = nL (a - b) + nL b by rw [nL_add, ← e]]
  rw [Int64.add_sub_cancel]
theorem nL_rem {a b : Nat} (ha : a < 2 ^ 63) (hb : b < 2 ^ 63) : nL a - nL a / nL b * nL b = nL (a % b) := by
  rw [nL_div ha hb, nL_mul, nL_sub (Nat.div_mul_le_self a b)]
  have h := Nat.div_add_mod a b
  rw [Nat.mul_comm] at h
  rw [show a - a / b * b = a % b by omega]
theorem nL_I {k : Nat} (h : k < 2 ^ 31) : (nI k).toInt64 = nL k := by
  apply Int64.toInt_inj.mp
  rw [nL_toInt (by omega), Int32.toInt_toInt64]
  exact Int32.toInt_ofNat_of_lt h
theorem nL_toI (k : Nat) : (nL k).toInt32 = nI k := Int64.toInt32_ofNat'
theorem gd_ok (j : Nat) : ∀ k a b, b < 2 ^ j → 2 * j + 1 ≤ k → a < 2 ^ 63 → b < 2 ^ 63 → gdI k (nL a) (nL b) = nL (Nat.gcd a b) := by
  induction j with
  | zero =>
    intro k a b h1 h2 ha hb
    have e : b = 0 := by omega
    subst e
    obtain ⟨k, rfl⟩ : ∃ k', k = k' + 1 := ⟨k - 1, by omega⟩
    rw [gdI, if_pos ((nL_0 (by decide)).mpr rfl), Nat.gcd_zero_right]
  | succ j ih =>
    intro k a b h1 h2 ha hb
    obtain ⟨k, rfl⟩ : ∃ k', k = k' + 1 := ⟨k - 1, by omega⟩
    by_cases h0 : b = 0
    · subst h0
      rw [gdI, if_pos ((nL_0 (by decide)).mpr rfl), Nat.gcd_zero_right]
    · rw [gdI, if_neg (fun e => h0 ((nL_0 hb).mp e)), nL_rem ha hb]
      have hr : a % b < b := Nat.mod_lt _ (by omega)
      obtain ⟨k, rfl⟩ : ∃ k', k = k' + 1 := ⟨k - 1, by omega⟩
      have eg : Nat.gcd a b = Nat.gcd b (a % b) := by
        rw [Nat.gcd_comm a b, Nat.gcd_rec b a, Nat.gcd_comm]
      rw [eg]
      generalize a % b = r at hr
      by_cases h3 : r = 0
      · subst h3
        rw [gdI, if_pos ((nL_0 (by decide)).mpr rfl), Nat.gcd_zero_right]
      · rw [gdI, if_neg (fun e => h3 ((nL_0 (by omega)).mp e)), nL_rem hb (by omega)]
        have hs : b % r < r := Nat.mod_lt _ (by omega)
        have hd := Nat.div_add_mod b r
        have hq : 1 ≤ b / r := (Nat.one_le_div_iff (by omega)).mpr (by omega)
        have hm : r * 1 ≤ r * (b / r) := Nat.mul_le_mul_left r hq
        rw [Nat.pow_succ] at h1
        rw [ih k r (b % r) (by omega) (by omega) (by omega) (by omega)]
        congr 1
        rw [Nat.gcd_comm b r, Nat.gcd_rec r b, Nat.gcd_comm]
theorem gd_N {a b : Nat} (ha : a < 2 ^ 63) (hb : b < 2 ^ 63) : gdI 200 (nL a) (nL b) = nL (Nat.gcd a b) := gd_ok 63 200 a b hb (by omega) ha hb
theorem gcd_lt {a b k : Nat} (ha : a < k) (hb : b < k) : Nat.gcd a b < k := by
  by_cases h : a = 0
  · subst h
    rw [Nat.gcd_zero_left]
    exact hb
  · exact Nat.lt_of_le_of_lt (Nat.gcd_le_left b (by omega)) ha
theorem ilt_N {a b : Nat} (ha : a < 2 ^ 63) (hb : b < 2 ^ 63) (h : 0 < b) (x : Int32) : ilt (nL a) (nL b) x = nL ((if x = 0 then a else b) / Nat.gcd a b) := by
  unfold ilt
  have hg := gcd_lt ha hb
  have hp : 0 < Nat.gcd a b := Nat.gcd_pos_of_pos_right a h
  rw [gd_N ha hb, if_neg (fun e => by have := (nL_0 hg).mp e; omega)]
  split
  · exact nL_div ha hg
  · exact nL_div hb hg
theorem low_uniq {a b c e : Nat} (hb : 0 < b) (he : 0 < e) (h : a * e = c * b) : a / Nat.gcd a b = c / Nat.gcd c e ∧ b / Nat.gcd a b = e / Nat.gcd c e := by
  have g1 : 0 < Nat.gcd a b := Nat.gcd_pos_of_pos_right a hb
  have g2 : 0 < Nat.gcd c e := Nat.gcd_pos_of_pos_right c he
  have c1 : Nat.Coprime (a / Nat.gcd a b) (b / Nat.gcd a b) := Nat.coprime_div_gcd_div_gcd g1
  have c2 : Nat.Coprime (c / Nat.gcd c e) (e / Nat.gcd c e) := Nat.coprime_div_gcd_div_gcd g2
  have a1 : a / Nat.gcd a b * Nat.gcd a b = a := Nat.div_mul_cancel (Nat.gcd_dvd_left a b)
  have a2 : b / Nat.gcd a b * Nat.gcd a b = b := Nat.div_mul_cancel (Nat.gcd_dvd_right a b)
  have a3 : c / Nat.gcd c e * Nat.gcd c e = c := Nat.div_mul_cancel (Nat.gcd_dvd_left c e)
  have a4 : e / Nat.gcd c e * Nat.gcd c e = e := Nat.div_mul_cancel (Nat.gcd_dvd_right c e)
  generalize a / Nat.gcd a b = A at *
  generalize b / Nat.gcd a b = B at *
  generalize c / Nat.gcd c e = C at *
  generalize e / Nat.gcd c e = E at *
  generalize Nat.gcd a b = G at *
  generalize Nat.gcd c e = H at *
  have k : A * E = C * B := by
    have h2 : (A * G) * (E * H) = (C * H) * (B * G) := by rw [a1, a2, a3, a4, h]
    have h3 : (A * E) * (G * H) = (C * B) * (G * H) := by
      calc (A * E) * (G * H) = (A * G) * (E * H) := by ac_rfl
        _ = (C * H) * (B * G) := h2
        _ = (C * B) * (G * H) := by ac_rfl
    exact Nat.eq_of_mul_eq_mul_right (Nat.mul_pos g1 g2) h3
  have d1 : B ∣ E := c1.symm.dvd_of_dvd_mul_left ⟨C, by rw [k, Nat.mul_comm]⟩
  have d2 : E ∣ B := c2.symm.dvd_of_dvd_mul_left ⟨A, by rw [← k, Nat.mul_comm]⟩
  have eBE : B = E := Nat.dvd_antisymm d1 d2
  have hB : 0 < B := by
    rcases Nat.eq_zero_or_pos B with h0 | h0
    · rw [h0, Nat.zero_mul] at a2
      omega
    · exact h0
  refine ⟨?_, eBE⟩
  rw [← eBE] at k
  exact Nat.eq_of_mul_eq_mul_right hB k
