/-! house(): both answer alike -/
theorem rl_keep {n q dn k o c kt : Nat} {g h g' h' : RG} (hR : RLX n q dn k o c kt g h) (hg : ∀ x, x ≠ 0 → (x < 10 ∨ 22 < x) → g' x = g x) (g0 : g' 0 0 = g 0 0) (hl : LOW h h') (h0 : h' 0 0 = h 0 0) (h6 : h' 0 6 = h 0 6) (h7 : h' 0 7 = h 0 7) : RLX n q dn k o c kt g' h' := by
  obtain ⟨⟨hb, hc, hr, hT, hP, hU, hD⟩, hS, hX, hH, hI, hV⟩ := hR
  obtain ⟨hn, hq, hd⟩ := id hb
  refine ⟨⟨hb, ?_, ?_, fun t ht => ?_, fun p hp => ?_, fun u hu => ?_, fun j hj => ?_⟩, ?_, ?_, ?_, fun i hi => ?_, ?_⟩
  · rw [hg 42 (by omega) (by omega)]; exact hc
  · rw [hl.1 0 (by omega), hl.1 1 (by omega), hl.1 2 (by omega)]; exact hr
  · rw [hg 32 (by omega) (by omega), hg 34 (by omega) (by omega), hg 35 (by omega) (by omega), hl.2.1 (4 * t) (by omega), hl.2.1 (4 * t + 2) (by omega), hl.2.1 (4 * t + 3) (by omega)]
    exact hT t ht
  · rw [hg 37 (by omega) (by omega), hl.2.2.1 (2 * p + 1) (by omega)]
    exact hP p hp
  · rw [hg 30 (by omega) (by omega), hg 31 (by omega) (by omega), hl.2.2.2.2.1 (2 * u) (by omega), hl.2.2.2.2.1 (2 * u + 1) (by omega)]
    exact hU u hu
  · rw [hg 38 (by omega) (by omega), hg 39 (by omega) (by omega), hg 40 (by omega) (by omega), hg 41 (by omega) (by omega), hl.2.2.2.1 (4 * j) (by omega), hl.2.2.2.1 (4 * j + 1) (by omega), hl.2.2.2.1 (4 * j + 2) (by omega), hl.2.2.2.1 (4 * j + 3) (by omega)]
    exact hD j hj
  · rw [hg 50 (by omega) (by omega), hg 51 (by omega) (by omega), hg 52 (by omega) (by omega), hl.2.2.2.2.2 7 (by omega)]
    exact hS
  · refine ⟨hX.1, by rw [g0]; exact hX.2.1, by rw [h0]; exact hX.2.2.1, ?_, ?_⟩
    · rw [hg 1 (by omega) (by omega), hl.2.2.2.2.2 1 (by omega)]; exact hX.2.2.2.1
    · rw [hg 1 (by omega) (by omega)]; exact hX.2.2.2.2
  · refine ⟨hH.1, hH.2.1, by rw [hg 90 (by omega) (by omega)]; exact hH.2.2.1, by rw [hg 90 (by omega) (by omega)]; exact hH.2.2.2.1, by rw [h6]; exact hH.2.2.2.2.1, fun i hi => ?_⟩
    rw [hg (60 + _) (by omega) (by omega), hg (61 + _) (by omega) (by omega), hg (62 + _) (by omega) (by omega), hl.2.2.2.2.2 10 (by omega)]
    exact hH.2.2.2.2.2 i hi
  · rw [hg 97 (by omega) (by omega), hg (91 + _) (by omega) (by omega), hg (92 + _) (by omega) (by omega), hg (93 + _) (by omega) (by omega), hl.2.2.2.2.2 9 (by omega), hl.2.2.2.2.2 8 (by omega)]
    exact hI i hi
  · refine ⟨hV.1, by rw [hg 100 (by omega) (by omega)]; exact hV.2.1, by rw [h7]; exact hV.2.2.1, fun i hi => ?_⟩
    rw [hg 98 (by omega) (by omega), hg 99 (by omega) (by omega), hl.2.2.2.2.2 11 (by omega), hl.2.2.2.2.2 12 (by omega)]
    exact hV.2.2.2 i hi
theorem fo_fl (x : Int32) : ∀ (k p : Nat) (f : Nat → Int32) (t : Nat), flI x k p f t = if p ≤ t ∧ t < p + k then x else f t
  | 0, p, f, t => by
    rw [if_neg (by omega)]; rfl
  | k + 1, p, f, t => by
    show flI x k (p + 1) (upd f p x) t = _
    rw [fo_fl x k (p + 1)]
    by_cases h : t = p
    · subst h
      rw [if_neg (by omega), if_pos (by omega), pk_us]
    · rw [pk_un h]
      by_cases h2 : p + 1 ≤ t ∧ t < p + 1 + k
      · rw [if_pos h2, if_pos (by omega)]
      · rw [if_neg h2, if_neg (by omega)]
theorem mix_lt {p off j : Nat} {F : Nat → Int32} (h : j < p) : mixc p off F j = F (off + j) := if_pos h
theorem house_rl {n q dn o : Nat} {A B : RG} {F E : Nat → Int32} (hT : TEL n q dn A B) (ho : o < 10) (h90 : A 90 0 = nI o) (h1 : B 1 = A 1) : RLX n q dn 0 o 0 0 (swp (houT (va_up A 0 F))) (setT (va_up B 0 E)) := by
  obtain ⟨hn, hq, hd, hU, hTh, hP, hD⟩ := hT
  refine ⟨⟨⟨hn.2.2, hq.2.2, hd.2.2⟩, ⟨hn.1, hq.1, hd.1⟩, ⟨hn.2.1, hq.2.1, hd.2.1⟩, fun t ht => ?_, fun p hp => ?_, fun u hu => ?_, fun j hj => ?_⟩, ⟨fun t ht => ?_, fun p hp => ?_⟩, ⟨by omega, rfl, rfl, h1, fun i hi => absurd hi (by omega)⟩, ⟨ho, by omega, h90, rfl, rfl, fun i hi => absurd hi (by omega)⟩, fun i hi => ?_, ⟨by omega, rfl, rfl, fun i hi => absurd hi (by omega)⟩⟩
  · show (A 12 t = mixc 24 24 (B 3) (4 * t) ∧ A 14 t = mixc 24 24 (B 3) (4 * t + 2) ∧ A 15 t = mixc 24 24 (B 3) (4 * t + 3)) ∧ btw 0 2 (A 12 t) ∧ btw 1 99 (A 14 t) ∧ btw 1 9 (A 15 t)
    have h := hTh t ht
    rw [mix_lt (by omega), mix_lt (by omega), mix_lt (by omega), ← Nat.add_assoc, ← Nat.add_assoc]
    exact ⟨⟨h.1.1, h.1.2.2.1, h.1.2.2.2⟩, h.2.1, h.2.2.2.1, h.2.2.2.2⟩
  · show A 17 p = mixc 10 10 (B 4) (2 * p + 1) ∧ btw 1 99 (A 17 p)
    have h := hP p hp
    rw [mix_lt (by omega), show 10 + (2 * p + 1) = 11 + 2 * p by omega]
    exact ⟨h.1.2, h.2.2⟩
  · show (A 10 u = mixc 6 6 (B 6) (2 * u) ∧ A 11 u = mixc 6 6 (B 6) (2 * u + 1)) ∧ btw 0 60 (A 10 u) ∧ btw 0 60 (A 11 u)
    have h := hU u hu
    rw [mix_lt (by omega), mix_lt (by omega), show 6 + (2 * u + 1) = 7 + 2 * u by omega]
    exact ⟨⟨h.1, h.2.1⟩, h.2.2.1, h.2.2.2⟩
  · show (A 18 j = mixc 12 12 (B 5) (4 * j) ∧ A 19 j = mixc 12 12 (B 5) (4 * j + 1) ∧ A 20 j = mixc 12 12 (B 5) (4 * j + 2) ∧ A 21 j = mixc 12 12 (B 5) (4 * j + 3)) ∧ btw 0 60 (A 18 j) ∧ btw 0 99 (A 19 j) ∧ btw 1 48 (A 20 j) ∧ btw 1 99 (A 21 j)
    have h := hD j hj
    rw [mix_lt (by omega), mix_lt (by omega), mix_lt (by omega), mix_lt (by omega), ← Nat.add_assoc, ← Nat.add_assoc, ← Nat.add_assoc]
    exact h
  · have h := hTh t ht
    have e1 : swp (houT (va_up A 0 F)) 50 t = -9 := by
      show flI (-9) 6 0 (A 50) t = -9
      rw [fo_fl, if_pos (by omega)]
    have e2 : setT (va_up B 0 E) 7 t = 0 := by
      show sx6 5 (mixc 10 10 (B 4)) (sx5 6 (mixc 24 24 (B 3)) (B 7)) t = 0
      unfold sx6 sx5
      rw [if_neg (by omega), if_pos (by omega)]
    have e3 : swp (houT (va_up A 0 F)) 51 t = A 13 t := by
      show va_cpy (A 13) (A 51) 0 0 6 t = A 13 t
      rw [pk_cpy_in (by omega) (by omega)]
      simp
    have e4 : setT (va_up B 0 E) 7 (6 + t) = B 3 (24 + 4 * t + 1) := by
      show sx6 5 (mixc 10 10 (B 4)) (sx5 6 (mixc 24 24 (B 3)) (B 7)) (6 + t) = _
      unfold sx6 sx5
      rw [if_neg (by omega), if_neg (by omega), if_pos (by omega), show 6 + t - 6 = t by omega, mix_lt (by omega), ← Nat.add_assoc]
    rw [e1, e2, e3, e4]
    exact ⟨Or.inl ⟨rfl, rfl⟩, h.1.2.1, h.2.2.1⟩
  · have h := hP p hp
    have e3 : swp (houT (va_up A 0 F)) 52 p = A 16 p := by
      show va_cpy (A 16) (A 52) 0 0 5 p = A 16 p
      rw [pk_cpy_in (by omega) (by omega)]
      simp
    have e4 : setT (va_up B 0 E) 7 (12 + p) = B 4 (10 + 2 * p) := by
      show sx6 5 (mixc 10 10 (B 4)) (sx5 6 (mixc 24 24 (B 3)) (B 7)) (12 + p) = _
      unfold sx6
      rw [if_pos (by omega), show 12 + p - 12 = p by omega, mix_lt (by omega)]
    rw [e3, e4]
    exact ⟨h.1.1, h.2.1⟩
  · match i, hi with
    | 0, _ => exact Or.inl ⟨rfl, rfl⟩
    | 1, _ => exact Or.inl ⟨rfl, rfl⟩
theorem k_house (d d2 : Nat) {g h : RG} (tr : Int64) (hR : RL g h) : CQ (d + 6) 76 [.ref 0, .null, .null] (d2 + 5) 131 [.ref 0, .null, .null] g h tr ∨ CQH (d + 6) 76 [.ref 0, .null, .null] (d2 + 5) 131 [.ref 0, .null, .null] g h tr := by
  obtain ⟨n, q, dn, k, o, c, kt, hX⟩ := hR
  obtain ⟨hk, hg0, hh0, h1, hl⟩ := id hX.2.2.1
  have hl2 : ∀ i, i < k → ∃ m, m < 256 ∧ h 1 i = nI m := by rw [h1]; exact hl
  have key := all_eq (f := g 1) hk g h
  rcases key with ⟨n', q', dn', hT, e1, e2, e3⟩ | hf
  · right
    have a1 := c_X8_house_s d g tr hg0 hk hl e1
    have a2 := c_X9_house_s d2 h tr hh0 hk hl2 (by rw [h1, e2]; decide)
    rw [h1, ← e3] at a2
    refine ⟨_, _, _, _, a1, a2, n', q', dn', 0, o, 0, 0, house_rl hT hX.2.2.2.1.1 ?_ ?_⟩
    · rw [rAL_ne g (by omega)]
      exact hX.2.2.2.1.2.2.1
    · rw [rAL_ne g (by omega), (low_rBL h).2.2.2.2.2 1 (Or.inl rfl)]
      exact h1
  · left
    obtain ⟨h2, p, hp, e1, e2⟩ := hf
    have a1 := c_X8_house_f d g tr hg0 hk hl (by rw [e1]; exact nI_m1 (by omega))
    have a2 := c_X9_house_f d2 h tr hh0 hk hl2 (by rw [h1, e2]; exact nI_pos' (by omega))
    rw [h1, e2, ← e1] at a2
    refine ⟨_, _, _, _, a1, a2, n, q, dn, k, o, c, kt, rl_keep hX ?_ ?_ ?_ ?_ ?_ ?_⟩
    · intro x hx0 hx
      rw [va_up_ne _ _ hx0]
      exact rAL_ne g hx
    · show nI k = g 0 0
      rw [hg0]
    · have hlow := low_rBL (f := g 1) (k := k) h
      refine low_tr hlow ⟨fun _ _ => rfl, fun _ _ => rfl, fun _ _ => rfl, fun _ _ => rfl, fun _ _ => rfl, fun x hx => va_up_ne _ _ (by omega)⟩
    · show nI k = h 0 0
      rw [hh0]
    · rfl
    · rfl
