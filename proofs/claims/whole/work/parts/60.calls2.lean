/-! THE CALLS that change something -/
theorem k_type {g h : RG} (tr : Int64) (hR : RL g h) (a : Int32) : CQ 16 74 [.ref 0, .int a] 16 122 [.ref 0, .int a] g h tr := by
  obtain ⟨n, q, dn, k, o, c, kt, hX⟩ := hR
  obtain ⟨hk, hg0, hh0, h1, hl⟩ := id hX.2.2.1
  cases hg : (decide (0 ≤ a) && decide (a ≤ 255)) with
  | false => exact ⟨.int (-1), g, h, tr, c_X8_type_b 14 g tr a hg, c_X9_type_b 15 h tr a hg, n, q, dn, k, o, c, kt, hX⟩
  | true =>
    obtain ⟨m, hm, em⟩ := (rngB (k := 255) (by omega)).mp hg
    by_cases hk2 : k = 200
    · subst hk2
      refine ⟨.int (-3), g, h, tr, ?_, c_X9_type_f 15 h tr a hg hh0, n, q, dn, 200, o, c, kt, hX⟩
      rw [em]
      exact c_X8_type_f 14 g tr hm hg0
    · have e1 := c_X8_type_s 14 g tr hm hg0 (show k < 200 by omega)
      rw [← em] at e1
      refine ⟨_, _, _, tr, e1, c_X9_type_s 15 h tr a hg hh0 (by omega), n, q, dn, k + 1, o, c, kt, ?_⟩
      obtain ⟨a1, a2, a3, a4, a5, a6⟩ := hX
      have ne : ∀ (G : RG) (F E : Nat → Int32) (x : Nat), x ≠ 0 → x ≠ 1 → va_up (va_up G 1 F) 0 E x = G x := fun G F E x x0 x1 => by rw [va_up_ne _ _ x0, va_up_ne _ _ x1]
      refine ⟨hst_keep a1 (fun x _ _ => ne _ _ _ x (by omega) (by omega)) (fun x _ _ => ne _ _ _ x (by omega) (by omega)), a2, ⟨by omega, rfl, rfl, ?_, fun i hi => ?_⟩, his_keep a4 (fun x _ _ => ne _ _ _ x (by omega) (by omega)) rfl rfl, img_keep a5 (fun x _ _ => ne _ _ _ x (by omega) (by omega)) rfl rfl, tri_keep a6 (fun x _ _ => ne _ _ _ x (by omega) (by omega)) rfl rfl rfl⟩
      · show upd (h 1) k a = upd (g 1) k a
        rw [h1]
      · show ∃ m, m < 256 ∧ upd (g 1) k a i = nI m
        by_cases e : i = k
        · rw [e, pk_us]; exact ⟨m, by omega, em⟩
        · rw [pk_un e]; exact hl i (by omega)
theorem k_clear {g h : RG} (tr : Int64) (hR : RL g h) : CQ 16 75 [.ref 0, .null] 16 123 [.ref 0, .null] g h tr := by
  obtain ⟨n, q, dn, k, o, c, kt, hX⟩ := hR
  obtain ⟨hk, hg0, hh0, h1, hl⟩ := id hX.2.2.1
  have e1 := c_X8_clear 15 g tr
  have e2 := c_X9_clear 16 h tr
  rw [hg0] at e1
  rw [hh0] at e2
  refine ⟨_, _, _, tr, e1, e2, n, q, dn, 0, o, c, kt, ?_⟩
  obtain ⟨a1, a2, a3, a4, a5, a6⟩ := hX
  have ne : ∀ (G : RG) (E : Nat → Int32) (x : Nat), x ≠ 0 → va_up G 0 E x = G x := fun G E x x0 => va_up_ne _ _ x0
  exact ⟨hst_keep a1 (fun x _ _ => ne _ _ x (by omega)) (fun x _ _ => ne _ _ x (by omega)), a2, ⟨by omega, rfl, rfl, h1, fun i hi => absurd hi (by omega)⟩, his_keep a4 (fun x _ _ => ne _ _ x (by omega)) rfl rfl, img_keep a5 (fun x _ _ => ne _ _ x (by omega)) rfl rfl, tri_keep a6 (fun x _ _ => ne _ _ x (by omega)) rfl rfl rfl⟩
theorem k_tries {g h : RG} (tr : Int64) (hR : RL g h) (a b : Int32) : CQ 16 88 [.ref 0, .int a, .int b] 16 159 [.ref 0, .int a, .int b] g h tr := by
  obtain ⟨n, q, dn, k, o, c, kt, hX⟩ := hR
  have hC := core_C hX.1 hX.2.1
  have hI := core_R hX.1 hX.2.1
  have hb := hC.b
  cases hg : ((decide (0 ≤ a) && decide (a < nI n)) && (decide (b = 0) || decide (b = 1))) with
  | false => exact ⟨.int (-1), g, h, tr, c_X8_tries_b 14 g tr hC a b hg, c_X9_tries_b 14 h tr hI a b hg, n, q, dn, k, o, c, kt, hX⟩
  | true =>
    rw [Bool.and_eq_true] at hg
    obtain ⟨v1, v2, v3, v4⟩ := id hX.2.2.2.2.2
    by_cases hk : kt = 6
    · subst hk
      exact ⟨.int (-3), g, h, tr, c_X8_tries_f 14 g tr hC a b hg.1 hg.2 v2, c_X9_tries_f 14 h tr hI a b hg.1 hg.2 v3, n, q, dn, k, o, c, 6, hX⟩
    · refine ⟨_, _, _, tr, c_X8_tries_s 14 g tr hC a b hg.1 hg.2 v2 (by omega), c_X9_tries_s 14 h tr hI a b hg.1 hg.2 v3 (by omega), n, q, dn, k, o, c, kt + 1, ?_⟩
      obtain ⟨t, ht, et⟩ := ixB (by omega) hg.1
      have hb01 : b = 0 ∨ b = 1 := by
        have := hg.2
        simp only [Bool.or_eq_true, decide_eq_true_eq] at this
        exact this
      obtain ⟨a1, a2, a3, a4, a5, a6⟩ := hX
      have ng : ∀ (F1 F2 F3 : Nat → Int32) (x : Nat), x < 98 → va_up (va_up (va_up g 98 F1) 99 F2) 100 F3 x = g x := fun F1 F2 F3 x hx => by rw [va_up_ne _ _ (by omega), va_up_ne _ _ (by omega), va_up_ne _ _ (by omega)]
      have nh : ∀ (F1 F2 F3 : Nat → Int32) (x : Nat), x ≠ 11 → x ≠ 12 → x ≠ 0 → va_up (va_up (va_up h 11 F1) 12 F2) 0 F3 x = h x := fun F1 F2 F3 x x1 x2 x3 => by rw [va_up_ne _ _ x3, va_up_ne _ _ x2, va_up_ne _ _ x1]
      refine ⟨hst_keep a1 (fun x _ _ => ng _ _ _ x (by omega)) (fun x _ _ => nh _ _ _ x (by omega) (by omega) (by omega)), a2, txt_keep a3 rfl rfl rfl rfl, his_keep a4 (fun x _ _ => ng _ _ _ x (by omega)) rfl rfl, img_keep a5 (fun x _ _ => ng _ _ _ x (by omega)) rfl rfl, ⟨by omega, rfl, rfl, fun i hi => ?_⟩⟩
      show (∃ t, t < n ∧ upd (g 98) kt a i = nI t) ∧ (upd (g 99) kt b i = 0 ∨ upd (g 99) kt b i = 1) ∧ upd (g 98) kt a i = upd (h 11) kt a i ∧ upd (g 99) kt b i = upd (h 12) kt b i
      by_cases e : i = kt
      · subst e
        rw [pk_us, pk_us, pk_us, pk_us]
        exact ⟨⟨t, ht, et⟩, hb01, rfl, rfl⟩
      · rw [pk_un e, pk_un e, pk_un e, pk_un e]
        exact v4 i (by omega)
theorem k_forget {g h : RG} (tr : Int64) (hR : RL g h) : CQ 16 89 [.ref 0, .null] 16 160 [.ref 0, .null] g h tr := by
  obtain ⟨n, q, dn, k, o, c, kt, hX⟩ := hR
  obtain ⟨v1, v2, v3, v4⟩ := id hX.2.2.2.2.2
  have e1 := c_X8_forget 15 g tr
  have e2 := c_X9_forget 16 h tr
  rw [v2] at e1
  rw [v3] at e2
  refine ⟨_, _, _, tr, e1, e2, n, q, dn, k, o, c, 0, ?_⟩
  obtain ⟨a1, a2, a3, a4, a5, a6⟩ := hX
  exact ⟨hst_keep a1 (fun x _ _ => va_up_ne _ _ (by omega)) (fun x _ _ => va_up_ne _ _ (by omega)), a2, txt_keep a3 rfl rfl rfl rfl, his_keep a4 (fun x _ _ => va_up_ne _ _ (by omega)) rfl rfl, img_keep a5 (fun x _ _ => va_up_ne _ _ (by omega)) rfl rfl, ⟨by omega, rfl, rfl, fun i hi => absurd hi (by omega)⟩⟩
theorem k_lays {g h : RG} (tr : Int64) (hR : RL g h) (a b : Int32) : CQ 16 82 [.ref 0, .int a, .int b] 16 151 [.ref 0, .int a, .int b] g h tr := by
  obtain ⟨n, q, dn, k, o, c, kt, hX⟩ := hR
  have hC := core_C hX.1 hX.2.1
  have hI := core_R hX.1 hX.2.1
  have hv := core_v hX.1 hX.2.1
  have hb := hC.b
  obtain ⟨w1, w2, w3, w4, w5, w6⟩ := id hX.2.2.2.1
  cases hg : ((decide (0 ≤ a) && decide (a < nI n)) && (decide (0 ≤ b) && decide (b < nI q))) with
  | false => exact ⟨.int (-1), g, h, tr, c_X8_lays_b 13 g tr hC a b hg, c_X9_lays_b 13 h tr hI a b hg, n, q, dn, k, o, c, kt, hX⟩
  | true =>
    rw [Bool.and_eq_true] at hg
    obtain ⟨t, ht, rfl⟩ := ixB (by omega) hg.1
    obtain ⟨p, hp, rfl⟩ := ixB (by omega) hg.2
    cases hl : (decide ((vC n q dn g) 12 t = -9) && (fpB (vC n q dn g) t p && !HOO n (vC n q dn g) (nI p) ((vC n q dn g) 0 t))) with
    | false => exact ⟨.int (-2), g, h, tr, c_X8_lays_f 13 g tr hC ht hp hl, c_X9_lays_f 13 h tr hI ht hp (by rw [← hv]; exact hl), n, q, dn, k, o, c, kt, hX⟩
    | true =>
      obtain ⟨g1, hr, e1⟩ := c_X8_lays_s 13 g tr hC w3 w4 w1 w2 ht hp hl
      obtain ⟨h1, hn, e2⟩ := c_X9_lays_s 13 h tr hI w5 w2 ht hp (by rw [← hv]; exact hl)
      obtain ⟨o', c', hX1⟩ := rem_rl hX hr hn
      have hS := hX1.2.1
      have hX2 : RLX n q dn k o' c' kt (va_up g1 50 (upd (g1 50) t (nI p))) (va_up h1 7 (upd (h1 7) t (nI p + 1))) := by
        refine set_rl hX1 (fun x x1 x2 x3 => va_up_ne _ _ x1) (fun x x1 => va_up_ne _ _ x1) ⟨fun y hy => ?_, fun y hy => ?_⟩
        · show OWR q (upd (g1 50) t (nI p) y) (upd (h1 7) t (nI p + 1) y) ∧ g1 51 y = upd (h1 7) t (nI p + 1) (6 + y) ∧ btw 1 48 (g1 51 y)
          rw [pk_un (show 6 + y ≠ t by omega)]
          refine ⟨?_, (hS.1 y hy).2⟩
          by_cases e : y = t
          · rw [e, pk_us, pk_us]; exact Or.inr ⟨p, hp, rfl, nI_1 p⟩
          · rw [pk_un e, pk_un e]; exact (hS.1 y hy).1
        · show g1 52 y = upd (h1 7) t (nI p + 1) (12 + y) ∧ btw 1 48 (g1 52 y)
          rw [pk_un (show 12 + y ≠ t by omega)]
          exact hS.2 y hy
      rw [← core_v hX2.1 hX2.2.1] at e2
      exact ⟨_, _, _, tr, e1, e2, n, q, dn, k, o', c', kt, hX2⟩
theorem k_takes {g h : RG} (tr : Int64) (hR : RL g h) (a : Int32) : CQ 16 83 [.ref 0, .int a, .null] 16 152 [.ref 0, .int a, .null] g h tr := by
  obtain ⟨n, q, dn, k, o, c, kt, hX⟩ := hR
  have hC := core_C hX.1 hX.2.1
  have hI := core_R hX.1 hX.2.1
  have hv := core_v hX.1 hX.2.1
  have hb := hC.b
  obtain ⟨w1, w2, w3, w4, w5, w6⟩ := id hX.2.2.2.1
  cases hg : (decide (0 ≤ a) && decide (a < nI n)) with
  | false => exact ⟨.int (-1), g, h, tr, c_X8_takes_b 13 g tr hC a hg, c_X9_takes__b 14 h tr hI a hg, n, q, dn, k, o, c, kt, hX⟩
  | true =>
    obtain ⟨t, ht, rfl⟩ := ixB (by omega) hg
    have h12 : vR n q dn h 12 t = g 50 t := by rw [← hv]; exact cut_lt ht
    rcases (hX.2.1.1 t ht).1 with ⟨x1, x2⟩ | ⟨p, hp, x1, x2⟩
    · exact ⟨.int (-2), g, h, tr, c_X8_takes_f 13 g tr hC ht x1, c_X9_takes__f 14 h tr hI ht (h12.trans x1), n, q, dn, k, o, c, kt, hX⟩
    · obtain ⟨g1, hr, e1⟩ := c_X8_takes_s 13 g tr hC w3 w4 w1 w2 ht (by rw [x1]; exact nI_n9 (by omega))
      obtain ⟨h1, hn, e2⟩ := c_X9_takes__s 14 h tr hI w5 w2 ht hp (h12.trans x1)
      obtain ⟨o', c', hX1⟩ := rem_rl hX hr hn
      have hS := hX1.2.1
      rw [x1] at e1
      refine ⟨_, _, _, tr, e1, e2, n, q, dn, k, o', c', kt, set_rl hX1 (fun x x1 x2 x3 => va_up_ne _ _ x1) (fun x x1 => va_up_ne _ _ x1) ⟨fun y hy => ?_, fun y hy => ?_⟩⟩
      · show OWR q (upd (g1 50) t (-9) y) (upd (h1 7) t 0 y) ∧ g1 51 y = upd (h1 7) t 0 (6 + y) ∧ btw 1 48 (g1 51 y)
        rw [pk_un (show 6 + y ≠ t by omega)]
        refine ⟨?_, (hS.1 y hy).2⟩
        by_cases e : y = t
        · rw [e, pk_us, pk_us]; exact Or.inl ⟨rfl, rfl⟩
        · rw [pk_un e, pk_un e]; exact (hS.1 y hy).1
      · show g1 52 y = upd (h1 7) t 0 (12 + y) ∧ btw 1 48 (g1 52 y)
        rw [pk_un (show 12 + y ≠ t by omega)]
        exact hS.2 y hy
theorem fre_rl {n q dn k o c kt : Nat} {G H h1 : RG} {F' : Nat → Int32} (hX : RLX n q dn k o c kt G H) (h7 : H = va_up h1 7 F') : RLX n q dn k o c kt (va_up G 50 (FRE n (vC n q dn G) (G 50))) (va_up h1 7 (FRR n (vR n q dn H) F')) := by
  have hb := hX.1.1
  have hv := core_v hX.1 hX.2.1
  have hF : H 7 = F' := by rw [h7]; rfl
  have hS := hX.2.1
  rw [hF] at hS
  have hq := fre_rel (n := n) (q := q) (vC n q dn G) hb.2.1 (F' := F') n 0 (G 50) F' (by omega) ⟨fun t ht => (hS.1 t ht).1, fun _ _ => rfl⟩
  rw [← hv]
  refine set_rl hX (fun x x1 x2 x3 => va_up_ne _ _ x1) (fun x x1 => by rw [h7, va_up_ne _ _ x1, va_up_ne _ _ x1]) ⟨fun y hy => ?_, fun y hy => ?_⟩
  · show OWR q (FRE n (vC n q dn G) (G 50) y) (FRR n (vC n q dn G) F' y) ∧ G 51 y = FRR n (vC n q dn G) F' (6 + y) ∧ btw 1 48 (G 51 y)
    refine ⟨hq.1 y hy, ?_, (hS.1 y hy).2.2⟩
    rw [show FRR n (vC n q dn G) F' (6 + y) = F' (6 + y) from hq.2 (6 + y) (by omega)]
    exact (hS.1 y hy).2.1
  · show G 52 y = FRR n (vC n q dn G) F' (12 + y) ∧ btw 1 48 (G 52 y)
    rw [show FRR n (vC n q dn G) F' (12 + y) = F' (12 + y) from hq.2 (12 + y) (by omega)]
    exact hS.2 y hy
theorem k_rescales {g h : RG} (tr : Int64) (hR : RL g h) (a b e : Int32) : CQ 16 84 [.ref 0, .int a, .int b, .int e, .null, .null, .null] 16 153 [.ref 0, .int a, .int b, .int e, .null, .null, .null] g h tr := by
  obtain ⟨n, q, dn, k, o, c, kt, hX⟩ := hR
  have hC := core_C hX.1 hX.2.1
  have hI := core_R hX.1 hX.2.1
  have hb := hC.b
  obtain ⟨w1, w2, w3, w4, w5, w6⟩ := id hX.2.2.2.1
  cases hg : gRS n q a b e with
  | false => exact ⟨.int (-1), g, h, tr, c_X8_rescales_b 13 g tr hC a b e hg, c_X9_rescales_b 13 h tr hI a b e hg, n, q, dn, k, o, c, kt, hX⟩
  | true =>
    unfold gRS at hg
    rw [Bool.and_eq_true] at hg
    have hs2 := hg.2
    simp only [Bool.and_eq_true, decide_eq_true_eq] at hs2
    obtain ⟨s, s1, s2, rfl⟩ := btw_of (a := 1) (b := 48) (by omega) (by omega) hs2.1 hs2.2
    by_cases ha : a = 1
    · have hg1 := hg.1
      rw [if_pos ha] at hg1
      obtain ⟨i, hi, rfl⟩ := ixB (by omega) hg1
      subst ha
      obtain ⟨g1, hr, e1⟩ := c_X8_rescales_t 13 g tr hC w3 w4 w1 w2 hi ⟨s1, s2⟩
      obtain ⟨h1, hn, e2⟩ := c_X9_rescales_t 13 h tr hI w5 w2 hi ⟨s1, s2⟩
      obtain ⟨o', c', hX1⟩ := rem_rl hX hr hn
      have hS := hX1.2.1
      rw [← (hX.2.1.1 i hi).2.1] at e2
      refine ⟨_, _, _, tr, e1, e2, n, q, dn, k, o', c', kt, fre_rl (G := va_up g1 51 (upd (g1 51) i (nI s))) (H := va_up h1 7 (upd (h1 7) (6 + i) (nI s))) ?_ rfl⟩
      refine set_rl hX1 (fun x x1 x2 x3 => va_up_ne _ _ x2) (fun x x1 => va_up_ne _ _ x1) ⟨fun y hy => ?_, fun y hy => ?_⟩
      · show OWR q (g1 50 y) (upd (h1 7) (6 + i) (nI s) y) ∧ upd (g1 51) i (nI s) y = upd (h1 7) (6 + i) (nI s) (6 + y) ∧ btw 1 48 (upd (g1 51) i (nI s) y)
        rw [pk_un (show y ≠ 6 + i by omega)]
        refine ⟨(hS.1 y hy).1, ?_⟩
        by_cases e : y = i
        · rw [e, pk_us, pk_us]; exact ⟨rfl, s, s1, s2, rfl⟩
        · rw [pk_un e, pk_un (show 6 + y ≠ 6 + i by omega)]; exact (hS.1 y hy).2
      · show g1 52 y = upd (h1 7) (6 + i) (nI s) (12 + y) ∧ btw 1 48 (g1 52 y)
        rw [pk_un (show 12 + y ≠ 6 + i by omega)]
        exact hS.2 y hy
    · have hg1 := hg.1
      rw [if_neg ha, Bool.and_eq_true, decide_eq_true_eq] at hg1
      obtain ⟨ha0, hg1⟩ := hg1
      obtain ⟨i, hi, rfl⟩ := ixB (by omega) hg1
      subst ha0
      obtain ⟨g1, hr, e1⟩ := c_X8_rescales_p 13 g tr hC w3 w4 w1 w2 hi ⟨s1, s2⟩
      obtain ⟨h1, hn, e2⟩ := c_X9_rescales_p 13 h tr hI w5 w2 hi ⟨s1, s2⟩
      obtain ⟨o', c', hX1⟩ := rem_rl hX hr hn
      have hS := hX1.2.1
      rw [← (hX.2.1.2 i hi).1] at e2
      refine ⟨_, _, _, tr, e1, e2, n, q, dn, k, o', c', kt, fre_rl (G := va_up g1 52 (upd (g1 52) i (nI s))) (H := va_up h1 7 (upd (h1 7) (12 + i) (nI s))) ?_ rfl⟩
      refine set_rl hX1 (fun x x1 x2 x3 => va_up_ne _ _ x3) (fun x x1 => va_up_ne _ _ x1) ⟨fun y hy => ?_, fun y hy => ?_⟩
      · show OWR q (g1 50 y) (upd (h1 7) (12 + i) (nI s) y) ∧ g1 51 y = upd (h1 7) (12 + i) (nI s) (6 + y) ∧ btw 1 48 (g1 51 y)
        rw [pk_un (show y ≠ 12 + i by omega), pk_un (show 6 + y ≠ 12 + i by omega)]
        exact hS.1 y hy
      · show upd (g1 52) i (nI s) y = upd (h1 7) (12 + i) (nI s) (12 + y) ∧ btw 1 48 (upd (g1 52) i (nI s) y)
        by_cases e : y = i
        · rw [e, pk_us, pk_us]; exact ⟨rfl, s, s1, s2, rfl⟩
        · rw [pk_un e, pk_un (show 12 + y ≠ 12 + i by omega)]; exact hS.2 y hy
theorem fo_un (u : Nat → Int32) (b : Nat) : ∀ (k p : Nat) (f : Nat → Int32) (t : Nat), unF u b k p f t = if p ≤ t ∧ t < p + k then u (b + t) else f t
  | 0, p, f, t => by rw [if_neg (by omega)]; rfl
  | k + 1, p, f, t => by
    show unF u b k (p + 1) (upd f p (u (b + p))) t = _
    rw [fo_un u b k (p + 1)]
    by_cases h : t = p
    · subst h
      rw [if_neg (by omega), if_pos (by omega), pk_us]
    · rw [pk_un h]
      by_cases h2 : p + 1 ≤ t ∧ t < p + 1 + k
      · rw [if_pos h2, if_pos (by omega)]
      · rw [if_neg h2, if_neg (by omega)]
theorem fo_wr (s : Nat → Int32) (b : Nat) : ∀ (k p : Nat) (f : Nat → Int32) (x : Nat), wrF s b k p f x = if b + p ≤ x ∧ x < b + p + k then s (x - b) else f x
  | 0, p, f, t => by rw [if_neg (by omega)]; rfl
  | k + 1, p, f, t => by
    show wrF s b k (p + 1) (upd f (b + p) (s p)) t = _
    rw [fo_wr s b k (p + 1)]
    by_cases h : t = b + p
    · subst h
      rw [if_neg (by omega), if_pos (by omega), pk_us, show b + p - b = p by omega]
    · rw [pk_un h]
      by_cases h2 : b + (p + 1) ≤ t ∧ t < b + (p + 1) + k
      · rw [if_pos h2, if_pos (by omega)]
      · rw [if_neg h2, if_neg (by omega)]
/-- NOW becomes as a row has it -/
theorem res_rl {n q dn k o c c' kt b0 : Nat} {g h g' h' : RG} {u : Nat → Int32} (hX : RLX n q dn k o c kt g h) (hc : c' ≤ c) (hs : SNP n q (g b0) (g (b0 + 1)) (g (b0 + 2)) u) (hg : ∀ x, x ≠ 50 → x ≠ 51 → x ≠ 52 → x ≠ 90 → g' x = g x) (hg90 : g' 90 = upd (g 90) 1 (nI c')) (h50 : g' 50 = va_cpy (g b0) (g 50) 0 0 6) (h51 : g' 51 = va_cpy (g (b0 + 1)) (g 51) 0 0 6) (h52 : g' 52 = va_cpy (g (b0 + 2)) (g 52) 0 0 5) (hh : ∀ x, x ≠ 7 → x ≠ 0 → h' x = h x) (hh0 : h' 0 = upd (h 0) 6 (nI c')) (hh7 : ∀ t, t < 17 → h' 7 t = u t) : RLX n q dn k o c' kt g' h' := by
  obtain ⟨a1, a2, a3, a4, a5, a6⟩ := hX
  have hb := a1.1
  refine ⟨hst_keep a1 (fun x _ _ => hg x (by omega) (by omega) (by omega) (by omega)) (fun x _ _ => hh x (by omega) (by omega)), ?_, txt_keep a3 (by rw [hg 0 (by omega) (by omega) (by omega) (by omega)]) (hg 1 (by omega) (by omega) (by omega) (by omega)) (by rw [hh0]; rfl) (hh 1 (by omega) (by omega)), ⟨a4.1, by have := a4.2.1; omega, by rw [hg90]; exact a4.2.2.1, by rw [hg90]; rfl, by rw [hh0]; rfl, fun i hi => ?_⟩, img_keep a5 (fun x _ _ => hg x (by omega) (by omega) (by omega) (by omega)) (hh 8 (by omega) (by omega)) (hh 9 (by omega) (by omega)), tri_keep a6 (fun x _ _ => hg x (by omega) (by omega) (by omega) (by omega)) (by rw [hh0]; rfl) (hh 11 (by omega) (by omega)) (hh 12 (by omega) (by omega))⟩
  · rw [h50, h51, h52]
    refine snp_congr hs (fun t ht => ⟨?_, ?_, hh7 t (by omega), hh7 (6 + t) (by omega)⟩) (fun p hp => ⟨?_, hh7 (12 + p) (by omega)⟩)
    · rw [pk_cpy_in (by omega) (by omega)]; simp
    · rw [pk_cpy_in (by omega) (by omega)]; simp
    · rw [pk_cpy_in (by omega) (by omega)]; simp
  · rw [hg (60 + _) (by omega) (by omega) (by omega) (by omega), hg (61 + _) (by omega) (by omega) (by omega) (by omega), hg (62 + _) (by omega) (by omega) (by omega) (by omega), hh 10 (by omega) (by omega)]
    exact a4.2.2.2.2.2 i (by omega)
theorem k_undo {g h : RG} (tr : Int64) (hR : RL g h) : CQ 16 85 [.ref 0] 16 154 [.ref 0, .null] g h tr := by
  obtain ⟨n, q, dn, k, o, c, kt, hX⟩ := hR
  obtain ⟨w1, w2, w3, w4, w5, w6⟩ := id hX.2.2.2.1
  cases c with
  | zero => exact ⟨.int (-2), g, h, tr, c_X8_undo_f 13 g tr w4, c_X9_undo_f 16 h tr w5, n, q, dn, k, o, 0, kt, hX⟩
  | succ c =>
    have hs := w6 c (by omega)
    obtain ⟨r, er⟩ : ∃ r, r = (o + c) % 10 := ⟨_, rfl⟩
    rw [← er] at hs
    refine ⟨_, _, _, tr, c_X8_undo_s 13 g tr w3 w4 w1 (by omega) er, c_X9_undo_s 16 h tr w5 (by omega), n, q, dn, k, o, c, kt, ?_⟩
    have hne : ∀ x, x < 90 → (va_up g 90 (upd (g 90) 1 (nI c))) x = g x := fun x hx => va_up_ne _ _ (by omega)
    refine res_rl hX (c' := c) (b0 := 60 + 3 * r) (by omega) (u := fun j => h 10 (17 * c + j)) (by rw [show 60 + 3 * r + 1 = 61 + 3 * r by omega, show 60 + 3 * r + 2 = 62 + 3 * r by omega]; exact hs) (fun x x1 x2 x3 x4 => ?_) rfl ?_ ?_ ?_ (fun x x1 x2 => ?_) rfl (fun t ht => ?_)
    · unfold resT cp3
      rw [va_up_ne _ _ x3, va_up_ne _ _ x2, va_up_ne _ _ x1, va_up_ne _ _ x4]
    · show va_cpy ((va_up g 90 (upd (g 90) 1 (nI c))) (60 + 3 * r)) _ 0 0 6 = _
      rw [hne _ (by omega)]
      rfl
    · show va_cpy ((va_up g 90 (upd (g 90) 1 (nI c))) (60 + 3 * r + 1)) _ 0 0 6 = _
      rw [hne _ (by omega)]
      rfl
    · show va_cpy ((va_up g 90 (upd (g 90) 1 (nI c))) (60 + 3 * r + 2)) _ 0 0 5 = _
      rw [hne _ (by omega)]
      rfl
    · rw [va_up_ne _ _ x1, va_up_ne _ _ x2]
    · show unF (h 10) (17 * c) 17 0 (h 7) t = _
      rw [fo_un, if_pos (by omega)]
theorem bak_rl {n q dn k o c kt i : Nat} {g h : RG} (hX : RLX n q dn k o c kt g h) (hi : i < 2) (hs : SNP n q (g (91 + 3 * i)) (g (92 + 3 * i)) (g (93 + 3 * i)) (fun j => h 8 (17 * i + j))) : RLX n q dn k o 0 kt (bakT g i) (va_up (va_up h 7 (unF (h 8) (17 * i) 17 0 (h 7))) 0 (upd (h 0) 6 0)) := by
  refine res_rl hX (c' := 0) (b0 := 91 + 3 * i) (by omega) (u := fun j => h 8 (17 * i + j)) (by rw [show 91 + 3 * i + 1 = 92 + 3 * i by omega, show 91 + 3 * i + 2 = 93 + 3 * i by omega]; exact hs) (fun x x1 x2 x3 x4 => ?_) rfl rfl rfl rfl (fun x x1 x2 => ?_) rfl (fun t ht => ?_)
  · unfold bakT cp3
    rw [va_up_ne _ _ x4, va_up_ne _ _ x3, va_up_ne _ _ x2, va_up_ne _ _ x1]
  · rw [va_up_ne _ _ x2, va_up_ne _ _ x1]
  · show unF (h 8) (17 * i) 17 0 (h 7) t = _
    rw [fo_un, if_pos (by omega)]
theorem k_back {g h : RG} (tr : Int64) (hR : RL g h) (a : Int32) : CQ 16 102 [.ref 0, .int a] 16 181 [.ref 0, .int a, .null] g h tr := by
  obtain ⟨n, q, dn, k, o, c, kt, hX⟩ := hR
  have hI5 := hX.2.2.2.2.1
  cases hg : (decide (a = 0) || decide (a = 1)) with
  | false => exact ⟨.int (-1), g, h, tr, c_X8_back_b 14 g tr a hg, c_X9_back_b 15 h tr a hg, n, q, dn, k, o, c, kt, hX⟩
  | true =>
    simp only [Bool.or_eq_true, decide_eq_true_eq] at hg
    rcases hg with rfl | rfl
    · rcases hI5 0 (by omega) with ⟨x1, x2⟩ | ⟨x1, x2, hs⟩
      · exact ⟨.int (-2), g, h, tr, c_X8_back_f0 14 g tr x1, c_X9_back_f0 15 h tr x2, n, q, dn, k, o, c, kt, hX⟩
      · have hX2 := bak_rl hX (i := 0) (by omega) hs
        have e1 := c_X8_back_s0 14 g tr (core_C hX2.1 hX2.2.1) (by rw [x1]; decide)
        have e2 := c_X9_back_s0 15 h tr (core_R hX2.1 hX2.2.1) (by rw [x2]; decide)
        rw [← core_v hX2.1 hX2.2.1] at e2
        exact ⟨_, _, _, tr, e1, e2, n, q, dn, k, o, 0, kt, hX2⟩
    · rcases hI5 1 (by omega) with ⟨x1, x2⟩ | ⟨x1, x2, hs⟩
      · exact ⟨.int (-2), g, h, tr, c_X8_back_f1 14 g tr x1, c_X9_back_f1 15 h tr x2, n, q, dn, k, o, c, kt, hX⟩
      · have hX2 := bak_rl hX (i := 1) (by omega) hs
        have e1 := c_X8_back_s1 14 g tr (core_C hX2.1 hX2.2.1) (by rw [x1]; decide)
        have e2 := c_X9_back_s1 15 h tr (core_R hX2.1 hX2.2.1) (by rw [x2]; decide)
        rw [← core_v hX2.1 hX2.2.1] at e2
        exact ⟨_, _, _, tr, e1, e2, n, q, dn, k, o, 0, kt, hX2⟩
theorem kep_rl {n q dn k o c kt i : Nat} {g h : RG} (hX : RLX n q dn k o c kt g h) (hi : i < 2) : RLX n q dn k o c kt (kepT g i) (va_up (va_up h 8 (wrF (h 7) (17 * i) 17 0 (h 8))) 9 (upd (h 9) i 1)) := by
  obtain ⟨a1, a2, a3, a4, a5, a6⟩ := hX
  have hb := a1.1
  have hg : ∀ x, x ≠ 97 → (x < 91 + 3 * i ∨ 93 + 3 * i < x) → kepT g i x = g x := fun x x1 x2 => by
    unfold kepT cp3
    rw [va_up_ne _ _ x1, va_up_ne _ _ (by omega), va_up_ne _ _ (by omega), va_up_ne _ _ (by omega)]
  have k0 : kepT g i (91 + 3 * i) = va_cpy (g 50) (g (91 + 3 * i)) 0 0 6 := by
    unfold kepT cp3
    rw [va_up_ne _ _ (by omega), va_up_ne _ _ (by omega), va_up_ne _ _ (by omega), va_up_self]
  have k1 : kepT g i (92 + 3 * i) = va_cpy (g 51) (g (92 + 3 * i)) 0 0 6 := by
    unfold kepT cp3
    rw [show 92 + 3 * i = 91 + 3 * i + 1 by omega, va_up_ne _ _ (by omega), va_up_ne _ _ (by omega), va_up_self]
  have k2 : kepT g i (93 + 3 * i) = va_cpy (g 52) (g (93 + 3 * i)) 0 0 5 := by
    unfold kepT cp3
    rw [show 93 + 3 * i = 91 + 3 * i + 2 by omega, va_up_ne _ _ (by omega), va_up_self]
  have hh : ∀ x, x ≠ 8 → x ≠ 9 → (va_up (va_up h 8 (wrF (h 7) (17 * i) 17 0 (h 8))) 9 (upd (h 9) i 1)) x = h x := fun x x1 x2 => by rw [va_up_ne _ _ x2, va_up_ne _ _ x1]
  refine ⟨hst_keep a1 (fun x _ _ => hg x (by omega) (by omega)) (fun x _ _ => hh x (by omega) (by omega)), ?_, txt_keep a3 (by rw [hg 0 (by omega) (by omega)]) (hg 1 (by omega) (by omega)) rfl rfl, his_keep a4 (fun x _ _ => hg x (by omega) (by omega)) rfl rfl, fun j hj => ?_, tri_keep a6 (fun x _ _ => hg x (by omega) (by omega)) rfl rfl rfl⟩
  · rw [hg 50 (by omega) (by omega), hg 51 (by omega) (by omega), hg 52 (by omega) (by omega)]
    exact a2
  · show (upd (g 97) i 1 j = 0 ∧ upd (h 9) i 1 j = 0) ∨ (upd (g 97) i 1 j = 1 ∧ upd (h 9) i 1 j = 1 ∧ SNP n q (kepT g i (91 + 3 * j)) (kepT g i (92 + 3 * j)) (kepT g i (93 + 3 * j)) (fun y => wrF (h 7) (17 * i) 17 0 (h 8) (17 * j + y)))
    by_cases e : j = i
    · subst e
      rw [pk_us, pk_us, k0, k1, k2]
      refine Or.inr ⟨rfl, rfl, snp_congr a2 (fun t ht => ⟨?_, ?_, ?_, ?_⟩) (fun p hp => ⟨?_, ?_⟩)⟩
      · rw [pk_cpy_in (by omega) (by omega)]; simp
      · rw [pk_cpy_in (by omega) (by omega)]; simp
      · show wrF (h 7) (17 * j) 17 0 (h 8) (17 * j + t) = h 7 t
        rw [fo_wr, if_pos (by omega), show 17 * j + t - 17 * j = t by omega]
      · show wrF (h 7) (17 * j) 17 0 (h 8) (17 * j + (6 + t)) = h 7 (6 + t)
        rw [fo_wr, if_pos (by omega), show 17 * j + (6 + t) - 17 * j = 6 + t by omega]
      · rw [pk_cpy_in (by omega) (by omega)]; simp
      · show wrF (h 7) (17 * j) 17 0 (h 8) (17 * j + (12 + p)) = h 7 (12 + p)
        rw [fo_wr, if_pos (by omega), show 17 * j + (12 + p) - 17 * j = 12 + p by omega]
    · rw [pk_un e, pk_un e, hg (91 + 3 * j) (by omega) (by omega), hg (92 + 3 * j) (by omega) (by omega), hg (93 + 3 * j) (by omega) (by omega)]
      rcases a5 j hj with x | ⟨x1, x2, x3⟩
      · exact Or.inl x
      · refine Or.inr ⟨x1, x2, snp_congr x3 (fun t ht => ⟨rfl, rfl, ?_, ?_⟩) (fun p hp => ⟨rfl, ?_⟩)⟩
        · show wrF (h 7) (17 * i) 17 0 (h 8) (17 * j + t) = h 8 (17 * j + t)
          rw [fo_wr, if_neg (by omega)]
        · show wrF (h 7) (17 * i) 17 0 (h 8) (17 * j + (6 + t)) = h 8 (17 * j + (6 + t))
          rw [fo_wr, if_neg (by omega)]
        · show wrF (h 7) (17 * i) 17 0 (h 8) (17 * j + (12 + p)) = h 8 (17 * j + (12 + p))
          rw [fo_wr, if_neg (by omega)]
theorem k_keep {g h : RG} (tr : Int64) (hR : RL g h) (a : Int32) : CQ 16 101 [.ref 0, .int a] 16 180 [.ref 0, .int a, .null] g h tr := by
  obtain ⟨n, q, dn, k, o, c, kt, hX⟩ := hR
  have hC := core_C hX.1 hX.2.1
  have hI := core_R hX.1 hX.2.1
  have hv := core_v hX.1 hX.2.1
  cases hg : (decide (a = 0) || decide (a = 1)) with
  | false => exact ⟨.int (-1), g, h, tr, c_X8_keep_b 14 g tr a hg, c_X9_keep_b 15 h tr a hg, n, q, dn, k, o, c, kt, hX⟩
  | true =>
    simp only [Bool.or_eq_true, decide_eq_true_eq] at hg
    rcases hg with rfl | rfl
    · have e2 := c_X9_keep_0 15 h tr hI
      rw [← hv] at e2
      exact ⟨_, _, _, tr, c_X8_keep_0 14 g tr hC, e2, n, q, dn, k, o, c, kt, kep_rl hX (by omega)⟩
    · have e2 := c_X9_keep_1 15 h tr hI
      rw [← hv] at e2
      exact ⟨_, _, _, tr, c_X8_keep_1 14 g tr hC, e2, n, q, dn, k, o, c, kt, kep_rl hX (by omega)⟩
