/-! CARRIED: by sets and by all orders it is the same -/
theorem fo_TL (v : VW) (dn : Nat) : ∀ (l2 l1 : List Nat) (y : Nat), fo (stT v dn (fun e => (l1 ++ l2).getD e 0)) l2.length l1.length y = TL v dn l2 y
  | [], _, _ => rfl
  | a :: l2, l1, y => by
    rw [List.length_cons, fo_s, TL_cons]
    have h1 : stT v dn (fun e => (l1 ++ a :: l2).getD e 0) l1.length y = eN v dn a y := by
      unfold stT
      have : (l1 ++ a :: l2).getD l1.length 0 = a := by
        rw [List.getD_eq_getElem?_getD, List.getElem?_append_right (Nat.le_refl _), Nat.sub_self]
        rfl
      dsimp only
      rw [this]
    rw [h1, ← fo_TL v dn l2 (l1 ++ [a]) (eN v dn a y)]
    simp
theorem TW_TL (v : VW) (n dn w : Nat) : TW v n dn w = TL v dn (dgl n n w) 0 := by
  have h := fo_TL v dn (dgl n n w) [] 0
  rw [dgl_len] at h
  exact h
theorem isO_iff (n : Nat) : ∀ j w M, isO n j w M = true ↔ (dgl n j w).Nodup ∧ ∀ x, x ∈ dgl n j w → M.testBit x = false
  | 0, w, M => by
    constructor
    · intro _; exact ⟨List.nodup_nil, fun x hx => absurd hx (by simp [dgl])⟩
    · intro _; rfl
  | j + 1, w, M => by
    show (!M.testBit (w % n) && isO n j (w / n) (M ||| 2 ^ (w % n))) = true ↔ (dgl n j (w / n) ++ [w % n]).Nodup ∧ ∀ x, x ∈ dgl n j (w / n) ++ [w % n] → M.testBit x = false
    rw [Bool.and_eq_true, isO_iff n j, List.nodup_append]
    constructor
    · rintro ⟨h1, h2, h3⟩
      have h1 : M.testBit (w % n) = false := by
        cases h : M.testBit (w % n) with
        | false => rfl
        | true => rw [h] at h1; exact absurd h1 (by decide)
      have h4 : ∀ x, x ∈ dgl n j (w / n) → M.testBit x = false ∧ x ≠ w % n := by
        intro x hx
        have := h3 x hx
        rw [tb_or, Bool.or_eq_false_iff, decide_eq_false_iff_not] at this
        exact ⟨this.1, fun e => this.2 e.symm⟩
      refine ⟨⟨h2, by simp, fun a ha b hb e => ?_⟩, fun x hx => ?_⟩
      · rw [List.mem_singleton] at hb
        exact (h4 a ha).2 (e.trans hb)
      · rcases List.mem_append.mp hx with h | h
        · exact (h4 x h).1
        · rw [List.mem_singleton] at h
          rw [h]; exact h1
    · rintro ⟨⟨h1, h2, h3⟩, h4⟩
      refine ⟨by rw [h4 (w % n) (by simp)]; rfl, h1, fun x hx => ?_⟩
      rw [tb_or, h4 x (List.mem_append_left _ hx), Bool.false_or]
      exact decide_eq_false (fun e => h3 x hx (w % n) (by simp) e.symm)
theorem dgl_mem {n : Nat} : ∀ (j w : Nat), (j = 0 ∨ 0 < n) → ∀ x, x ∈ dgl n j w → x < n
  | 0, _, _, x, hx => absurd hx (by simp [dgl])
  | j + 1, w, h, x, hx => by
    have hn : 0 < n := by omega
    rcases List.mem_append.mp hx with h1 | h1
    · exact dgl_mem j (w / n) (Or.inr hn) x h1
    · rw [List.mem_singleton] at h1
      rw [h1]; exact Nat.mod_lt _ hn
theorem ord_of : ∀ (l : List Nat) (S : Nat), S < 64 → l.Nodup → (∀ x, x ∈ l → S.testBit x = true) → l.length = pcN S → ORD S l
  | [], S, hS, _, _, h => by
    rw [pc0 S hS h.symm]
    exact ord_nil.mpr rfl
  | t :: l, S, hS, h1, h2, h3 => by
    have ht := h2 t (List.mem_cons_self ..)
    have hx := xlt hS ht
    have h4 := List.nodup_cons.mp h1
    rw [List.length_cons] at h3
    refine ord_cons.mpr ⟨ht, ord_of l (S ^^^ 2 ^ t) (by omega) h4.2 (fun x hm => ?_) (by omega)⟩
    exact (xor_tb x ht).mpr ⟨h2 x (List.mem_cons_of_mem _ hm), fun e => h4.1 (e ▸ hm)⟩
theorem ord_len : ∀ (l : List Nat) (S : Nat), S < 64 → ORD S l → l.length = pcN S
  | [], S, hS, h => by
    by_cases h0 : S = 0
    · rw [h0, pcN_0]; rfl
    · obtain ⟨t, -, ht⟩ := bex S hS h0
      exact absurd ((h.2 t).mpr ht) (by simp)
  | t :: l, S, hS, h => by
    have h1 := ord_cons.mp h
    have hx := xlt hS h1.1
    rw [List.length_cons, ord_len l (S ^^^ 2 ^ t) (by omega) h1.2]
    omega
theorem ord_lt {n S : Nat} {l : List Nat} (hS : S < 2 ^ n) (h : ORD S l) : ∀ x, x ∈ l → x < n := fun x hx => tbn hS ((h.2 x).mp hx)
theorem isO_ord {n w : Nat} (hn : n ≤ 6) : isO n n w 0 = true ↔ ORD (2 ^ n - 1) (dgl n n w) := by
  have h64 := pow_n hn
  have hpp := Nat.two_pow_pos n
  rw [isO_iff]
  constructor
  · rintro ⟨h1, -⟩
    refine ord_of _ _ (by omega) h1 (fun x hx => ?_) ?_
    · rw [Nat.testBit_two_pow_sub_one]
      exact decide_eq_true (dgl_mem n w (by omega) x hx)
    · rw [dgl_len, pc_all n (by omega)]
  · intro h
    exact ⟨h.1, fun x _ => Nat.zero_testBit x⟩
def vl (n : Nat) : List Nat → Nat
  | [] => 0
  | t :: l => t * n ^ l.length + vl n l
theorem vl_snoc (n t : Nat) : ∀ l, vl n (l ++ [t]) = vl n l * n + t
  | [] => by simp [vl]
  | a :: l => by
    show a * n ^ (l ++ [t]).length + vl n (l ++ [t]) = (a * n ^ l.length + vl n l) * n + t
    rw [vl_snoc n t l, List.length_append, List.length_singleton, Nat.pow_succ, Nat.add_mul, Nat.mul_assoc, Nat.add_assoc]
theorem vl_lt {n : Nat} : ∀ l : List Nat, (∀ x, x ∈ l → x < n) → vl n l < n ^ l.length
  | [], _ => by simp [vl]
  | a :: l, h => by
    have h1 := vl_lt l (fun x hx => h x (List.mem_cons_of_mem _ hx))
    have h2 := h a (List.mem_cons_self ..)
    show a * n ^ l.length + vl n l < n ^ (l.length + 1)
    rw [Nat.pow_succ, Nat.mul_comm _ n]
    calc a * n ^ l.length + vl n l < a * n ^ l.length + n ^ l.length := by omega
      _ = (a + 1) * n ^ l.length := by rw [Nat.succ_mul]
      _ ≤ n * n ^ l.length := Nat.mul_le_mul_right _ h2
theorem vl_dgl {n : Nat} : ∀ j w, w < n ^ j → vl n (dgl n j w) = w
  | 0, w, h => by
    rw [Nat.pow_zero] at h
    show 0 = w
    omega
  | j + 1, w, h => by
    show vl n (dgl n j (w / n) ++ [w % n]) = w
    have hn : 0 < n := by
      rcases Nat.eq_zero_or_pos n with e | e
      · rw [e, Nat.pow_succ, Nat.mul_zero] at h; omega
      · exact e
    rw [vl_snoc, vl_dgl j (w / n) ((Nat.div_lt_iff_lt_mul hn).mpr (by rw [Nat.pow_succ] at h; exact h)), Nat.mul_comm]
    exact Nat.div_add_mod w n
theorem dgl_vl {n : Nat} : ∀ (j : Nat) (l : List Nat), l.length = j → (∀ x, x ∈ l → x < n) → dgl n j (vl n l) = l
  | 0, l, h, _ => by
    rw [List.eq_nil_of_length_eq_zero h]
    rfl
  | j + 1, l, h, hx => by
    rcases List.eq_nil_or_concat l with e | ⟨l', t, e⟩
    · rw [e] at h; simp at h
    · rw [List.concat_eq_append] at e
      subst e
      have ht := hx t (by simp)
      rw [List.length_append, List.length_singleton] at h
      show dgl n j (vl n (l' ++ [t]) / n) ++ [vl n (l' ++ [t]) % n] = l' ++ [t]
      rw [vl_snoc, Nat.mul_comm, Nat.mul_add_div (by omega), Nat.mul_add_mod, Nat.div_eq_of_lt ht, Nat.mod_eq_of_lt ht, Nat.add_zero]
      rw [dgl_vl j l' (by omega) (fun x hm => hx x (List.mem_append_left _ hm))]
def WIN (v : VW) (n dn w : Nat) (s : Nat × Nat) : Prop := (∀ u, u < w → isO n n u 0 = true → s.1 ≤ TW v n dn u) ∧ (s.1 < 1000 → s.2 < w ∧ isO n n s.2 0 = true ∧ TW v n dn s.2 = s.1 ∧ ∀ u, u < s.2 → isO n n u 0 = true → s.1 < TW v n dn u) ∧ s.1 ≤ 1000
theorem win_fo {v : VW} {n dn : Nat} : ∀ (j w : Nat) (s : Nat × Nat), WIN v n dn w s → WIN v n dn (w + j) (fo (stW v n dn) j w s)
  | 0, _, _, h => h
  | j + 1, w, s, h => by
    rw [fo_s, show w + (j + 1) = w + 1 + j by omega]
    refine win_fo j (w + 1) _ ?_
    obtain ⟨h1, h2, h3⟩ := h
    unfold stW
    by_cases hc : isO n n w 0 = true ∧ TW v n dn w < s.1
    · rw [if_pos hc]
      refine ⟨fun u hu ho => ?_, fun _ => ⟨Nat.lt_succ_self w, hc.1, rfl, fun u hu ho => ?_⟩, by show TW v n dn w ≤ 1000; omega⟩
      · show TW v n dn w ≤ TW v n dn u
        by_cases e : u = w
        · rw [e]; exact Nat.le_refl _
        · have := h1 u (by omega) ho
          omega
      · show TW v n dn w < TW v n dn u
        have hu : u < w := hu
        have := h1 u hu ho
        omega
    · rw [if_neg hc]
      refine ⟨fun u hu ho => ?_, fun hx => ⟨by have := (h2 hx).1; omega, (h2 hx).2⟩, h3⟩
      by_cases e : u = w
      · subst e
        rcases Nat.lt_or_ge (TW v n dn u) s.1 with h | h
        · exact absurd ⟨ho, h⟩ hc
        · exact h
      · exact h1 u (by omega) ho
theorem win_so {v : VW} {n dn : Nat} (hn : n ≤ 6) {s : Nat × Nat} (h : WIN v n dn (n ^ n) s) : s.1 = so v n dn (2 ^ n - 1) := by
  have h64 := pow_n hn
  have hpp := Nat.two_pow_pos n
  obtain ⟨h1, h2, h3⟩ := h
  obtain ⟨l, h4, h5⟩ := so_ex (v := v) (dn := dn) hn _ (2 ^ n - 1) rfl (by omega) (by omega)
  have hl := ord_len l _ (by omega) h4
  rw [pc_all n (by omega)] at hl
  have hx := ord_lt (n := n) (by omega) h4
  have hv := vl_lt l hx
  rw [hl] at hv
  have hd := dgl_vl n l hl hx
  have hle : s.1 ≤ so v n dn (2 ^ n - 1) := by
    rw [← h5]
    have := h1 (vl n l) hv ((isO_ord hn).mpr (by rw [hd]; exact h4))
    rw [TW_TL, hd] at this
    exact this
  have hso := so_1000 (v := v) (dn := dn) hn (show 2 ^ n - 1 < 64 by omega)
  by_cases hx1 : s.1 < 1000
  · have h6 := h2 hx1
    have h7 := so_le (v := v) (dn := dn) hn _ (2 ^ n - 1) _ rfl (by omega) (by omega) ((isO_ord hn).mp h6.2.1)
    rw [← TW_TL, h6.2.2.1] at h7
    omega
  · omega
def gl (v : VW) (n dn L : Nat) : Nat → Nat → Nat → List Nat
  | 0, _, _ => []
  | j + 1, S, m => firT (LOB v n dn L S m) n 0 :: gl v n dn L j (S ^^^ 2 ^ firT (LOB v n dn L S m) n 0) (eN v dn (firT (LOB v n dn L S m) n 0) m)
theorem gN_gl (v : VW) (n dn L : Nat) : ∀ (k j S m : Nat), k < j → gN v n dn L k S m = (gl v n dn L j S m).getD k 0
  | _, 0, _, _, h => absurd h (by omega)
  | 0, j + 1, S, m, _ => rfl
  | k + 1, j + 1, S, m, h => by
    show gN v n dn L k _ _ = (gl v n dn L j _ _).getD k 0
    exact gN_gl v n dn L k j _ _ (by omega)
theorem firT_least (f : Nat → Bool) : ∀ k p x, p ≤ x → x < p + k → f x = true → firT f k p ≤ x
  | 0, p, x, h1, h2, _ => by omega
  | k + 1, p, x, h1, h2, h3 => by
    rw [firT_s]
    by_cases h : f p = true
    · rw [if_pos h]; exact h1
    · rw [if_neg h]
      have hne : x ≠ p := fun e => h (e ▸ h3)
      exact firT_least f k (p + 1) x (by omega) (by omega) h3
theorem gl_ord {v : VW} {n dn L : Nat} (hU : UB v dn) (hL : L ≤ 1000) (hn : n ≤ 6) : ∀ (j S m : Nat), pcN S = j → S < 2 ^ n → m < la v n dn L S → ORD S (gl v n dn L j S m) ∧ TL v dn (gl v n dn L j S m) m < L
  | 0, S, m, hj, hS, hm => by
    have h64 := pow_n hn
    have e := pc0 S (by omega) hj
    subst e
    rw [la_0] at hm
    exact ⟨ord_nil.mpr rfl, hm⟩
  | j + 1, S, m, hj, hS, hm => by
    have h64 := pow_n hn
    have h0 : ¬ S = 0 := fun e => by rw [e, pcN_0] at hj; omega
    have hex := LOB_ex hU hL hn hS h0 hm
    have hf := firT_ok _ _ _ hex
    unfold gl
    obtain ⟨t, et⟩ : ∃ t, t = firT (LOB v n dn L S m) n 0 := ⟨_, rfl⟩
    rw [← et] at hf ⊢
    have hF := hf.1
    unfold LOB at hF
    simp only [Bool.and_eq_true, decide_eq_true_eq] at hF
    have hx := xlt (show S < 64 by omega) hF.1
    have h1 := gl_ord hU hL hn j (S ^^^ 2 ^ t) (eN v dn t m) (by omega) (by omega) hF.2
    exact ⟨ord_cons.mpr ⟨hF.1, h1.1⟩, h1.2⟩
theorem gl_min {v : VW} {n dn L : Nat} (hU : UB v dn) (hL : L ≤ 1000) (hn : n ≤ 6) : ∀ (j S m : Nat) (l : List Nat), pcN S = j → S < 2 ^ n → ORD S l → TL v dn l m < L → vl n (gl v n dn L j S m) ≤ vl n l
  | 0, S, m, l, hj, hS, hl, hT => by
    show 0 ≤ _
    omega
  | j + 1, S, m, l, hj, hS, hl, hT => by
    have h64 := pow_n hn
    have h0 : ¬ S = 0 := fun e => by rw [e, pcN_0] at hj; omega
    cases l with
    | nil =>
      obtain ⟨t, -, ht⟩ := bex S (by omega) h0
      exact absurd ((hl.2 t).mpr ht) (by simp)
    | cons b l =>
      have hm : m < la v n dn L S := (la_iff hU hL hn _ S rfl hS (by omega) m).mpr ⟨b :: l, hl, hT⟩
      have hg := gl_ord hU hL hn (j + 1) S m hj hS hm
      have h1 := ord_cons.mp hl
      have hx := xlt (show S < 64 by omega) h1.1
      rw [TL_cons] at hT
      have h2 : eN v dn b m < la v n dn L (S ^^^ 2 ^ b) := (la_iff hU hL hn _ (S ^^^ 2 ^ b) rfl (by omega) (by omega) _).mpr ⟨l, h1.2, hT⟩
      have hP : LOB v n dn L S m b = true := by
        unfold LOB
        rw [h1.1, decide_eq_true h2]
        rfl
      have hle := firT_least _ n 0 b (by omega) (by have := tbn hS h1.1; omega) hP
      have hll := ord_len l (S ^^^ 2 ^ b) (by omega) h1.2
      unfold gl at hg ⊢
      obtain ⟨t, et⟩ : ∃ t, t = firT (LOB v n dn L S m) n 0 := ⟨_, rfl⟩
      rw [← et] at hg hle ⊢
      have h3 := ord_cons.mp hg.1
      have hxt := xlt (show S < 64 by omega) h3.1
      have hgl := ord_len _ (S ^^^ 2 ^ t) (by omega) h3.2
      by_cases e : t = b
      · subst e
        have h4 := gl_min hU hL hn j (S ^^^ 2 ^ t) (eN v dn t m) l (by omega) (by omega) h1.2 hT
        show t * n ^ (gl v n dn L j (S ^^^ 2 ^ t) (eN v dn t m)).length + _ ≤ t * n ^ l.length + vl n l
        rw [hgl, hll]
        omega
      · have h5 := vl_lt _ (ord_lt (n := n) (by omega) h3.2)
        show t * n ^ (gl v n dn L j (S ^^^ 2 ^ t) (eN v dn t m)).length + vl n (gl v n dn L j (S ^^^ 2 ^ t) (eN v dn t m)) ≤ b * n ^ l.length + vl n l
        have hlen : (gl v n dn L j (S ^^^ 2 ^ t) (eN v dn t m)).length = l.length := by omega
        rw [hlen] at h5 ⊢
        have h6 : (t + 1) * n ^ l.length ≤ b * n ^ l.length := Nat.mul_le_mul_right _ (by omega)
        rw [Nat.succ_mul] at h6
        omega
theorem car_eq {n q dn : Nat} {v : VW} (hw : WF n q dn v) (k : Int32) : S_car v n dn k = if k < -1 then -1 else RES n k (fo (stW v n dn) (n ^ n) 0 (1000, 0)) := by
  have hn := hw.1.1
  have hU := WF_U hw
  have h64 := pow_n hn
  have hpp := Nat.two_pow_pos n
  have hwin := win_fo (v := v) (n := n) (dn := dn) (n ^ n) 0 (1000, 0) ⟨fun u hu => absurd hu (by omega), fun h => absurd h (by show ¬ 1000 < 1000; omega), Nat.le_refl _⟩
  rw [Nat.zero_add] at hwin
  obtain ⟨s, es⟩ : ∃ s, s = fo (stW v n dn) (n ^ n) 0 (1000, 0) := ⟨_, rfl⟩
  rw [← es] at hwin ⊢
  have hs := win_so hn hwin
  unfold S_car RES
  rw [← hs]
  by_cases h1 : k < -1
  · rw [if_pos h1, if_pos h1]
  · rw [if_neg h1, if_neg h1]
    by_cases h2 : s.1 = 1000
    · rw [if_pos h2, if_pos h2]
    · rw [if_neg h2, if_neg h2]
      by_cases h3 : k = -1
      · rw [if_pos h3, if_pos h3]
      · rw [if_neg h3, if_neg h3]
        by_cases h4 : k < nI n
        · rw [if_pos h4, if_pos h4]
          have hk0 : ¬ k < 0 := by
            rw [Int32.lt_iff_toInt_lt] at h1 ⊢
            have h3' : ¬ k.toInt = -1 := fun h => h3 (Int32.toInt_inj.mp h)
            have e1 : (-1 : Int32).toInt = -1 := rfl
            have e0 : (0 : Int32).toInt = 0 := rfl
            omega
          obtain ⟨i, hi, rfl⟩ := ix_of (n := n) rfl (by omega) hk0 (Int32.not_le.mpr h4)
          rw [nI_clamp (by omega), gN_gl v n dn _ i n _ _ hi]
          have hL : s.1 + 1 ≤ 1000 := by have := hwin.2.2; omega
          have hm : 0 < la v n dn (s.1 + 1) (2 ^ n - 1) := by
            rw [hs] at h2 ⊢
            exact la_so hU hn h2
          have hg := gl_ord hU hL hn n (2 ^ n - 1) 0 (pc_all n (by omega)) (by omega) hm
          have hgl := ord_len _ _ (by omega) hg.1
          rw [pc_all n (by omega)] at hgl
          have hgx := ord_lt (n := n) (by omega) hg.1
          have hgv := vl_lt _ hgx
          rw [hgl] at hgv
          have hgd := dgl_vl n _ hgl hgx
          have hb := hwin.2.1 (by omega)
          have ho := (isO_ord hn).mp hb.2.1
          have hmin := gl_min hU hL hn n (2 ^ n - 1) 0 _ (pc_all n (by omega)) (by omega) ho (by rw [← TW_TL, hb.2.2.1]; omega)
          rw [vl_dgl n s.2 hb.1] at hmin
          have hge : ¬ vl n (gl v n dn (s.1 + 1) n (2 ^ n - 1) 0) < s.2 := fun hlt => by
            have h5 := hb.2.2.2 _ hlt ((isO_ord hn).mpr (by rw [hgd]; exact hg.1))
            rw [TW_TL, hgd] at h5
            have := hg.2
            omega
          have heq : vl n (gl v n dn (s.1 + 1) n (2 ^ n - 1) 0) = s.2 := by omega
          rw [← heq, hgd]
        · rw [if_neg h4, if_neg h4]
