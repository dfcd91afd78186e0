/-! CARRIED: the reference's carried() -/
def dgl (n : Nat) : Nat → Nat → List Nat
  | 0, _ => []
  | j + 1, w => dgl n j (w / n) ++ [w % n]
theorem dgl_len (n : Nat) : ∀ j w, (dgl n j w).length = j
  | 0, _ => rfl
  | j + 1, w => by
    unfold dgl
    rw [List.length_append, dgl_len n j (w / n)]
    rfl
theorem rF_ge (n : Nat) : ∀ (j w : Nat) (R : Nat → Int32) (e : Nat), j ≤ e → rF n j w R e = R e
  | 0, _, _, _, _ => rfl
  | j + 1, w, R, e, h => by
    show rF n j (w / n) (upd R j (nI (w % n))) e = R e
    rw [rF_ge n j _ _ e (by omega), pk_un (by omega)]
theorem rF_lt (n : Nat) : ∀ (j w : Nat) (R : Nat → Int32) (e : Nat), e < j → rF n j w R e = nI ((dgl n j w).getD e 0)
  | 0, _, _, _, h => absurd h (by omega)
  | j + 1, w, R, e, h => by
    show rF n j (w / n) (upd R j (nI (w % n))) e = nI ((dgl n j (w / n) ++ [w % n]).getD e 0)
    by_cases he : e < j
    · rw [rF_lt n j _ _ e he]
      rw [List.getD_eq_getElem?_getD, List.getD_eq_getElem?_getD, List.getElem?_append_left (by rw [dgl_len]; exact he)]
    · have e1 : e = j := by omega
      subst e1
      rw [rF_ge n e _ _ e (Nat.le_refl _), pk_us]
      rw [List.getD_eq_getElem?_getD, List.getElem?_append_right (by rw [dgl_len]; exact Nat.le_refl _), dgl_len, Nat.sub_self]
      rfl
theorem dgl_lt {n : Nat} (hn : 0 < n) : ∀ (j w e : Nat), e < j → (dgl n j w).getD e 0 < n
  | 0, _, _, h => absurd h (by omega)
  | j + 1, w, e, h => by
    show (dgl n j (w / n) ++ [w % n]).getD e 0 < n
    by_cases he : e < j
    · rw [List.getD_eq_getElem?_getD, List.getElem?_append_left (by rw [dgl_len]; exact he), ← List.getD_eq_getElem?_getD]
      exact dgl_lt hn j _ e he
    · have e1 : e = j := by omega
      subst e1
      rw [List.getD_eq_getElem?_getD, List.getElem?_append_right (by rw [dgl_len]; exact Nat.le_refl _), dgl_len, Nat.sub_self]
      exact Nat.mod_lt _ hn
def stT (v : VW) (dn : Nat) (δ : Nat → Nat) (e y : Nat) : Nat := eN v dn (δ e) y
def TW (v : VW) (n dn w : Nat) : Nat := fo (stT v dn (fun e => (dgl n n w).getD e 0)) n 0 0
theorem fo_far {v : VW} {dn : Nat} (hU : UB v dn) (δ : Nat → Nat) : ∀ j e, fo (stT v dn δ) j e 1000 = 1000
  | 0, _ => rfl
  | j + 1, e => by
    rw [fo_s]
    unfold stT
    rw [eN_far hU (by omega)]
    exact fo_far hU δ j (e + 1)
theorem fo_T {v : VW} {dn : Nat} (δ : Nat → Nat) : ∀ j e y, y ≤ 1000 → fo (stT v dn δ) j e y ≤ 1000
  | 0, _, _, h => h
  | j + 1, e, y, _ => by
    rw [fo_s]
    exact fo_T δ j (e + 1) _ eN_1000
def stW (v : VW) (n dn w : Nat) (s : Nat × Nat) : Nat × Nat := if isO n n w 0 = true ∧ TW v n dn w < s.1 then (TW v n dn w, w) else s
def RES (n : Nat) (k : Int32) (s : Nat × Nat) : Int32 := if s.1 = 1000 then -9 else if k = -1 then nI s.1 else if k < nI n then nI ((dgl n n s.2).getD k.toNatClampNeg 0) else -5
theorem wR_15 (g : RG) (tr : Int64) (B R F : Nat → Int32) : (wR (va_up (va_up g 15 B) 14 R) tr).set 15 (.inl (0, 6, .inl F)) = wR (va_up (va_up g 15 F) 14 R) tr := rfl
set_option maxRecDepth 20000 in
set_option maxHeartbeats 200000 in
theorem l1_X9_carried (d : Nat) (g : RG) (tr : Int64) {n q dn : Nat} (hc : RI n q dn g) (k : Int32) (r : Option Value) (w2 : AW) : ∀ (j e a A : Nat), e + j = n → a * n ^ j = A → Ev (d + 1) 171 27 [.ref 0, .int k, .int (nI A), .null, .null, .null, .null] [] (wR g tr) r w2 → Ev (d + 1) 171 12 [.ref 0, .int k, .int (nI a), .int (nI e), .null, .null, .null] [] (wR g tr) r w2 := by
  have hb := hc.b
  intro j
  induction j with
  | zero =>
    intro e a A he hA K
    rw [Nat.pow_zero, Nat.mul_one] at hA
    subst hA
    refine Ev.sn e_X9_carried 4 (i' := 16) (ls' := [_, _, _, _, _, _, _]) (st' := [_, _, _]) rfl ?_
    refine Ev.ialdE e_X9_carried rfl rfl rfl rfl (m := 0) rfl (by decide) ?_
    refine Ev.brT (i1 := 27) (i2 := 18) e_X9_carried rfl rfl (ge_t hc.hn (by omega) (by omega)) ?_
    exact Ev.weak (lle_c (lle_c (lle_c (lle_n (lle_n (lle_n (lle_n lle_0))))))) K
  | succ j ih =>
    intro e a A he hA K
    refine Ev.sn e_X9_carried 4 (i' := 16) (ls' := [_, _, _, _, _, _, _]) (st' := [_, _, _]) rfl ?_
    refine Ev.ialdE e_X9_carried rfl rfl rfl rfl (m := 0) rfl (by decide) ?_
    refine Ev.brF (i1 := 27) (i2 := 18) e_X9_carried rfl rfl (ge_f hc.hn (by omega) (by omega)) ?_
    refine Ev.sn e_X9_carried 4 (i' := 22) (ls' := [_, _, _, _, _, _, _]) (st' := [_, _, _]) rfl ?_
    refine Ev.ialdE e_X9_carried rfl rfl rfl rfl (m := 0) rfl (by decide) ?_
    refine Ev.sn e_X9_carried 4 (i' := 12) (ls' := [_, _, _, _, _, _, _]) (st' := []) rfl ?_
    rw [hc.hn, pk_mul, nI_1]
    exact ih (e + 1) (a * n) A (by omega) (by rw [← hA, Nat.pow_succ, Nat.mul_assoc, Nat.mul_comm n]) K
set_option maxRecDepth 20000 in
set_option maxHeartbeats 200000 in
theorem l2_X9_carried (d : Nat) (g : RG) (tr : Int64) {n q dn : Nat} (hc : RI n q dn g) (k A x w : Int32) (B R : Nat → Int32) (δ : Nat → Nat) (hδ : ∀ e, e < n → R e = nI (δ e) ∧ δ e < n) (r : Option Value) (w2 : AW) : ∀ (j e y : Nat), e + j = n → y ≤ 1000 → Ev (d + 1) 171 61 [.ref 0, .int k, .int A, .int x, .int w, .int (nI (phi (fo (stT (vR n q dn g) dn δ) j e y))), .null] [] (wR (va_up (va_up g 15 B) 14 R) tr) r w2 → Ev (d + 1) 171 42 [.ref 0, .int k, .int A, .int x, .int w, .int (nI (phi y)), .int (nI e)] [] (wR (va_up (va_up g 15 B) 14 R) tr) r w2 := by
  have hb := hc.b
  have hU := WF_U hc.w
  have hc2 : RI n q dn (va_up (va_up g 15 B) 14 R) := hc
  intro j
  induction j with
  | zero =>
    intro e y he hy K
    refine Ev.sn e_X9_carried 4 (i' := 46) (ls' := [_, _, _, _, _, _, _]) (st' := [_, _, _]) rfl ?_
    refine Ev.ialdE e_X9_carried rfl rfl rfl rfl (m := 0) rfl (by decide) ?_
    refine Ev.brT (i1 := 61) (i2 := 48) e_X9_carried rfl rfl (ge_t hc2.hn (by omega) (by omega)) ?_
    exact Ev.weak (lle_c (lle_c (lle_c (lle_c (lle_c (lle_c (lle_n lle_0))))))) K
  | succ j ih =>
    intro e y he hy K
    have hp := phi_le hy
    by_cases h : y = 1000
    · subst h
      rw [fo_far hU] at K
      refine Ev.sn e_X9_carried 4 (i' := 46) (ls' := [_, _, _, _, _, _, _]) (st' := [_, _, _]) rfl ?_
      refine Ev.ialdE e_X9_carried rfl rfl rfl rfl (m := 0) rfl (by decide) ?_
      refine Ev.brF (i1 := 61) (i2 := 48) e_X9_carried rfl rfl (ge_f hc2.hn (by omega) (by omega)) ?_
      refine Ev.sn e_X9_carried 2 (i' := 50) (ls' := [_, _, _, _, _, _, _]) (st' := [_, _]) rfl ?_
      refine Ev.brT (i1 := 61) (i2 := 51) e_X9_carried rfl rfl ((by decide)) ?_
      exact Ev.weak (lle_c (lle_c (lle_c (lle_c (lle_c (lle_c (lle_n lle_0))))))) K
    · have hph : phi y = y := phi_ne h
      have hd := hδ e (by omega)
      have E := c_X9_isIn d (va_up (va_up g 15 B) 14 R) tr hc2 hd.2 hy
      rw [show vR n q dn (va_up (va_up g 15 B) 14 R) = vR n q dn g from rfl] at E
      rw [fo_s] at K
      have a := ih (e + 1) (eN (vR n q dn g) dn (δ e) y) (by omega) eN_1000 K
      refine Ev.sn e_X9_carried 4 (i' := 46) (ls' := [_, _, _, _, _, _, _]) (st' := [_, _, _]) rfl ?_
      refine Ev.ialdE e_X9_carried rfl rfl rfl rfl (m := 0) rfl (by decide) ?_
      refine Ev.brF (i1 := 61) (i2 := 48) e_X9_carried rfl rfl (ge_f hc2.hn (by omega) (by omega)) ?_
      refine Ev.sn e_X9_carried 2 (i' := 50) (ls' := [_, _, _, _, _, _, _]) (st' := [_, _]) rfl ?_
      refine Ev.brF (i1 := 61) (i2 := 51) e_X9_carried rfl rfl ((by rw [hph]; exact nI_ge (b := 1000000) (by omega) (by omega))) ?_
      refine Ev.sn e_X9_carried 4 (i' := 55) (ls' := [_, _, _, _, _, _, _]) (st' := [_, _, _]) rfl ?_
      refine Ev.ialdE e_X9_carried rfl rfl rfl rfl (m := e) rfl (by omega) ?_
      rw [va_up_self, hd.1, hph]
      refine Ev.sn e_X9_carried 1 (i' := 57) (ls' := [_, _, _, _, _, _, _]) (st' := [_, _, _]) rfl ?_
      refine Ev.clV e_X9_carried rfl rfl (as := [_, _]) rfl rfl rfl kl_X9_isIn rfl rfl rfl (E) rfl ?_
      refine Ev.sn e_X9_carried 3 (i' := 42) (ls' := [_, _, _, _, _, _, _]) (st' := []) rfl ?_
      rw [nI_1]
      exact a
set_option maxRecDepth 20000 in
set_option maxHeartbeats 200000 in
theorem l3_X9_carried (d : Nat) (g : RG) (tr : Int64) {n q dn : Nat} (hc : RI n q dn g) (k A w : Int32) {x y : Nat} (hyx : y < x) (hx : x ≤ 1000000) (R : Nat → Int32) (r : Option Value) (w2 : AW) : ∀ (j e : Nat) (B : Nat → Int32), e + j = n → Ev (d + 1) 171 82 [.ref 0, .int k, .int A, .int (nI x), .int w, .int (nI y), .null] [] (wR (va_up (va_up g 15 (fo (fun e B => upd B e (R e)) j e B)) 14 R) tr) r w2 → Ev (d + 1) 171 63 [.ref 0, .int k, .int A, .int (nI x), .int w, .int (nI y), .int (nI e)] [] (wR (va_up (va_up g 15 B) 14 R) tr) r w2 := by
  have hb := hc.b
  intro j
  induction j with
  | zero =>
    intro e B he K
    have hc2 : RI n q dn (va_up (va_up g 15 B) 14 R) := hc
    refine Ev.sn e_X9_carried 4 (i' := 67) (ls' := [_, _, _, _, _, _, _]) (st' := [_, _, _]) rfl ?_
    refine Ev.ialdE e_X9_carried rfl rfl rfl rfl (m := 0) rfl (by decide) ?_
    refine Ev.brT (i1 := 82) (i2 := 69) e_X9_carried rfl rfl (ge_t hc2.hn (by omega) (by omega)) ?_
    exact Ev.weak (lle_c (lle_c (lle_c (lle_c (lle_c (lle_c (lle_n lle_0))))))) K
  | succ j ih =>
    intro e B he K
    have hc2 : RI n q dn (va_up (va_up g 15 B) 14 R) := hc
    rw [fo_s] at K
    have a := ih (e + 1) (upd B e (R e)) (by omega) K
    refine Ev.sn e_X9_carried 4 (i' := 67) (ls' := [_, _, _, _, _, _, _]) (st' := [_, _, _]) rfl ?_
    refine Ev.ialdE e_X9_carried rfl rfl rfl rfl (m := 0) rfl (by decide) ?_
    refine Ev.brF (i1 := 82) (i2 := 69) e_X9_carried rfl rfl (ge_f hc2.hn (by omega) (by omega)) ?_
    refine Ev.sn e_X9_carried 2 (i' := 71) (ls' := [_, _, _, _, _, _, _]) (st' := [_, _]) rfl ?_
    refine Ev.brF (i1 := 82) (i2 := 72) e_X9_carried rfl rfl ((nI_ge (by omega) (by omega))) ?_
    refine Ev.sn e_X9_carried 6 (i' := 78) (ls' := [_, _, _, _, _, _, _]) (st' := [_, _, _, _]) rfl ?_
    refine Ev.ialdE e_X9_carried rfl rfl rfl rfl (m := e) rfl (by omega) ?_
    rw [va_up_self]
    refine Ev.iastE e_X9_carried rfl rfl rfl (m := e) rfl (by omega) (wR_15 _ _ _ _ _) ?_
    refine Ev.sn e_X9_carried 2 (i' := 63) (ls' := [_, _, _, _, _, _, _]) (st' := []) rfl ?_
    rw [show (va_up (va_up g 15 B) 14 R) 15 = B from rfl, nI_1]
    exact a
theorem cp_lt (R : Nat → Int32) : ∀ (j e : Nat) (B : Nat → Int32) (i : Nat), fo (fun e B => upd B e (R e)) j e B i = if e ≤ i ∧ i < e + j then R i else B i
  | 0, e, B, i => by rw [if_neg (by omega)]; rfl
  | j + 1, e, B, i => by
    rw [fo_s, cp_lt R j (e + 1)]
    by_cases h : i = e
    · subst h
      rw [if_neg (by omega), if_pos (by omega), pk_us]
    · rw [pk_un h]
      by_cases h2 : e + 1 ≤ i ∧ i < e + 1 + j
      · rw [if_pos h2, if_pos (by omega)]
      · rw [if_neg h2, if_neg (by omega)]
set_option maxRecDepth 20000 in
set_option maxHeartbeats 200000 in
theorem lp_X9_carried (d : Nat) (g : RG) (tr : Int64) {n q dn : Nat} (hc : RI n q dn g) {k : Int32} (hk : ¬ k < -1) {A : Nat} (hA : A < 100000) : ∀ (j w x w0 : Nat) (R B : Nat → Int32), w + j = A → x ≤ 1000 → (x < 1000 → ∀ e, e < n → B e = nI ((dgl n n w0).getD e 0)) → ∃ R' B', Ev (d + 1) 171 31 [.ref 0, .int k, .int (nI A), .int (nI (phi x)), .int (nI w), .null, .null] [] (wR (va_up (va_up g 15 B) 14 R) tr) (some (.int (RES n k (fo (stW (vR n q dn g) n dn) j w (x, w0))))) (wR (va_up (va_up g 15 B') 14 R') tr) := by
  have hb := hc.b
  have hU := WF_U hc.w
  intro j
  induction j with
  | zero =>
    intro w x w0 R B hw hx hB
    refine ⟨R, B, ?_⟩
    have hp := phi_le hx
    have hc2 : RI n q dn (va_up (va_up g 15 B) 14 R) := hc
    show Ev (d + 1) 171 31 _ [] _ (some (.int (RES n k (x, w0)))) _
    unfold RES
    dsimp only
    by_cases h1 : x = 1000
    · subst h1
      rw [if_pos rfl]
      refine Ev.sn e_X9_carried 2 (i' := 33) (ls' := [_, _, _, _, _, _, _]) (st' := [_, _]) rfl ?_
      refine Ev.brT (i1 := 91) (i2 := 34) e_X9_carried rfl rfl ((nI_le (by omega) (by omega))) ?_
      refine Ev.sn e_X9_carried 2 (i' := 93) (ls' := [_, _, _, _, _, _, _]) (st' := [_, _]) rfl ?_
      refine Ev.brT (i1 := 94) (i2 := 96) e_X9_carried rfl rfl ((by decide)) ?_
      refine Ev.sn e_X9_carried 2 (i' := 113) (ls' := [_, _, _, _, _, _, _]) (st' := [_]) rfl ?_
      refine Ev.iret e_X9_carried rfl rfl rfl ?_ rfl
      rfl
    · rw [if_neg h1]
      have hph : phi x = x := phi_ne h1
      rw [hph]
      have hne : ¬ nI x = 1000000 := fun h => by
        have := (nI_eq (a := x) (b := 1000000) (by omega) (by omega)).mp h
        omega
      by_cases h2 : k = -1
      · rw [if_pos h2]
        refine Ev.sn e_X9_carried 2 (i' := 33) (ls' := [_, _, _, _, _, _, _]) (st' := [_, _]) rfl ?_
        refine Ev.brT (i1 := 91) (i2 := 34) e_X9_carried rfl rfl ((nI_le (by omega) (by omega))) ?_
        refine Ev.sn e_X9_carried 2 (i' := 93) (ls' := [_, _, _, _, _, _, _]) (st' := [_, _]) rfl ?_
        refine Ev.brF (i1 := 94) (i2 := 96) e_X9_carried rfl rfl (hne) ?_
        refine Ev.sn e_X9_carried 2 (i' := 98) (ls' := [_, _, _, _, _, _, _]) (st' := [_, _]) rfl ?_
        refine Ev.brT (i1 := 99) (i2 := 101) e_X9_carried rfl rfl (h2) ?_
        refine Ev.sn e_X9_carried 2 (i' := 113) (ls' := [_, _, _, _, _, _, _]) (st' := [_]) rfl ?_
        refine Ev.iret e_X9_carried rfl rfl rfl ?_ rfl
        rfl
      · rw [if_neg h2]
        by_cases h3 : k < nI n
        · rw [if_pos h3]
          have hk0 : ¬ k < 0 := by
            rw [Int32.lt_iff_toInt_lt] at hk ⊢
            have h3' : ¬ k.toInt = -1 := fun h => h2 (Int32.toInt_inj.mp h)
            have e1 : (-1 : Int32).toInt = -1 := rfl
            have e0 : (0 : Int32).toInt = 0 := rfl
            omega
          obtain ⟨i, hi, rfl⟩ := ix_of (n := n) rfl (by omega) hk0 (Int32.not_le.mpr h3)
          rw [nI_clamp (by omega)]
          have hBi := hB (by omega) i hi
          refine Ev.sn e_X9_carried 2 (i' := 33) (ls' := [_, _, _, _, _, _, _]) (st' := [_, _]) rfl ?_
          refine Ev.brT (i1 := 91) (i2 := 34) e_X9_carried rfl rfl ((nI_le (by omega) (by omega))) ?_
          refine Ev.sn e_X9_carried 2 (i' := 93) (ls' := [_, _, _, _, _, _, _]) (st' := [_, _]) rfl ?_
          refine Ev.brF (i1 := 94) (i2 := 96) e_X9_carried rfl rfl (hne) ?_
          refine Ev.sn e_X9_carried 2 (i' := 98) (ls' := [_, _, _, _, _, _, _]) (st' := [_, _]) rfl ?_
          refine Ev.brF (i1 := 99) (i2 := 101) e_X9_carried rfl rfl (h2) ?_
          refine Ev.sn e_X9_carried 4 (i' := 105) (ls' := [_, _, _, _, _, _, _]) (st' := [_, _, _]) rfl ?_
          refine Ev.ialdE e_X9_carried rfl rfl rfl rfl (m := 0) rfl (by decide) ?_
          refine Ev.brF (i1 := 112) (i2 := 107) e_X9_carried rfl rfl (ge_f hc2.hn (by omega) (by omega)) ?_
          refine Ev.sn e_X9_carried 3 (i' := 110) (ls' := [_, _, _, _, _, _, _]) (st' := [_, _]) rfl ?_
          refine Ev.ialdE e_X9_carried rfl rfl rfl rfl (m := i) rfl (by omega) ?_
          refine Ev.sn e_X9_carried 1 (i' := 113) (ls' := [_, _, _, _, _, _, _]) (st' := [_]) rfl ?_
          refine Ev.iret e_X9_carried rfl rfl rfl ?_ rfl
          exact hBi
        · rw [if_neg h3]
          refine Ev.sn e_X9_carried 2 (i' := 33) (ls' := [_, _, _, _, _, _, _]) (st' := [_, _]) rfl ?_
          refine Ev.brT (i1 := 91) (i2 := 34) e_X9_carried rfl rfl ((nI_le (by omega) (by omega))) ?_
          refine Ev.sn e_X9_carried 2 (i' := 93) (ls' := [_, _, _, _, _, _, _]) (st' := [_, _]) rfl ?_
          refine Ev.brF (i1 := 94) (i2 := 96) e_X9_carried rfl rfl (hne) ?_
          refine Ev.sn e_X9_carried 2 (i' := 98) (ls' := [_, _, _, _, _, _, _]) (st' := [_, _]) rfl ?_
          refine Ev.brF (i1 := 99) (i2 := 101) e_X9_carried rfl rfl (h2) ?_
          refine Ev.sn e_X9_carried 4 (i' := 105) (ls' := [_, _, _, _, _, _, _]) (st' := [_, _, _]) rfl ?_
          refine Ev.ialdE e_X9_carried rfl rfl rfl rfl (m := 0) rfl (by decide) ?_
          refine Ev.brT (i1 := 112) (i2 := 107) e_X9_carried rfl rfl ((by show g 2 0 ≤ k; rw [hc.hn]; exact Int32.not_lt.mp h3)) ?_
          refine Ev.sn e_X9_carried 1 (i' := 113) (ls' := [_, _, _, _, _, _, _]) (st' := [_]) rfl ?_
          refine Ev.iret e_X9_carried rfl rfl rfl ?_ rfl
          rfl
  | succ j ih =>
    intro w x w0 R B hw hx hB
    have hp := phi_le hx
    have hc2 : RI n q dn (va_up g 15 B) := hc
    have hc3 : RI n q dn (va_up (va_up g 15 B) 14 R) := hc
    have a1 := c_X9_isOrder d (va_up g 15 B) tr hc2 R (w := w) (by omega)
    rw [fo_s]
    cases ho : isO n n w 0 with
    | false =>
      rw [show stW (vR n q dn g) n dn w (x, w0) = (x, w0) from if_neg (fun h => by rw [ho] at h; exact absurd h.1 (by decide))]
      obtain ⟨R', B', a⟩ := ih (w + 1) x w0 (rF n n w R) B (by omega) hx hB
      refine ⟨R', B', ?_⟩
      refine Ev.sn e_X9_carried 2 (i' := 33) (ls' := [_, _, _, _, _, _, _]) (st' := [_, _]) rfl ?_
      refine Ev.brF (i1 := 91) (i2 := 34) e_X9_carried rfl rfl ((nI_ge (by omega) (by omega))) ?_
      refine Ev.sn e_X9_carried 2 (i' := 36) (ls' := [_, _, _, _, _, _, _]) (st' := [_, _]) rfl ?_
      refine Ev.clV e_X9_carried rfl rfl (as := [_]) rfl rfl rfl kl_X9_isOrder rfl rfl rfl (a1) rfl ?_
      refine Ev.brT (i1 := 89) (i2 := 38) e_X9_carried rfl rfl (bT ho) ?_
      refine Ev.sn e_X9_carried 2 (i' := 31) (ls' := [_, _, _, _, _, _, _]) (st' := []) rfl ?_
      rw [nI_1]
      exact a
    | true =>
      have hT1 : TW (vR n q dn g) n dn w ≤ 1000 := fo_T _ _ _ _ (by omega)
      have hT2 := phi_le hT1
      have hpl := phi_lt hT1 hx
      have hδ : ∀ e, e < n → rF n n w R e = nI ((dgl n n w).getD e 0) ∧ (dgl n n w).getD e 0 < n := fun e he => ⟨rF_lt n n w R e he, dgl_lt (by omega) n w e he⟩
      by_cases hlt : TW (vR n q dn g) n dn w < x
      · rw [show stW (vR n q dn g) n dn w (x, w0) = (TW (vR n q dn g) n dn w, w) from if_pos ⟨ho, hlt⟩]
        obtain ⟨R', B', a⟩ := ih (w + 1) (TW (vR n q dn g) n dn w) w (rF n n w R) (fo (fun e B => upd B e (rF n n w R e)) n 0 B) (by omega) hT1 (by
          intro _ e he
          rw [cp_lt, if_pos (by omega)]
          exact (hδ e he).1)
        refine ⟨R', B', ?_⟩
        refine Ev.sn e_X9_carried 2 (i' := 33) (ls' := [_, _, _, _, _, _, _]) (st' := [_, _]) rfl ?_
        refine Ev.brF (i1 := 91) (i2 := 34) e_X9_carried rfl rfl ((nI_ge (by omega) (by omega))) ?_
        refine Ev.sn e_X9_carried 2 (i' := 36) (ls' := [_, _, _, _, _, _, _]) (st' := [_, _]) rfl ?_
        refine Ev.clV e_X9_carried rfl rfl (as := [_]) rfl rfl rfl kl_X9_isOrder rfl rfl rfl (a1) rfl ?_
        refine Ev.brF (i1 := 89) (i2 := 38) e_X9_carried rfl rfl (bF ho) ?_
        refine Ev.sn e_X9_carried 4 (i' := 42) (ls' := [_, _, _, _, _, _, _]) (st' := []) rfl ?_
        refine l2_X9_carried d g tr hc k (nI A) _ (nI w) B (rF n n w R) _ hδ _ _ n 0 0 (by omega) (by omega) ?_
        rw [show fo (stT (vR n q dn g) dn (fun e => (dgl n n w).getD e 0)) n 0 0 = TW (vR n q dn g) n dn w from rfl]
        refine Ev.sn e_X9_carried 2 (i' := 63) (ls' := [_, _, _, _, _, _, _]) (st' := []) rfl ?_
        refine l3_X9_carried d g tr hc k (nI A) (nI w) (hpl.mpr hlt) hp (rF n n w R) _ _ n 0 B (by omega) ?_
        refine Ev.sn e_X9_carried 2 (i' := 84) (ls' := [_, _, _, _, _, _, _]) (st' := [_, _]) rfl ?_
        refine Ev.brF (i1 := 87) (i2 := 85) e_X9_carried rfl rfl ((nI_ge (hpl.mpr hlt) (by omega))) ?_
        refine Ev.sn e_X9_carried 5 (i' := 31) (ls' := [_, _, _, _, _, _, _]) (st' := []) rfl ?_
        rw [nI_1]
        exact Ev.weak (lle_c (lle_c (lle_c (lle_c (lle_c (lle_n (lle_n lle_0))))))) a
      · rw [show stW (vR n q dn g) n dn w (x, w0) = (x, w0) from if_neg (fun h => hlt h.2)]
        obtain ⟨R', B', a⟩ := ih (w + 1) x w0 (rF n n w R) B (by omega) hx hB
        refine ⟨R', B', ?_⟩
        refine Ev.sn e_X9_carried 2 (i' := 33) (ls' := [_, _, _, _, _, _, _]) (st' := [_, _]) rfl ?_
        refine Ev.brF (i1 := 91) (i2 := 34) e_X9_carried rfl rfl ((nI_ge (by omega) (by omega))) ?_
        refine Ev.sn e_X9_carried 2 (i' := 36) (ls' := [_, _, _, _, _, _, _]) (st' := [_, _]) rfl ?_
        refine Ev.clV e_X9_carried rfl rfl (as := [_]) rfl rfl rfl kl_X9_isOrder rfl rfl rfl (a1) rfl ?_
        refine Ev.brF (i1 := 89) (i2 := 38) e_X9_carried rfl rfl (bF ho) ?_
        refine Ev.sn e_X9_carried 4 (i' := 42) (ls' := [_, _, _, _, _, _, _]) (st' := []) rfl ?_
        refine l2_X9_carried d g tr hc k (nI A) _ (nI w) B (rF n n w R) _ hδ _ _ n 0 0 (by omega) (by omega) ?_
        rw [show fo (stT (vR n q dn g) dn (fun e => (dgl n n w).getD e 0)) n 0 0 = TW (vR n q dn g) n dn w from rfl]
        have hge : ¬ phi (TW (vR n q dn g) n dn w) < phi x := fun h => hlt (hpl.mp h)
        have hc4 : RI n q dn (va_up (va_up g 15 B) 14 (rF n n w R)) := hc
        refine Ev.sn e_X9_carried 6 (i' := 67) (ls' := [_, _, _, _, _, _, _]) (st' := [_, _, _]) rfl ?_
        refine Ev.ialdE e_X9_carried rfl rfl rfl rfl (m := 0) rfl (by decide) ?_
        refine Ev.br (i1 := 82) (i2 := 69) e_X9_carried rfl rfl (fun h68 => ?_) (fun h68 => ?_)
        · refine Ev.sn e_X9_carried 2 (i' := 84) (ls' := [_, _, _, _, _, _, _]) (st' := [_, _]) rfl ?_
          refine Ev.brT (i1 := 87) (i2 := 85) e_X9_carried rfl rfl ((nI_le (by omega) (by omega))) ?_
          refine Ev.sn e_X9_carried 4 (i' := 31) (ls' := [_, _, _, _, _, _, _]) (st' := []) rfl ?_
          rw [nI_1]
          exact Ev.weak (lle_c (lle_c (lle_c (lle_c (lle_c (lle_n (lle_n lle_0))))))) a
        · refine Ev.sn e_X9_carried 2 (i' := 71) (ls' := [_, _, _, _, _, _, _]) (st' := [_, _]) rfl ?_
          refine Ev.brT (i1 := 82) (i2 := 72) e_X9_carried rfl rfl ((nI_le (by omega) (by omega))) ?_
          refine Ev.sn e_X9_carried 2 (i' := 84) (ls' := [_, _, _, _, _, _, _]) (st' := [_, _]) rfl ?_
          refine Ev.brT (i1 := 87) (i2 := 85) e_X9_carried rfl rfl ((nI_le (by omega) (by omega))) ?_
          refine Ev.sn e_X9_carried 4 (i' := 31) (ls' := [_, _, _, _, _, _, _]) (st' := []) rfl ?_
          rw [nI_1]
          exact Ev.weak (lle_c (lle_c (lle_c (lle_c (lle_c (lle_n (lle_n lle_0))))))) a
set_option maxRecDepth 20000 in
set_option maxHeartbeats 200000 in
theorem c_X9_carried (d : Nat) (g : RG) (tr : Int64) {n q dn : Nat} (hc : RI n q dn g) (k : Int32) : ∃ g', Ev (d + 1) 171 0 [.ref 0, .int k, .null, .null, .null, .null, .null] [] (wR g tr) (some (.int (if k < -1 then -1 else RES n k (fo (stW (vR n q dn g) n dn) (n ^ n) 0 (1000, 0))))) (wR g' tr) ∧ ∀ x, x ≠ 14 → x ≠ 15 → g' x = g x := by
  have hb := hc.b
  by_cases hk : k < -1
  · refine ⟨g, ?_, fun x _ _ => rfl⟩
    rw [if_pos hk]
    refine Ev.sn e_X9_carried 2 (i' := 2) (ls' := [_, _, _, _, _, _, _]) (st' := [_, _]) rfl ?_
    refine Ev.put e_X9_carried rfl rfl rfl rfl rfl rfl (w1 := wR g tr) rfl ?_
    refine Ev.sn e_X9_carried 2 (i' := 5) (ls' := [_, _, _, _, _, _, _]) (st' := [_, _]) rfl ?_
    refine Ev.brF (i1 := 8) (i2 := 6) e_X9_carried rfl rfl ((Int32.not_le.mpr hk)) ?_
    refine Ev.sn e_X9_carried 1 (i' := 7) (ls' := [_, _, _, _, _, _, _]) (st' := [_]) rfl ?_
    refine Ev.iret e_X9_carried rfl rfl rfl ?_ rfl
    rfl
  · have hA : n ^ n < 100000 := by
      have h1 : n ^ n ≤ 6 ^ n := Nat.pow_le_pow_left (by omega) _
      have h2 : 6 ^ n ≤ 6 ^ 6 := Nat.pow_le_pow_right (by omega) (by omega)
      have h3 : 6 ^ 6 = 46656 := rfl
      omega
    rw [if_neg hk]
    obtain ⟨R', B', a⟩ := lp_X9_carried d g tr hc hk hA (n ^ n) 0 1000 0 (g 14) (g 15) (by omega) (by omega) (fun h => absurd h (by omega))
    refine ⟨va_up (va_up g 15 B') 14 R', ?_, fun x h1 h2 => by rw [va_up_ne _ _ h1, va_up_ne _ _ h2]⟩
    rw [va_same g 15, va_same g 14] at a
    refine Ev.sn e_X9_carried 2 (i' := 2) (ls' := [_, _, _, _, _, _, _]) (st' := [_, _]) rfl ?_
    refine Ev.put e_X9_carried rfl rfl rfl rfl rfl rfl (w1 := wR g tr) rfl ?_
    refine Ev.sn e_X9_carried 2 (i' := 5) (ls' := [_, _, _, _, _, _, _]) (st' := [_, _]) rfl ?_
    refine Ev.brT (i1 := 8) (i2 := 6) e_X9_carried rfl rfl ((Int32.not_lt.mp hk)) ?_
    refine Ev.sn e_X9_carried 4 (i' := 12) (ls' := [_, _, _, _, _, _, _]) (st' := []) rfl ?_
    refine l1_X9_carried d g tr hc k _ _ n 0 1 (n ^ n) (by omega) (by rw [Nat.one_mul]) ?_
    refine Ev.sn e_X9_carried 4 (i' := 31) (ls' := [_, _, _, _, _, _, _]) (st' := []) rfl ?_
    exact a
