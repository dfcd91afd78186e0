/-! who can have what: sets, and the class's laying -/
theorem bit_I : ∀ S, S < 64 → ∀ p, p < 6 → (nI S >>> (nI p &&& 31) &&& 1) = if S.testBit p = true then 1 else 0 := by decide +kernel
theorem or_I {T t : Nat} (ht : t < 6) : nI T ||| (1 <<< (nI t &&& 31)) = nI (T ||| 2 ^ t) := by
  rw [show (1 : Int32) <<< (nI t &&& 31) = bitI t from rfl, bitI_nI t ht, nI_or]
theorem or_lt : ∀ T, T < 64 → ∀ t, t < 6 → T ||| 2 ^ t < 64 := by decide +kernel
def okB (v : VW) (u : Int32) (T t p : Nat) : Bool := decide (v 0 t = u) && (!T.testBit t && fpB v t p)
def EXB (v : VW) (n : Nat) (u : Int32) (S : Nat) : Nat → Nat → Nat → Bool
  | 0, _, _ => true
  | k + 1, p, T => if S.testBit p = true then anyN (fun t => okB v u T t p && EXB v n u S k (p + 1) (T ||| 2 ^ t)) n 0 else EXB v n u S k (p + 1) T
def firT (f : Nat → Bool) : Nat → Nat → Nat
  | 0, p => p
  | k + 1, p => if f p = true then p else firT f k (p + 1)
def FXB (v : VW) (n : Nat) (u : Int32) (S k p T : Nat) : Nat → Bool := fun t => okB v u T t p && EXB v n u S k (p + 1) (T ||| 2 ^ t)
def LRW (v : VW) (n : Nat) (u : Int32) (S : Nat) : Nat → Nat → Nat → (Nat → Int32) → Nat → Int32
  | 0, _, _, R => R
  | k + 1, p, T, R => if S.testBit p = true then upd (LRW v n u S k (p + 1) (T ||| 2 ^ firT (FXB v n u S k p T) n 0) R) p (nI (firT (FXB v n u S k p T) n 0)) else LRW v n u S k (p + 1) T R
theorem EXB_s (v : VW) (n : Nat) (u : Int32) (S k p T : Nat) : EXB v n u S (k + 1) p T = if S.testBit p = true then anyN (FXB v n u S k p T) n 0 else EXB v n u S k (p + 1) T := rfl
theorem anyN_s (f : Nat → Bool) (k p : Nat) : anyN f (k + 1) p = if f p = true then true else anyN f k (p + 1) := rfl
theorem firT_s (f : Nat → Bool) (k p : Nat) : firT f (k + 1) p = if f p = true then p else firT f k (p + 1) := rfl
theorem wC_101 (g : RG) (tr : Int64) (L F : Nat → Int32) : (wC (va_up g 101 L) tr).set 82 (.inl (0, 5, .inl F)) = wC (va_up g 101 F) tr := rfl
def LAY (g : RG) (tr : Int64) (v : VW) (n q : Nat) (u : Int32) (S k : Nat) : Prop := ∀ (p T : Nat) (R : Nat → Int32) (D : Nat) (x y : Int32), p + k = q → T < 64 → k + 2 ≤ D → x = nI p → y = nI T → Ev D 38 0 [.ref 16, .int u, .int (nI S), .int x, .int y, .ref 82, .null, .null] [] (wC (va_up g 101 R) tr) (some (.int (bI (EXB v n u S k p T)))) (wC (va_up g 101 (if EXB v n u S k p T = true then LRW v n u S k p T R else R)) tr)
set_option maxRecDepth 20000 in
set_option maxHeartbeats 200000 in
theorem lp_X3_layFrom (g : RG) (tr : Int64) {n q dn : Nat} (hc : CI n q dn g) (u : Int32) {S : Nat} (hS : S < 32) {k p T D : Nat} (R : Nat → Int32) (hT : T < 64) (hp : p + (k + 1) = q) (hD : k ≤ D) (ih : LAY g tr (vC n q dn g) n q u S k) : ∀ (j t : Nat), t + j = n → Ev (D + 3) 38 29 [.ref 16, .int u, .int (nI S), .int (nI p), .int (nI T), .ref 82, .int (nI t), .null] [] (wC (va_up g 101 R) tr) (some (.int (bI (anyN (FXB (vC n q dn g) n u S k p T) j t)))) (wC (va_up g 101 (if anyN (FXB (vC n q dn g) n u S k p T) j t = true then upd (LRW (vC n q dn g) n u S k (p + 1) (T ||| 2 ^ firT (FXB (vC n q dn g) n u S k p T) j t) R) p (nI (firT (FXB (vC n q dn g) n u S k p T) j t)) else R)) tr) := by
  have hb := hc.b
  have hc2 : CI n q dn (va_up g 101 R) := hc
  intro j
  induction j with
  | zero =>
    intro t ht
    refine Ev.sn e_X3_layFrom 4 (i' := 33) (ls' := [_, _, _, _, _, _, _, _]) (st' := [_, _]) rfl ?_
    refine Ev.brT (i1 := 80) (i2 := 34) e_X3_layFrom rfl rfl (ge_t hc.hn (by omega) (by omega)) ?_
    refine Ev.sn e_X3_layFrom 1 (i' := 81) (ls' := [_, _, _, _, _, _, _, _]) (st' := [_]) rfl ?_
    refine Ev.iret e_X3_layFrom rfl rfl rfl ?_ rfl
    rfl
  | succ j ihj =>
    intro t ht
    have htn : t < n := by omega
    have hv0 : (vC n q dn g) 0 t = g 32 t := cut_lt htn
    have hbt := bit_I T hT t (by omega)
    refine Ev.sn e_X3_layFrom 4 (i' := 33) (ls' := [_, _, _, _, _, _, _, _]) (st' := [_, _]) rfl ?_
    refine Ev.brF (i1 := 80) (i2 := 34) e_X3_layFrom rfl rfl (ge_f hc.hn (by omega) (by omega)) ?_
    refine Ev.sn e_X3_layFrom 4 (i' := 38) (ls' := [_, _, _, _, _, _, _, _]) (st' := [_, _]) rfl ?_
    refine Ev.ialdE e_X3_layFrom rfl rfl rfl rfl (m := t) rfl (by omega) ?_
    refine Ev.sn e_X3_layFrom 1 (i' := 40) (ls' := [_, _, _, _, _, _, _, _]) (st' := [_, _]) rfl ?_
    refine Ev.br (i1 := 41) (i2 := 49) e_X3_layFrom rfl rfl (fun hu => ?_) (fun hu => ?_)
    · refine Ev.sn e_X3_layFrom 5 (i' := 46) (ls' := [_, _, _, _, _, _, _, _]) (st' := [_]) rfl ?_
      refine Ev.br (i1 := 47) (i2 := 49) e_X3_layFrom rfl rfl (fun hq => ?_) (fun hq => ?_)
      · refine Ev.sn e_X3_layFrom 4 (i' := 52) (ls' := [_, _, _, _, _, _, _, _]) (st' := [_]) rfl ?_
        refine Ev.brF (i1 := 78) (i2 := 53) e_X3_layFrom rfl rfl ((by decide)) ?_
        refine Ev.sn e_X3_layFrom 3 (i' := 56) (ls' := [_, _, _, _, _, _, _, _]) (st' := [_, _, _]) rfl ?_
        refine Ev.clV e_X3_layFrom rfl rfl (as := [_, _]) rfl rfl rfl kl_X2_fitsPerson rfl rfl rfl (c_X2_fitsPerson _ _ _ hc2 htn (show p < q by omega)) rfl ?_
        refine Ev.brB (i1 := 78) (i2 := 58) e_X3_layFrom rfl rfl (fun hf => ?_) (fun hf => ?_)
        · refine Ev.sn e_X3_layFrom 2 (i' := 29) (ls' := [_, _, _, _, _, _, _, _]) (st' := []) rfl ?_
          have hF : ¬ FXB (vC n q dn g) n u S k p T t = true := by
            have hf2 : fpB (vC n q dn g) t p = false := hf
            simp [FXB, okB, hf2]
          rw [anyN_s, firT_s, if_neg (show ¬ (FXB (vC n q dn g) n u S k p T) t = true from hF), if_neg (show ¬ (FXB (vC n q dn g) n u S k p T) t = true from hF)]
          rw [nI_1]
          exact Ev.weak (lle_c (lle_c (lle_c (lle_c (lle_c (lle_c (lle_c (lle_n lle_0)))))))) (ihj (t + 1) (by omega))
        · refine Ev.sn e_X3_layFrom 12 (i' := 70) (ls' := [_, _, _, _, _, _, _, _]) (st' := [_, _, _, _, _, _]) rfl ?_
          refine Ev.clS e_X3_layFrom rfl rfl rfl (as := [_, _, _, _, _, _]) rfl rfl rfl rfl rfl (ih (p + 1) (T ||| 2 ^ t) R (D + 2) _ _ (by omega) (or_lt T hT t (by omega)) (by omega) (nI_1 p) (or_I (by omega))) rfl ?_
          refine Ev.brB (i1 := 78) (i2 := 72) e_X3_layFrom rfl rfl (fun hx => ?_) (fun hx => ?_)
          · refine Ev.sn e_X3_layFrom 2 (i' := 29) (ls' := [_, _, _, _, _, _, _, _]) (st' := []) rfl ?_
            rw [if_neg (show ¬ EXB (vC n q dn g) n u S k (p + 1) (T ||| 2 ^ t) = true from by rw [hx]; decide)]
            have hF : ¬ FXB (vC n q dn g) n u S k p T t = true := by
              simp [FXB, hx]
            rw [anyN_s, firT_s, if_neg (show ¬ (FXB (vC n q dn g) n u S k p T) t = true from hF), if_neg (show ¬ (FXB (vC n q dn g) n u S k p T) t = true from hF)]
            rw [nI_1]
            exact Ev.weak (lle_c (lle_c (lle_c (lle_c (lle_c (lle_c (lle_c (lle_n lle_0)))))))) (ihj (t + 1) (by omega))
          · rw [if_pos (show EXB (vC n q dn g) n u S k (p + 1) (T ||| 2 ^ t) = true from hx)]
            have hF : (FXB (vC n q dn g) n u S k p T) t = true := by
              have hu2 : (vC n q dn g) 0 t = u := by rw [hv0]; exact hu
              have hq2 : T.testBit t = false := by
                cases hz : T.testBit t with
                | false => rfl
                | true => rw [hz] at hbt; rw [show (nI T >>> (nI t &&& 31) &&& 1) = 0 from hq] at hbt; exact absurd hbt (by decide)
              have hf2 : fpB (vC n q dn g) t p = true := hf
              simp [FXB, okB, hu2, hq2, hf2, hx]
            rw [anyN_s, firT_s, if_pos (show (FXB (vC n q dn g) n u S k p T) t = true from hF), if_pos (show (FXB (vC n q dn g) n u S k p T) t = true from hF), if_pos rfl]
            refine Ev.sn e_X3_layFrom 3 (i' := 75) (ls' := [_, _, _, _, _, _, _, _]) (st' := [_, _, _]) rfl ?_
            refine Ev.iastE e_X3_layFrom rfl rfl rfl (m := p) rfl (by omega) (wC_101 _ _ _ _) ?_
            refine Ev.sn e_X3_layFrom 1 (i' := 77) (ls' := [_, _, _, _, _, _, _, _]) (st' := [_]) rfl ?_
            refine Ev.iret e_X3_layFrom rfl rfl rfl ?_ rfl
            rfl
      · refine Ev.sn e_X3_layFrom 3 (i' := 52) (ls' := [_, _, _, _, _, _, _, _]) (st' := [_]) rfl ?_
        refine Ev.brT (i1 := 78) (i2 := 53) e_X3_layFrom rfl rfl ((by decide)) ?_
        refine Ev.sn e_X3_layFrom 2 (i' := 29) (ls' := [_, _, _, _, _, _, _, _]) (st' := []) rfl ?_
        have hF : ¬ FXB (vC n q dn g) n u S k p T t = true := by
          have hq2 : T.testBit t = true := by
            cases hz : T.testBit t with
            | true => rfl
            | false => rw [hz] at hbt; exact absurd hbt hq
          simp [FXB, okB, hq2]
        rw [anyN_s, firT_s, if_neg (show ¬ (FXB (vC n q dn g) n u S k p T) t = true from hF), if_neg (show ¬ (FXB (vC n q dn g) n u S k p T) t = true from hF)]
        rw [nI_1]
        exact Ev.weak (lle_c (lle_c (lle_c (lle_c (lle_c (lle_c (lle_c (lle_n lle_0)))))))) (ihj (t + 1) (by omega))
    · refine Ev.sn e_X3_layFrom 3 (i' := 52) (ls' := [_, _, _, _, _, _, _, _]) (st' := [_]) rfl ?_
      refine Ev.brT (i1 := 78) (i2 := 53) e_X3_layFrom rfl rfl ((by decide)) ?_
      refine Ev.sn e_X3_layFrom 2 (i' := 29) (ls' := [_, _, _, _, _, _, _, _]) (st' := []) rfl ?_
      have hF : ¬ FXB (vC n q dn g) n u S k p T t = true := by
        have hu2 : ¬ (vC n q dn g) 0 t = u := by rw [hv0]; exact hu
        simp [FXB, okB, hu2]
      rw [anyN_s, firT_s, if_neg (show ¬ (FXB (vC n q dn g) n u S k p T) t = true from hF), if_neg (show ¬ (FXB (vC n q dn g) n u S k p T) t = true from hF)]
      rw [nI_1]
      exact Ev.weak (lle_c (lle_c (lle_c (lle_c (lle_c (lle_c (lle_c (lle_n lle_0)))))))) (ihj (t + 1) (by omega))
set_option maxRecDepth 20000 in
set_option maxHeartbeats 200000 in
theorem c_X3_layFrom (g : RG) (tr : Int64) {n q dn : Nat} (hc : CI n q dn g) (u : Int32) {S : Nat} (hS : S < 32) : ∀ k, LAY g tr (vC n q dn g) n q u S k := by
  intro k
  induction k with
  | zero =>
    intro p T R D x y hp hT hD hx hy
    subst hx
    subst hy
    have hb := hc.b
    refine Ev.sn e_X3_layFrom 4 (i' := 4) (ls' := [_, _, _, _, _, _, _, _]) (st' := [_, _]) rfl ?_
    refine Ev.brT (i1 := 9) (i2 := 5) e_X3_layFrom rfl rfl (ge_t hc.hq (by omega) (by omega)) ?_
    refine Ev.sn e_X3_layFrom 1 (i' := 10) (ls' := [_, _, _, _, _, _, _, _]) (st' := [_]) rfl ?_
    refine Ev.iret e_X3_layFrom rfl rfl rfl ?_ rfl
    rfl
  | succ k ih =>
    intro p T R D x y hp hT hD hx hy
    subst hx
    subst hy
    have hb := hc.b
    obtain ⟨D, rfl⟩ : ∃ z, D = z + 3 := ⟨D - 3, by omega⟩
    have hbt := bit_I S (by omega) p (by omega)
    refine Ev.sn e_X3_layFrom 4 (i' := 4) (ls' := [_, _, _, _, _, _, _, _]) (st' := [_, _]) rfl ?_
    refine Ev.brF (i1 := 9) (i2 := 5) e_X3_layFrom rfl rfl (ge_f hc.hq (by omega) (by omega)) ?_
    refine Ev.sn e_X3_layFrom 2 (i' := 7) (ls' := [_, _, _, _, _, _, _, _]) (st' := [_, _]) rfl ?_
    refine Ev.alen e_X3_layFrom rfl rfl rfl rfl ?_
    refine Ev.brT (i1 := 11) (i2 := 9) e_X3_layFrom rfl rfl ((show nI p < nI 5 from nI_lt (by omega) (by omega))) ?_
    refine Ev.sn e_X3_layFrom 5 (i' := 16) (ls' := [_, _, _, _, _, _, _, _]) (st' := [_]) rfl ?_
    refine Ev.br (i1 := 17) (i2 := 27) e_X3_layFrom rfl rfl (fun hq => ?_) (fun hq => ?_)
    · have hz : ¬ S.testBit p = true := fun hz => by
        rw [hz, if_pos rfl, show (nI S >>> (nI p &&& 31) &&& 1) = 0 from hq] at hbt
        exact absurd hbt (by decide)
      rw [EXB_s, if_neg (show ¬ S.testBit p = true from hz)]
      rw [show LRW (vC n q dn g) n u S (k + 1) p T R = LRW (vC n q dn g) n u S k (p + 1) T R from if_neg hz]
      refine Ev.sn e_X3_layFrom 8 (i' := 25) (ls' := [_, _, _, _, _, _, _, _]) (st' := [_, _, _, _, _, _]) rfl ?_
      refine Ev.clS e_X3_layFrom rfl rfl rfl (as := [_, _, _, _, _, _]) rfl rfl rfl rfl rfl (ih (p + 1) T R (D + 2) _ _ (by omega) hT (by omega) (nI_1 p) rfl) rfl ?_
      refine Ev.iret e_X3_layFrom rfl rfl bI_nar ?_ rfl
      rfl
    · have hz : S.testBit p = true := by
        cases hz : S.testBit p with
        | true => rfl
        | false => rw [hz] at hbt; exact absurd hbt hq
      rw [EXB_s, if_pos (show S.testBit p = true from hz)]
      rw [show LRW (vC n q dn g) n u S (k + 1) p T R = upd (LRW (vC n q dn g) n u S k (p + 1) (T ||| 2 ^ firT (FXB (vC n q dn g) n u S k p T) n 0) R) p (nI (firT (FXB (vC n q dn g) n u S k p T) n 0)) from if_pos hz]
      refine Ev.sn e_X3_layFrom 2 (i' := 29) (ls' := [_, _, _, _, _, _, _, _]) (st' := []) rfl ?_
      exact lp_X3_layFrom g tr hc u hS R hT hp (by omega) ih n 0 (by omega)
