/-! the reference: numbers -/
set_option maxRecDepth 20000 in
set_option maxHeartbeats 200000 in
theorem lp_X9_gcd (d : Nat) (w : AW) : ∀ (b a : Nat), a < 2 ^ 63 → b < 2 ^ 63 → Ev d 172 4 [.null, .null, .null, .null, .long (nL a), .null, .long (nL b), .null, .null, .null] [] w (some (.long (nL (Nat.gcd a b)))) w := by
  intro b
  induction b using Nat.strongRecOn with
  | _ b ih =>
    intro a ha hb
    refine Ev.sn e_X9_gcd 3 (i' := 7) (ls' := [_, _, _, _, _, _, _, _, _, _]) (st' := [_]) rfl ?_
    refine Ev.br (i1 := 17) (i2 := 8) e_X9_gcd rfl rfl (fun h0 => ?_) (fun h0 => ?_)
    · refine Ev.sn e_X9_gcd 1 (i' := 18) (ls' := [_, _, _, _, _, _, _, _, _, _]) (st' := [_]) rfl ?_
      refine Ev.lret e_X9_gcd rfl rfl ?_ rfl
      rw [(nL_0 hb).mp (lg_cmp_0.mp h0), Nat.gcd_zero_right]
    · refine Ev.sn e_X9_gcd 2 (i' := 10) (ls' := [_, _, _, _, _, _, _, _, _, _]) (st' := [_, _]) rfl ?_
      refine Ev.lrem e_X9_gcd rfl rfl (fun e => h0 (lg_cmp_0.mpr e)) ?_
      refine Ev.sn e_X9_gcd 6 (i' := 4) (ls' := [_, _, _, _, _, _, _, _, _, _]) (st' := []) rfl ?_
      have hb0 : ¬ b = 0 := fun e => h0 (lg_cmp_0.mpr ((nL_0 hb).mpr e))
      have hr : a % b < b := Nat.mod_lt _ (by omega)
      rw [nL_rem ha hb, show Nat.gcd a b = Nat.gcd b (a % b) by rw [Nat.gcd_comm a b, Nat.gcd_rec b a, Nat.gcd_comm]]
      exact Ev.weak (lle_n (lle_n (lle_n (lle_n (lle_c (lle_n (lle_c (lle_n (lle_n (lle_n lle_0)))))))))) (ih (a % b) hr b hb (by omega))
set_option maxRecDepth 20000 in
set_option maxHeartbeats 200000 in
theorem c_X9_gcd (d : Nat) (w : AW) {a b : Nat} (ha : a < 2 ^ 63) (hb : b < 2 ^ 63) : Ev d 172 0 [.long (nL a), .null, .long (nL b), .null, .null, .null, .null, .null, .null, .null] [] w (some (.long (nL (Nat.gcd a b)))) w := by
  refine Ev.sn e_X9_gcd 4 (i' := 4) (ls' := [_, _, _, _, _, _, _, _, _, _]) (st' := []) rfl ?_
  exact Ev.weak (lle_n (lle_n (lle_n (lle_n (lle_c (lle_n (lle_c (lle_n (lle_n (lle_n lle_0)))))))))) (lp_X9_gcd _ _ b a ha hb)
def pw9 (x : Int32) (e : Nat) : Int32 := fo (fun _ a => a * x) e 0 1
set_option maxRecDepth 20000 in
set_option maxHeartbeats 200000 in
theorem lp_X9_power (d : Nat) (w : AW) (x : Int32) {e : Nat} (he : e < 2000) : ∀ (kk p : Nat) (a : Int32), p + kk = e → Ev d 176 4 [.int x, .int (nI e), .int a, .int (nI p)] [] w (some (.int (fo (fun _ a => a * x) kk p a))) w := by
  intro kk
  induction kk with
  | zero =>
    intro p a hp
    refine Ev.sn e_X9_power 2 (i' := 6) (ls' := [_, _, _, _]) (st' := [_, _]) rfl ?_
    refine Ev.brT (i1 := 13) (i2 := 7) e_X9_power rfl rfl (ge_t rfl (by omega) (by omega)) ?_
    refine Ev.sn e_X9_power 1 (i' := 14) (ls' := [_, _, _, _]) (st' := [_]) rfl ?_
    refine Ev.iret e_X9_power rfl rfl rfl ?_ rfl
    rfl
  | succ kk ih =>
    intro p a hp
    rw [fo_s (k := kk)]
    refine Ev.sn e_X9_power 2 (i' := 6) (ls' := [_, _, _, _]) (st' := [_, _]) rfl ?_
    refine Ev.brF (i1 := 13) (i2 := 7) e_X9_power rfl rfl (ge_f rfl (by omega) (by omega)) ?_
    refine Ev.sn e_X9_power 6 (i' := 4) (ls' := [_, _, _, _]) (st' := []) rfl ?_
    refine id (Ev.cg (ih (p + 1) ((fun _ a => a * x) p a) (by omega)) ?_)
    simp [nI_1]
set_option maxRecDepth 20000 in
set_option maxHeartbeats 200000 in
theorem c_X9_power (d : Nat) (w : AW) (x : Int32) {e : Nat} (he : e < 2000) : Ev d 176 0 [.int x, .int (nI e), .null, .null] [] w (some (.int (pw9 x e))) w := by
  refine Ev.sn e_X9_power 4 (i' := 4) (ls' := [_, _, _, _]) (st' := []) rfl ?_
  exact lp_X9_power _ _ x he e 0 1 (by omega)
def ch9 (x : Int32) (e : Nat) : Int32 := fo (fun j a => a * (x - nI j) / (nI j + 1)) e 0 1
set_option maxRecDepth 20000 in
set_option maxHeartbeats 200000 in
theorem lp_X9_choose (d : Nat) (w : AW) (x : Int32) {e : Nat} (he : e < 2000) : ∀ (kk p : Nat) (a : Int32), p + kk = e → Ev d 177 4 [.int x, .int (nI e), .int a, .int (nI p)] [] w (some (.int (fo (fun j a => a * (x - nI j) / (nI j + 1)) kk p a))) w := by
  intro kk
  induction kk with
  | zero =>
    intro p a hp
    refine Ev.sn e_X9_choose 2 (i' := 6) (ls' := [_, _, _, _]) (st' := [_, _]) rfl ?_
    refine Ev.brT (i1 := 19) (i2 := 7) e_X9_choose rfl rfl (ge_t rfl (by omega) (by omega)) ?_
    refine Ev.sn e_X9_choose 1 (i' := 20) (ls' := [_, _, _, _]) (st' := [_]) rfl ?_
    refine Ev.iret e_X9_choose rfl rfl rfl ?_ rfl
    rfl
  | succ kk ih =>
    intro p a hp
    rw [fo_s (k := kk)]
    refine Ev.sn e_X9_choose 2 (i' := 6) (ls' := [_, _, _, _]) (st' := [_, _]) rfl ?_
    refine Ev.brF (i1 := 19) (i2 := 7) e_X9_choose rfl rfl (ge_f rfl (by omega) (by omega)) ?_
    refine Ev.sn e_X9_choose 8 (i' := 15) (ls' := [_, _, _, _]) (st' := [_, _]) rfl ?_
    refine Ev.idiv e_X9_choose rfl rfl (by rw [nI_1]; exact nI_ne0 (by omega) (by omega)) ?_
    refine Ev.sn e_X9_choose 3 (i' := 4) (ls' := [_, _, _, _]) (st' := []) rfl ?_
    refine id (Ev.cg (ih (p + 1) ((fun j a => a * (x - nI j) / (nI j + 1)) p a) (by omega)) ?_)
    simp [nI_1]
set_option maxRecDepth 20000 in
set_option maxHeartbeats 200000 in
theorem c_X9_choose (d : Nat) (w : AW) (x : Int32) {e : Nat} (he : e < 2000) : Ev d 177 0 [.int x, .int (nI e), .null, .null] [] w (some (.int (ch9 x e))) w := by
  refine Ev.sn e_X9_choose 4 (i' := 4) (ls' := [_, _, _, _]) (st' := []) rfl ?_
  exact lp_X9_choose _ _ x he e 0 1 (by omega)
def sN (v : VW) (p : Nat) : Nat := (v 4 p).toNatClampNeg
def zN (v : VW) (p : Nat) : Nat := (v 5 p).toNatClampNeg
theorem WF.sz {n q dn : Nat} {v : VW} (h : WF n q dn v) {p : Nat} (hp : p < q) : v 4 p = nI (sN v p) ∧ 1 ≤ sN v p ∧ sN v p ≤ 48 ∧ v 5 p = nI (zN v p) ∧ 1 ≤ zN v p ∧ zN v p ≤ 99 := by
  obtain ⟨⟨a, a1, a2, a3⟩, ⟨b, b1, b2, b3⟩⟩ := h.2.2.1 p hp
  have e1 : sN v p = a := by unfold sN; rw [a3]; exact nI_clamp (by omega)
  have e2 : zN v p = b := by unfold zN; rw [b3]; exact nI_clamp (by omega)
  rw [e1, e2]
  exact ⟨a3, a1, a2, b3, b1, b2⟩
theorem fo_rel {α β : Type} {R : Nat → α → β → Prop} {f : Nat → α → α} {g : Nat → β → β} : ∀ (k p : Nat) (a : α) (b : β), R p a b → (∀ j a b, p ≤ j → j < p + k → R j a b → R (j + 1) (f j a) (g j b)) → R (p + k) (fo f k p a) (fo g k p b)
  | 0, _, _, _, h, _ => h
  | k + 1, p, a, b, h, hs => by
    have h2 := fo_rel (R := R) k (p + 1) (f p a) (g p b) (hs p a b (by omega) (by omega) h) (fun j a b h1 h2 => hs j a b (by omega) (by omega))
    rw [show p + (k + 1) = p + 1 + k by omega]
    exact h2
def cN (v : VW) (q : Nat) : Nat := fo (fun p a => a * sN v p) q 0 1
def hgN (v : VW) (C q : Nat) : Nat := fo (fun p a => a + zN v p * (C / sN v p)) q 0 0
def mq (q : Nat) : Nat := if q = 0 then 1 else q
theorem COM_N {n q dn : Nat} {v : VW} (h : WF n q dn v) : COM q v = nL (cN v q) ∧ 1 ≤ cN v q ∧ cN v q ≤ 48 ^ q := by
  have k := fo_rel (R := fun p (a : Int64) (b : Nat) => a = nL b ∧ 1 ≤ b ∧ b ≤ 48 ^ p) (f := fun p a => a * (v 4 p).toInt64) (g := fun p a => a * sN v p) q 0 1 1 ⟨rfl, by decide, by decide⟩ (fun j a b h1 h2 hr => by
    obtain ⟨e1, s1, s2, -⟩ := h.sz (p := j) (by omega)
    refine ⟨?_, ?_, ?_⟩
    · show a * (v 4 j).toInt64 = nL (b * sN v j)
      rw [hr.1, e1, nL_I (by omega), nL_mul]
    · exact Nat.mul_pos hr.2.1 s1
    · rw [Nat.pow_succ]
      exact Nat.mul_le_mul hr.2.2 s2)
  rw [Nat.zero_add] at k
  exact k
theorem cN_big {n q dn : Nat} {v : VW} (h : WF n q dn v) : cN v q ≤ 254803968 := Nat.le_trans (COM_N h).2.2 (Nat.le_trans (Nat.pow_le_pow_right (by decide) h.1.2.1) (by decide))
theorem HGT_N {n q dn : Nat} {v : VW} (h : WF n q dn v) {p : Nat} (hp : p < q) {C : Nat} (hC : C < 2 ^ 63) : HGT v p (nL C) = nL (zN v p * (C / sN v p)) := by
  obtain ⟨e1, s1, s2, e2, z1, z2⟩ := h.sz hp
  unfold HGT
  rw [e1, if_neg (nI_ne0 (by omega) (by omega)), e2, nL_I (by omega), nL_I (by omega), nL_div hC (by omega), nL_mul]
theorem HGA_N {n q dn : Nat} {v : VW} (h : WF n q dn v) {C : Nat} (hC : C < 2 ^ 63) : HGA q v (nL C) = nL (hgN v C q) ∧ hgN v C q ≤ 495 * C := by
  have k := fo_rel (R := fun p (a : Int64) (b : Nat) => a = nL b ∧ b ≤ p * (99 * C)) (f := fun p a => a + HGT v p (nL C)) (g := fun p a => a + zN v p * (C / sN v p)) q 0 0 0 ⟨rfl, by omega⟩ (fun j a b h1 h2 hr => by
    obtain ⟨e1, s1, s2, e2, z1, z2⟩ := h.sz (p := j) (by omega)
    refine ⟨?_, ?_⟩
    · show a + HGT v j (nL C) = nL (b + zN v j * (C / sN v j))
      rw [hr.1, HGT_N h (by omega) hC, nL_add]
    · show b + zN v j * (C / sN v j) ≤ (j + 1) * (99 * C)
      have := Nat.mul_le_mul z2 (Nat.div_le_self C (sN v j))
      have := hr.2
      rw [Nat.add_mul, Nat.one_mul]
      omega)
  rw [Nat.zero_add] at k
  refine ⟨k.1, Nat.le_trans k.2 ?_⟩
  have := Nat.mul_le_mul_right (99 * C) h.1.2.1
  omega
theorem sN_dvd (v : VW) : ∀ q p, p < q → sN v p ∣ cN v q
  | q + 1, p, h => by
    have e : cN v (q + 1) = cN v q * sN v q := by
      have := fo_last (fun p a => a * sN v p) q 0 1
      rw [Nat.zero_add] at this
      exact this
    rw [e]
    by_cases h2 : p = q
    · subst h2
      exact Nat.dvd_mul_left _ _
    · exact Nat.dvd_trans (sN_dvd v q p (by omega)) (Nat.dvd_mul_right _ _)
def stMN (v : VW) (p : Nat) (x : Nat × Nat) : Nat × Nat := ((x.1 * sN v p + zN v p * x.2) / Nat.gcd (x.1 * sN v p + zN v p * x.2) (x.2 * sN v p), (x.2 * sN v p) / Nat.gcd (x.1 * sN v p + zN v p * x.2) (x.2 * sN v p))
def mnF (q : Nat) (x : Int32) (r : Nat × Nat) : Int64 := nL ((if x = 0 then r.1 else r.2 * mq q) / Nat.gcd r.1 (r.2 * mq q))
theorem MN_ok {n q dn : Nat} {v : VW} (h : WF n q dn v) (x : Int32) : mnF q x (fo (stMN v) q 0 (0, 1)) = ilt (HGA q v (COM q v)) (COM q v * (if nI q < 1 then 1 else nI q).toInt64) x := by
  obtain ⟨c1, c2, c3⟩ := COM_N h
  have c4 := cN_big h
  have hb := h.1
  have em : (if nI q < 1 then 1 else nI q).toInt64 = nL (mq q) := by
    by_cases h0 : q = 0
    · subst h0; decide
    · rw [if_neg (show ¬ nI q < 1 from nI_nlt (b := 1) (by omega) (by omega)), nL_I (by omega)]
      unfold mq
      rw [if_neg h0]
  have hm : 1 ≤ mq q ∧ mq q ≤ 5 := by unfold mq; split <;> omega
  rw [em, c1, (HGA_N h (by omega)).1]
  have hh := (HGA_N h (C := cN v q) (by omega)).2
  have hcm : cN v q * mq q ≤ 254803968 * 5 := Nat.mul_le_mul c4 hm.2
  rw [nL_mul, ilt_N (by omega) (by omega) (Nat.mul_pos c2 hm.1)]
  have k := fo_rel (R := fun p (a : Nat × Nat) (b : Nat) => 0 < a.2 ∧ a.1 * cN v q = b * a.2) (f := stMN v) (g := fun p a => a + zN v p * (cN v q / sN v p)) q 0 (0, 1) 0 ⟨by decide, by omega⟩ (fun j a b h1 h2 hr => by
    obtain ⟨-, s1, -⟩ := h.sz (p := j) (by omega)
    obtain ⟨r1, r2⟩ := hr
    have hg : 0 < Nat.gcd (a.1 * sN v j + zN v j * a.2) (a.2 * sN v j) := Nat.gcd_pos_of_pos_right _ (Nat.mul_pos r1 s1)
    have d1 := Nat.div_mul_cancel (Nat.gcd_dvd_left (a.1 * sN v j + zN v j * a.2) (a.2 * sN v j))
    have d2 := Nat.div_mul_cancel (Nat.gcd_dvd_right (a.1 * sN v j + zN v j * a.2) (a.2 * sN v j))
    have hs : cN v q / sN v j * sN v j = cN v q := Nat.div_mul_cancel (sN_dvd v q j (by omega))
    have key : (a.1 * sN v j + zN v j * a.2) * cN v q = (b + zN v j * (cN v q / sN v j)) * (a.2 * sN v j) := by
      calc (a.1 * sN v j + zN v j * a.2) * cN v q = (a.1 * cN v q) * sN v j + zN v j * a.2 * cN v q := by rw [Nat.add_mul]; ac_rfl
        _ = (b * a.2) * sN v j + zN v j * a.2 * (cN v q / sN v j * sN v j) := by rw [r2, hs]
        _ = (b + zN v j * (cN v q / sN v j)) * (a.2 * sN v j) := by rw [Nat.add_mul]; ac_rfl
    refine ⟨?_, ?_⟩
    · show 0 < a.2 * sN v j / _
      exact Nat.div_pos (Nat.le_of_dvd (Nat.mul_pos r1 s1) (Nat.gcd_dvd_right _ _)) hg
    · show (a.1 * sN v j + zN v j * a.2) / _ * cN v q = (b + zN v j * (cN v q / sN v j)) * (a.2 * sN v j / _)
      apply Nat.eq_of_mul_eq_mul_right hg
      rw [show ∀ a b c : Nat, a * b * c = a * c * b from fun a b c => by ac_rfl, d1, Nat.mul_assoc (b + _), d2]
      exact key)
  obtain ⟨k1, k2⟩ := k
  have k2 : (fo (stMN v) q 0 (0, 1)).1 * cN v q = hgN v (cN v q) q * (fo (stMN v) q 0 (0, 1)).2 := k2
  generalize fo (stMN v) q 0 (0, 1) = r at *
  generalize hgN v (cN v q) q = H at *
  obtain ⟨l1, l2⟩ := low_uniq (a := r.1) (b := r.2 * mq q) (c := H) (e := cN v q * mq q) (Nat.mul_pos k1 hm.1) (Nat.mul_pos c2 hm.1) (by rw [← Nat.mul_assoc, ← Nat.mul_assoc, k2])
  unfold mnF
  split
  · rw [l1]
  · rw [l2]
set_option maxRecDepth 20000 in
set_option maxHeartbeats 200000 in
theorem c_X9_mean_b (d : Nat) (g : Nat → Nat → Int32) (tr : Int64) {n q dn : Nat} (hc : RI n q dn g) (x : Int32) (h : (decide (x = 0) || decide (x = 1)) = false) : Ev (d + 1) 173 0 [.ref 0, .int x, .null, .null, .null, .null, .null, .null, .null] [] (wR g tr) (some (.long (-1))) (wR g tr) := by
  have hb := hc.b
  refine Ev.sn e_X9_mean 2 (i' := 2) (ls' := [_, _, _, _, _, _, _, _, _]) (st' := [_, _]) rfl ?_
  refine Ev.put e_X9_mean rfl rfl rfl rfl rfl rfl (w1 := wR g tr) rfl ?_
  refine Ev.sn e_X9_mean 3 (i' := 6) (ls' := [_, _, _, _, _, _, _, _, _]) (st' := [_, _, _]) rfl ?_
  refine Ev.clS e_X9_mean rfl rfl rfl (as := [_, _, _]) rfl rfl rfl rfl rfl (c_X9_in _ _ _ _ _) rfl ?_
  refine Ev.brT (i1 := 8) (i2 := 10) e_X9_mean rfl rfl (bT (by rw [r01]; exact h)) ?_
  refine Ev.sn e_X9_mean 1 (i' := 9) (ls' := [_, _, _, _, _, _, _, _, _]) (st' := [_]) rfl ?_
  refine Ev.lret e_X9_mean rfl rfl ?_ rfl
  rfl
set_option maxRecDepth 20000 in
set_option maxHeartbeats 200000 in
theorem lp_X9_mean (d : Nat) (g : Nat → Nat → Int32) (tr : Int64) {n q dn : Nat} (hc : RI n q dn g) (x : Int32) : ∀ (j p a b : Nat), p + j = q → 0 < b → a ≤ 147 ^ p → b ≤ 147 ^ p → Ev (d + 1) 173 16 [.ref 0, .int x, .long (nL a), .null, .long (nL b), .null, .int (nI p), .null, .null] [] (wR g tr) (some (.long (mnF q x (fo (stMN (vR n q dn g)) j p (a, b))))) (wR g tr) := by
  intro j
  induction j with
  | zero =>
    intro p a b hp hb1 ha hb2
    have hb := hc.b
    have hK : 147 ^ p ≤ 147 ^ 5 := Nat.pow_le_pow_right (by decide) (by omega)
    have hm : 1 ≤ mq q ∧ mq q ≤ 5 := by unfold mq; split <;> omega
    have hbm : b * mq q ≤ 147 ^ p * 5 := Nat.mul_le_mul hb2 hm.2
    have hG : 0 < Nat.gcd a (b * mq q) := Nat.gcd_pos_of_pos_right _ (Nat.mul_pos hb1 hm.1)
    have hG2 : Nat.gcd a (b * mq q) < 2 ^ 63 := gcd_lt (by omega) (by omega)
    refine Ev.sn e_X9_mean 4 (i' := 20) (ls' := [_, _, _, _, _, _, _, _, _]) (st' := [_, _, _]) rfl ?_
    refine Ev.ialdE e_X9_mean rfl rfl rfl rfl (m := 1) rfl (by decide) ?_
    refine Ev.brT (i1 := 68) (i2 := 22) e_X9_mean rfl rfl (ge_t hc.hq (by omega) (by omega)) ?_
    refine Ev.sn e_X9_mean 4 (i' := 72) (ls' := [_, _, _, _, _, _, _, _, _]) (st' := [_, _, _]) rfl ?_
    refine Ev.ialdE e_X9_mean rfl rfl rfl rfl (m := 1) rfl (by decide) ?_
    refine Ev.br (i1 := 74) (i2 := 76) e_X9_mean rfl rfl (fun h0 => ?_) (fun h0 => ?_)
    · refine Ev.sn e_X9_mean 6 (i' := 85) (ls' := [_, _, _, _, _, _, _, _, _]) (st' := [_, _]) rfl ?_
      have ej : nL b * 1 = nL (b * mq q) := by
        have e : q = 0 := by
          rw [hc.hq] at h0
          exact Nat.eq_zero_of_not_pos (fun e => nI_ne0 e (by omega) h0)
        rw [show mq q = 1 from if_pos e]
        exact nL_mul b 1
      rw [ej]
      refine Ev.clS e_X9_mean rfl rfl rfl (as := [_, _]) rfl rfl rfl rfl rfl (c_X9_gcd _ _ (by omega) (by omega)) rfl ?_
      refine Ev.sn e_X9_mean 2 (i' := 88) (ls' := [_, _, _, _, _, _, _, _, _]) (st' := [_]) rfl ?_
      refine Ev.br (i1 := 89) (i2 := 93) e_X9_mean rfl rfl (fun hx9 => ?_) (fun hx9 => ?_)
      · refine Ev.sn e_X9_mean 2 (i' := 91) (ls' := [_, _, _, _, _, _, _, _, _]) (st' := [_, _]) rfl ?_
        refine Ev.ldiv e_X9_mean rfl rfl (fun e => by have := (nL_0 hG2).mp e; omega) ?_
        refine Ev.sn e_X9_mean 1 (i' := 96) (ls' := [_, _, _, _, _, _, _, _, _]) (st' := [_]) rfl ?_
        refine Ev.lret e_X9_mean rfl rfl ?_ rfl
        show _ = nL _
        rw [if_pos hx9]
        exact nL_div (by omega) hG2
      · refine Ev.sn e_X9_mean 2 (i' := 95) (ls' := [_, _, _, _, _, _, _, _, _]) (st' := [_, _]) rfl ?_
        refine Ev.ldiv e_X9_mean rfl rfl (fun e => by have := (nL_0 hG2).mp e; omega) ?_
        refine Ev.lret e_X9_mean rfl rfl ?_ rfl
        show _ = nL _
        rw [if_neg hx9]
        exact nL_div (by omega) hG2
    · refine Ev.sn e_X9_mean 3 (i' := 79) (ls' := [_, _, _, _, _, _, _, _, _]) (st' := [_, _, _]) rfl ?_
      refine Ev.ialdE e_X9_mean rfl rfl rfl rfl (m := 1) rfl (by decide) ?_
      refine Ev.sn e_X9_mean 5 (i' := 85) (ls' := [_, _, _, _, _, _, _, _, _]) (st' := [_, _]) rfl ?_
      have ej : nL b * (g 2 1).toInt64 = nL (b * mq q) := by
        have e : ¬ q = 0 := fun e => h0 (by rw [hc.hq, e]; rfl)
        rw [show mq q = q from if_neg e, hc.hq, nL_I (by omega), nL_mul]
      rw [ej]
      refine Ev.clS e_X9_mean rfl rfl rfl (as := [_, _]) rfl rfl rfl rfl rfl (c_X9_gcd _ _ (by omega) (by omega)) rfl ?_
      refine Ev.sn e_X9_mean 2 (i' := 88) (ls' := [_, _, _, _, _, _, _, _, _]) (st' := [_]) rfl ?_
      refine Ev.br (i1 := 89) (i2 := 93) e_X9_mean rfl rfl (fun hx9 => ?_) (fun hx9 => ?_)
      · refine Ev.sn e_X9_mean 2 (i' := 91) (ls' := [_, _, _, _, _, _, _, _, _]) (st' := [_, _]) rfl ?_
        refine Ev.ldiv e_X9_mean rfl rfl (fun e => by have := (nL_0 hG2).mp e; omega) ?_
        refine Ev.sn e_X9_mean 1 (i' := 96) (ls' := [_, _, _, _, _, _, _, _, _]) (st' := [_]) rfl ?_
        refine Ev.lret e_X9_mean rfl rfl ?_ rfl
        show _ = nL _
        rw [if_pos hx9]
        exact nL_div (by omega) hG2
      · refine Ev.sn e_X9_mean 2 (i' := 95) (ls' := [_, _, _, _, _, _, _, _, _]) (st' := [_, _]) rfl ?_
        refine Ev.ldiv e_X9_mean rfl rfl (fun e => by have := (nL_0 hG2).mp e; omega) ?_
        refine Ev.lret e_X9_mean rfl rfl ?_ rfl
        show _ = nL _
        rw [if_neg hx9]
        exact nL_div (by omega) hG2
  | succ j ih =>
    intro p a b hp hb1 ha hb2
    rw [fo_s (k := j)]
    have hb := hc.b
    have hp1 : p < q := by omega
    obtain ⟨e1, s1, s2, e2, z1, z2⟩ := hc.w.sz hp1
    have hv1 : (vR n q dn g) 4 p = g 7 (12 + p) := cut_lt (f := fun t => g 7 (12 + t)) hp1
    have hv2 : (vR n q dn g) 5 p = g 4 (2 * p + 1) := cut_lt (f := fun t => g 4 (2 * t + 1)) hp1
    have f1 : (g 7 (12 + p)).toInt64 = nL (sN (vR n q dn g) p) := by rw [← hv1, e1]; exact nL_I (by omega)
    have f2 : (g 4 (2 * p + 1)).toInt64 = nL (zN (vR n q dn g) p) := by rw [← hv2, e2]; exact nL_I (by omega)
    have hK : 147 ^ p ≤ 147 ^ 4 := Nat.pow_le_pow_right (by decide) (by omega)
    have hA : a * sN (vR n q dn g) p + zN (vR n q dn g) p * b ≤ 147 ^ (p + 1) := by
      have h1 := Nat.mul_le_mul ha s2
      have h2 := Nat.mul_le_mul z2 hb2
      rw [Nat.pow_succ]
      omega
    have hB : b * sN (vR n q dn g) p ≤ 147 ^ (p + 1) := by
      have h1 := Nat.mul_le_mul hb2 s2
      rw [Nat.pow_succ]
      omega
    have hK2 : 147 ^ (p + 1) ≤ 147 ^ 5 := Nat.pow_le_pow_right (by decide) (by omega)
    have hB0 : 0 < b * sN (vR n q dn g) p := Nat.mul_pos hb1 s1
    have hG : 0 < Nat.gcd (a * sN (vR n q dn g) p + zN (vR n q dn g) p * b) (b * sN (vR n q dn g) p) := Nat.gcd_pos_of_pos_right _ hB0
    have hG2 : Nat.gcd (a * sN (vR n q dn g) p + zN (vR n q dn g) p * b) (b * sN (vR n q dn g) p) < 2 ^ 63 := gcd_lt (by omega) (by omega)
    have hst : stMN (vR n q dn g) p (a, b) = ((a * sN (vR n q dn g) p + zN (vR n q dn g) p * b) / Nat.gcd (a * sN (vR n q dn g) p + zN (vR n q dn g) p * b) (b * sN (vR n q dn g) p), b * sN (vR n q dn g) p / Nat.gcd (a * sN (vR n q dn g) p + zN (vR n q dn g) p * b) (b * sN (vR n q dn g) p)) := rfl
    rw [hst]
    refine Ev.sn e_X9_mean 4 (i' := 20) (ls' := [_, _, _, _, _, _, _, _, _]) (st' := [_, _, _]) rfl ?_
    refine Ev.ialdE e_X9_mean rfl rfl rfl rfl (m := 1) rfl (by decide) ?_
    refine Ev.brF (i1 := 68) (i2 := 22) e_X9_mean rfl rfl (ge_f hc.hq (by omega) (by omega)) ?_
    refine Ev.sn e_X9_mean 6 (i' := 28) (ls' := [_, _, _, _, _, _, _, _, _]) (st' := [_, _, _]) rfl ?_
    refine Ev.ialdE e_X9_mean rfl rfl rfl rfl (nI_add 12 p) (by omega) ?_
    refine Ev.sn e_X9_mean 9 (i' := 38) (ls' := [_, _, _, _, _, _, _, _, _]) (st' := [_, _, _]) rfl ?_
    refine Ev.ialdE e_X9_mean rfl rfl rfl rfl (ixm 2 1 p) (by omega) ?_
    refine Ev.sn e_X9_mean 11 (i' := 50) (ls' := [_, _, _, _, _, _, _, _, _]) (st' := [_, _, _]) rfl ?_
    refine Ev.ialdE e_X9_mean rfl rfl rfl rfl (nI_add 12 p) (by omega) ?_
    refine Ev.sn e_X9_mean 5 (i' := 56) (ls' := [_, _, _, _, _, _, _, _, _]) (st' := [_, _]) rfl ?_
    simp only [f1, f2, nL_mul, nL_add]
    refine Ev.clS e_X9_mean rfl rfl rfl (as := [_, _]) rfl rfl rfl rfl rfl (c_X9_gcd _ _ (by omega) (by omega)) rfl ?_
    refine Ev.sn e_X9_mean 3 (i' := 60) (ls' := [_, _, _, _, _, _, _, _, _]) (st' := [_, _]) rfl ?_
    refine Ev.ldiv e_X9_mean rfl rfl (fun e => by have := (nL_0 hG2).mp e; omega) ?_
    refine Ev.sn e_X9_mean 3 (i' := 64) (ls' := [_, _, _, _, _, _, _, _, _]) (st' := [_, _]) rfl ?_
    refine Ev.ldiv e_X9_mean rfl rfl (fun e => by have := (nL_0 hG2).mp e; omega) ?_
    refine Ev.sn e_X9_mean 3 (i' := 16) (ls' := [_, _, _, _, _, _, _, _, _]) (st' := []) rfl ?_
    rw [nL_div (by omega) hG2, nL_div (by omega) hG2, nI_1]
    exact Ev.weak (lle_c (lle_c (lle_c (lle_n (lle_c (lle_n (lle_c (lle_n (lle_n lle_0))))))))) (ih (p + 1) _ _ (by omega) (Nat.div_pos (Nat.le_of_dvd hB0 (Nat.gcd_dvd_right _ _)) hG) (Nat.le_trans (Nat.div_le_self _ _) hA) (Nat.le_trans (Nat.div_le_self _ _) hB))
set_option maxRecDepth 20000 in
set_option maxHeartbeats 200000 in
theorem c_X9_mean_s (d : Nat) (g : Nat → Nat → Int32) (tr : Int64) {n q dn : Nat} (hc : RI n q dn g) (x : Int32) (h : (decide (x = 0) || decide (x = 1)) = true) : Ev (d + 1) 173 0 [.ref 0, .int x, .null, .null, .null, .null, .null, .null, .null] [] (wR g tr) (some (.long (ilt (HGA q (vR n q dn g) (COM q (vR n q dn g))) (COM q (vR n q dn g) * (if nI q < 1 then 1 else nI q).toInt64) x))) (wR g tr) := by
  have hb := hc.b
  rw [← MN_ok hc.w]
  refine Ev.sn e_X9_mean 2 (i' := 2) (ls' := [_, _, _, _, _, _, _, _, _]) (st' := [_, _]) rfl ?_
  refine Ev.put e_X9_mean rfl rfl rfl rfl rfl rfl (w1 := wR g tr) rfl ?_
  refine Ev.sn e_X9_mean 3 (i' := 6) (ls' := [_, _, _, _, _, _, _, _, _]) (st' := [_, _, _]) rfl ?_
  refine Ev.clS e_X9_mean rfl rfl rfl (as := [_, _, _]) rfl rfl rfl rfl rfl (c_X9_in _ _ _ _ _) rfl ?_
  refine Ev.brF (i1 := 8) (i2 := 10) e_X9_mean rfl rfl (bF (by rw [r01]; exact h)) ?_
  refine Ev.sn e_X9_mean 6 (i' := 16) (ls' := [_, _, _, _, _, _, _, _, _]) (st' := []) rfl ?_
  exact lp_X9_mean _ _ _ hc x q 0 0 1 (by omega) (by omega) (by omega) (by omega)
def trF (q c : Nat) : Int32 := if min q c = 0 then -9 else nI (q / Nat.gcd q (min q c))
theorem CHR_N (n : Nat) (v : VW) : ∃ c, c ≤ n ∧ CHR n v = nI c := by
  have k := fo_rel (R := fun p (a : Int32) (_ : Unit) => ∃ c, c ≤ p ∧ a = nI c) (f := fun t a => if v 0 t = 0 then a + 1 else a) (g := fun _ b => b) n 0 0 () ⟨0, by omega, rfl⟩ (fun j a _ _ _ hr => by
    obtain ⟨c, h1, h2⟩ := hr
    show ∃ c, c ≤ j + 1 ∧ (if v 0 j = 0 then a + 1 else a) = nI c
    split
    · exact ⟨c + 1, by omega, by rw [h2, nI_1]⟩
    · exact ⟨c, by omega, h2⟩)
  rw [Nat.zero_add] at k
  exact k
theorem tr_div : ∀ q, q < 6 → ∀ c, c < 6 → nI q / nI c = nI (q / c) := by decide +kernel
theorem TR_ok {n q : Nat} {v : VW} {c : Nat} (hn : n ≤ 6) (hq : q ≤ 5) (hc : c ≤ n) (e : CHR n v = nI c) : (if (if nI q < CHR n v then nI q else CHR n v) = 0 then -9 else (ilt (nI q).toInt64 (if nI q < CHR n v then nI q else CHR n v).toInt64 0).toInt32) = trF q c := by
  have es : (if nI q < CHR n v then nI q else CHR n v) = nI (min q c) := by
    rw [e]
    by_cases h : q < c
    · rw [if_pos (nI_lt h (by omega)), Nat.min_eq_left (by omega)]
    · rw [if_neg (nI_nlt (by omega) (by omega)), Nat.min_eq_right (by omega)]
  rw [es]
  unfold trF
  by_cases h : min q c = 0
  · rw [if_pos h, h]; rfl
  · rw [if_neg h, if_neg (nI_ne0 (by omega) (by omega)), nL_I (by omega), nL_I (by omega), ilt_N (by omega) (by omega) (by omega), nL_toI]
    rfl
set_option maxRecDepth 20000 in
set_option maxHeartbeats 200000 in
theorem lp_X9_turnsOfAll (d : Nat) (g : Nat → Nat → Int32) (tr : Int64) {n q dn : Nat} (hc : RI n q dn g) (r : Option Value) (w2 : AW) : ∀ (j p : Nat) (a : Int32), p + j = n → Ev (d + 1) 174 25 [.ref 0, .int (fo (fun t a => if (vR n q dn g) 0 t = 0 then a + 1 else a) j p a), .null] [] (wR g tr) r w2 → Ev (d + 1) 174 7 [.ref 0, .int a, .int (nI p)] [] (wR g tr) r w2 := by
  intro j
  induction j with
  | zero =>
    intro p a hp K
    have hb := hc.b
    refine Ev.sn e_X9_turnsOfAll 4 (i' := 11) (ls' := [_, _, _]) (st' := [_, _, _]) rfl ?_
    refine Ev.ialdE e_X9_turnsOfAll rfl rfl rfl rfl (m := 0) rfl (by decide) ?_
    refine Ev.brT (i1 := 25) (i2 := 13) e_X9_turnsOfAll rfl rfl (ge_t hc.hn (by omega) (by omega)) ?_
    exact Ev.weak (lle_c (lle_c (lle_n lle_0))) K
  | succ j ih =>
    intro p a hp K
    have hb := hc.b
    refine Ev.sn e_X9_turnsOfAll 4 (i' := 11) (ls' := [_, _, _]) (st' := [_, _, _]) rfl ?_
    refine Ev.ialdE e_X9_turnsOfAll rfl rfl rfl rfl (m := 0) rfl (by decide) ?_
    refine Ev.brF (i1 := 25) (i2 := 13) e_X9_turnsOfAll rfl rfl (ge_f hc.hn (by omega) (by omega)) ?_
    refine Ev.sn e_X9_turnsOfAll 3 (i' := 16) (ls' := [_, _, _]) (st' := [_, _, _]) rfl ?_
    refine Ev.clV e_X9_turnsOfAll rfl rfl (as := [_]) rfl rfl rfl kl_X9_useOf rfl rfl rfl (c_X9_useOf _ _ _ hc (by omega)) rfl ?_
    refine Ev.br (i1 := 18) (i2 := 20) e_X9_turnsOfAll rfl rfl (fun h0 => ?_) (fun h0 => ?_)
    · refine Ev.sn e_X9_turnsOfAll 6 (i' := 7) (ls' := [_, _, _]) (st' := []) rfl ?_
      refine Ev.cg (ih (p + 1) ((fun t a => if (vR n q dn g) 0 t = 0 then a + 1 else a) p a) (by omega) K) ?_
      simp [nI_1, h0]
    · refine Ev.sn e_X9_turnsOfAll 5 (i' := 7) (ls' := [_, _, _]) (st' := []) rfl ?_
      refine Ev.cg (ih (p + 1) ((fun t a => if (vR n q dn g) 0 t = 0 then a + 1 else a) p a) (by omega) K) ?_
      simp [nI_1, h0]
set_option maxRecDepth 20000 in
set_option maxHeartbeats 200000 in
theorem c_X9_turnsOfAll (d : Nat) (g : Nat → Nat → Int32) (tr : Int64) {n q dn : Nat} (hc : RI n q dn g) : Ev (d + 1) 174 0 [.ref 0, .null, .null] [] (wR g tr) (some (.int (if (if nI q < CHR n (vR n q dn g) then nI q else CHR n (vR n q dn g)) = 0 then -9 else (ilt (nI q).toInt64 (if nI q < CHR n (vR n q dn g) then nI q else CHR n (vR n q dn g)).toInt64 0).toInt32))) (wR g tr) := by
  have hb := hc.b
  obtain ⟨c, hc1, hc2⟩ := CHR_N n (vR n q dn g)
  rw [TR_ok hb.1 hb.2.1 hc1 hc2]
  refine Ev.sn e_X9_turnsOfAll 2 (i' := 2) (ls' := [_, _, _]) (st' := [_, _]) rfl ?_
  refine Ev.put e_X9_turnsOfAll rfl rfl rfl rfl rfl rfl (w1 := wR g tr) rfl ?_
  refine Ev.sn e_X9_turnsOfAll 4 (i' := 7) (ls' := [_, _, _]) (st' := []) rfl ?_
  refine lp_X9_turnsOfAll _ _ _ hc _ _ n 0 0 (by omega) ?_
  rw [show fo (fun t a => if (vR n q dn g) 0 t = 0 then a + 1 else a) n 0 0 = CHR n (vR n q dn g) from rfl, hc2]
  refine Ev.sn e_X9_turnsOfAll 1 (i' := 26) (ls' := [_, _, _]) (st' := [_]) rfl ?_
  refine Ev.br (i1 := 32) (i2 := 27) e_X9_turnsOfAll rfl rfl (fun hc0 => ?_) (fun hc0 => ?_)
  · refine Ev.sn e_X9_turnsOfAll 1 (i' := 33) (ls' := [_, _, _]) (st' := [_]) rfl ?_
    refine Ev.iret e_X9_turnsOfAll rfl rfl rfl ?_ rfl
    have : c = 0 := by
      rcases Nat.eq_zero_or_pos c with e | e
      · exact e
      · exact absurd hc0 (nI_ne0 e (by omega))
    rw [trF, if_pos (by omega)]
  · refine Ev.sn e_X9_turnsOfAll 3 (i' := 30) (ls' := [_, _, _]) (st' := [_, _]) rfl ?_
    refine Ev.ialdE e_X9_turnsOfAll rfl rfl rfl rfl (m := 1) rfl (by decide) ?_
    refine Ev.br (i1 := 32) (i2 := 34) e_X9_turnsOfAll rfl rfl (fun hq0 => ?_) (fun hq0 => ?_)
    · refine Ev.sn e_X9_turnsOfAll 1 (i' := 33) (ls' := [_, _, _]) (st' := [_]) rfl ?_
      refine Ev.iret e_X9_turnsOfAll rfl rfl rfl ?_ rfl
      have : q = 0 := by
        rw [hc.hq] at hq0
        rcases Nat.eq_zero_or_pos q with e | e
        · exact e
        · exact absurd hq0 (nI_ne0 e (by omega))
      rw [trF, if_pos (by omega)]
    · refine Ev.sn e_X9_turnsOfAll 4 (i' := 38) (ls' := [_, _, _]) (st' := [_, _, _]) rfl ?_
      refine Ev.ialdE e_X9_turnsOfAll rfl rfl rfl rfl (m := 1) rfl (by decide) ?_
      refine Ev.br (i1 := 45) (i2 := 40) e_X9_turnsOfAll rfl rfl (fun hcmp => ?_) (fun hcmp => ?_)
      · refine Ev.sn e_X9_turnsOfAll 2 (i' := 47) (ls' := [_, _, _]) (st' := []) rfl ?_
        have hc9 : 0 < c := Nat.pos_of_ne_zero (fun e => hc0 (by rw [e]; rfl))
        have hq9 : 0 < q := Nat.pos_of_ne_zero (fun e => hq0 (by rw [hc.hq, e]; rfl))
        have es : min q c = c := by
          rw [hc.hq] at hcmp
          have := nI_leI (a := c) (b := q) (by omega) (by omega)
          have := this.mp hcmp
          omega
        have hg1 : Nat.gcd q c ≤ q := Nat.gcd_le_left _ hq9
        have hg0 : 0 < Nat.gcd q c := Nat.gcd_pos_of_pos_left _ hq9
        have hg : (g 2 1).toInt64 = nL q := by rw [hc.hq, nL_I (by omega)]
        have hcc : (nI c).toInt64 = nL c := nL_I (by omega)
        have hgd : g 2 1 / nI (Nat.gcd q c) = trF q c := by
          rw [hc.hq, tr_div q (by omega) _ (by omega), trF, es, if_neg (by omega)]
        refine Ev.sn e_X9_turnsOfAll 3 (i' := 50) (ls' := [_, _, _]) (st' := [_, _]) rfl ?_
        refine Ev.ialdE e_X9_turnsOfAll rfl rfl rfl rfl (m := 1) rfl (by decide) ?_
        refine Ev.sn e_X9_turnsOfAll 3 (i' := 54) (ls' := [_, _, _]) (st' := [_, _, _]) rfl ?_
        refine Ev.ialdE e_X9_turnsOfAll rfl rfl rfl rfl (m := 1) rfl (by decide) ?_
        refine Ev.sn e_X9_turnsOfAll 3 (i' := 58) (ls' := [_, _, _]) (st' := [_, _, _]) rfl ?_
        refine Ev.clS e_X9_turnsOfAll rfl rfl rfl (as := [_, _]) rfl rfl rfl rfl rfl (by rw [hg, hcc]; exact c_X9_gcd _ _ (by omega) (by omega)) rfl ?_
        refine Ev.sn e_X9_turnsOfAll 1 (i' := 60) (ls' := [_, _, _]) (st' := [_, _]) rfl ?_
        refine Ev.idiv e_X9_turnsOfAll rfl rfl (by rw [nL_toI]; exact nI_ne0 hg0 (by omega)) ?_
        refine Ev.iret e_X9_turnsOfAll rfl rfl rfl ?_ rfl
        rw [nL_toI]
        exact hgd
      · refine Ev.sn e_X9_turnsOfAll 3 (i' := 43) (ls' := [_, _, _]) (st' := [_, _]) rfl ?_
        refine Ev.ialdE e_X9_turnsOfAll rfl rfl rfl rfl (m := 1) rfl (by decide) ?_
        refine Ev.sn e_X9_turnsOfAll 2 (i' := 47) (ls' := [_, _, _]) (st' := []) rfl ?_
        have hc9 : 0 < c := Nat.pos_of_ne_zero (fun e => hc0 (by rw [e]; rfl))
        have hq9 : 0 < q := Nat.pos_of_ne_zero (fun e => hq0 (by rw [hc.hq, e]; rfl))
        have es : min q c = q := by
          rw [hc.hq] at hcmp
          have := nI_leI (a := c) (b := q) (by omega) (by omega)
          have := mt this.mpr hcmp
          omega
        have hg1 : Nat.gcd q q ≤ q := Nat.gcd_le_left _ hq9
        have hg0 : 0 < Nat.gcd q q := Nat.gcd_pos_of_pos_left _ hq9
        have hg : (g 2 1).toInt64 = nL q := by rw [hc.hq, nL_I (by omega)]
        have hcc : (nI c).toInt64 = nL c := nL_I (by omega)
        have hgd : g 2 1 / nI (Nat.gcd q q) = trF q c := by
          rw [hc.hq, tr_div q (by omega) _ (by omega), trF, es, if_neg (by omega)]
        refine Ev.sn e_X9_turnsOfAll 3 (i' := 50) (ls' := [_, _, _]) (st' := [_, _]) rfl ?_
        refine Ev.ialdE e_X9_turnsOfAll rfl rfl rfl rfl (m := 1) rfl (by decide) ?_
        refine Ev.sn e_X9_turnsOfAll 3 (i' := 54) (ls' := [_, _, _]) (st' := [_, _, _]) rfl ?_
        refine Ev.ialdE e_X9_turnsOfAll rfl rfl rfl rfl (m := 1) rfl (by decide) ?_
        refine Ev.sn e_X9_turnsOfAll 3 (i' := 58) (ls' := [_, _, _]) (st' := [_, _, _]) rfl ?_
        refine Ev.clS e_X9_turnsOfAll rfl rfl rfl (as := [_, _]) rfl rfl rfl rfl rfl (by rw [hg]; exact c_X9_gcd _ _ (by omega) (by omega)) rfl ?_
        refine Ev.sn e_X9_turnsOfAll 1 (i' := 60) (ls' := [_, _, _]) (st' := [_, _]) rfl ?_
        refine Ev.idiv e_X9_turnsOfAll rfl rfl (by rw [nL_toI]; exact nI_ne0 hg0 (by omega)) ?_
        refine Ev.iret e_X9_turnsOfAll rfl rfl rfl ?_ rfl
        rw [nL_toI]
        exact hgd
def stIN (v : VW) (p e a : Nat) : Nat := if e = p then a else a * sN v e
def inN (v : VW) (q p : Nat) : Nat := fo (stIN v p) q 0 (zN v p)
theorem inN_ok {n q dn : Nat} {v : VW} (h : WF n q dn v) {p : Nat} (hp : p < q) : inN v q p = zN v p * (cN v q / sN v p) := by
  obtain ⟨-, s1, -⟩ := h.sz hp
  have k := fo_rel (R := fun j (a b : Nat) => if p < j then a * sN v p = zN v p * b else a = zN v p * b) (f := stIN v p) (g := fun p a => a * sN v p) q 0 (zN v p) 1 (by rw [if_neg (by omega)]; omega) (fun j a b h1 h2 hr => by
    show if p < j + 1 then stIN v p j a * sN v p = zN v p * (b * sN v j) else stIN v p j a = zN v p * (b * sN v j)
    unfold stIN
    by_cases e : j = p
    · subst e
      rw [if_neg (by omega)] at hr
      rw [if_pos (by omega), if_pos rfl, hr, Nat.mul_assoc]
    · rw [if_neg e]
      by_cases h3 : p < j
      · rw [if_pos h3] at hr
        rw [if_pos (by omega), show a * sN v j * sN v p = a * sN v p * sN v j by ac_rfl, hr, Nat.mul_assoc]
      · rw [if_neg h3] at hr
        rw [if_neg (by omega), hr, Nat.mul_assoc])
  rw [Nat.zero_add, if_pos hp] at k
  have hs : cN v q / sN v p * sN v p = cN v q := Nat.div_mul_cancel (sN_dvd v q p hp)
  apply Nat.eq_of_mul_eq_mul_right (show 0 < sN v p from s1)
  rw [Nat.mul_assoc, hs]
  exact k
def stSH (v : VW) (q p0 p : Nat) (x : Nat × Nat) : Nat × Nat := (if p = p0 then inN v q p else x.1, x.2 + inN v q p)
theorem SH_ok {n q dn : Nat} {v : VW} (h : WF n q dn v) {p : Nat} (hp : p < q) : HGT v p (COM q v) = nL (fo (stSH v q p) q 0 (0, 0)).1 ∧ HGA q v (COM q v) = nL (fo (stSH v q p) q 0 (0, 0)).2 ∧ ¬ nL (fo (stSH v q p) q 0 (0, 0)).2 = 0 := by
  obtain ⟨c1, c2, c3⟩ := COM_N h
  have c4 := cN_big h
  have k := fo_rel (R := fun j (a : Nat × Nat) (b : Nat) => a.2 = b ∧ (p < j → a.1 = zN v p * (cN v q / sN v p)) ∧ (0 < j → 0 < a.2)) (f := stSH v q p) (g := fun p a => a + zN v p * (cN v q / sN v p)) q 0 (0, 0) 0 ⟨rfl, fun h => by omega, fun h => by omega⟩ (fun j a b h1 h2 hr => by
    obtain ⟨r1, r2, r3⟩ := hr
    have e := inN_ok h (p := j) (by omega)
    obtain ⟨-, s1, -, -, z1, -⟩ := h.sz (p := j) (by omega)
    refine ⟨?_, fun h4 => ?_, fun _ => ?_⟩
    · show a.2 + inN v q j = _
      rw [r1, e]
    · show (if j = p then inN v q j else a.1) = _
      by_cases ej : j = p
      · subst ej
        rw [if_pos rfl, e]
      · rw [if_neg ej]
        exact r2 (by omega)
    · show 0 < a.2 + inN v q j
      have hs := Nat.div_pos (Nat.le_of_dvd c2 (sN_dvd v q j (by omega))) s1
      have := Nat.mul_pos z1 hs
      rw [e]
      omega)
  rw [Nat.zero_add] at k
  obtain ⟨k1, k2, k3⟩ := k
  have k1 : (fo (stSH v q p) q 0 (0, 0)).2 = hgN v (cN v q) q := k1
  have hh := HGA_N h (C := cN v q) (by omega)
  have k4 := k3 (by omega)
  rw [c1, hh.1, HGT_N h hp (by omega), k2 hp, k1]
  rw [k1] at k4
  exact ⟨rfl, rfl, fun e => by have := (nL_0 (by omega)).mp e; omega⟩
set_option maxRecDepth 20000 in
set_option maxHeartbeats 200000 in
theorem c_X9_share_b (d : Nat) (g : Nat → Nat → Int32) (tr : Int64) {n q dn : Nat} (hc : RI n q dn g) (p x : Int32) (h : ((decide (0 ≤ p) && decide (p < nI q)) && (decide (1 ≤ x) && decide (x ≤ 999))) = false) : Ev (d + 2) 175 0 [.ref 0, .int p, .int x, .null, .null, .null, .null, .null, .null, .null, .null] [] (wR g tr) (some (.int (-1))) (wR g tr) := by
  have hb := hc.b
  refine Ev.sn e_X9_share 2 (i' := 2) (ls' := [_, _, _, _, _, _, _, _, _, _, _]) (st' := [_, _]) rfl ?_
  refine Ev.put e_X9_share rfl rfl rfl rfl rfl rfl (w1 := wR g tr) rfl ?_
  refine Ev.sn e_X9_share 2 (i' := 5) (ls' := [_, _, _, _, _, _, _, _, _, _, _]) (st' := [_, _]) rfl ?_
  refine Ev.clV e_X9_share rfl rfl (as := [_]) rfl rfl rfl kl_X9_isPerson rfl rfl rfl (c_X9_isPerson _ _ _ hc _) rfl ?_
  refine Ev.brB (i1 := 12) (i2 := 7) e_X9_share rfl rfl (fun h0 => ?_) (fun h0 => ?_)
  · refine Ev.sn e_X9_share 1 (i' := 13) (ls' := [_, _, _, _, _, _, _, _, _, _, _]) (st' := [_]) rfl ?_
    refine Ev.iret e_X9_share rfl rfl rfl ?_ rfl
    rfl
  · refine Ev.sn e_X9_share 3 (i' := 10) (ls' := [_, _, _, _, _, _, _, _, _, _, _]) (st' := [_, _, _]) rfl ?_
    refine Ev.clS e_X9_share rfl rfl rfl (as := [_, _, _]) rfl rfl rfl rfl rfl (c_X9_in _ _ _ _ _) rfl ?_
    refine Ev.brB (i1 := 12) (i2 := 14) e_X9_share rfl rfl (fun h1 => ?_) (fun h1 => ?_)
    · refine Ev.sn e_X9_share 1 (i' := 13) (ls' := [_, _, _, _, _, _, _, _, _, _, _]) (st' := [_]) rfl ?_
      refine Ev.iret e_X9_share rfl rfl rfl ?_ rfl
      rfl
    · exfalso
      rw [h0, h1] at h
      exact absurd h (by decide)
set_option maxRecDepth 20000 in
set_option maxHeartbeats 200000 in
theorem lq_X9_share (d : Nat) (g : Nat → Nat → Int32) (tr : Int64) {n q dn : Nat} (hc : RI n q dn g) (x : Int32) (p0 a1 a2 : Nat) {p : Nat} (hp : p < q) (r : Option Value) (w2 : AW) : ∀ (j e a : Nat), e + j = q → Ev (d + 2) 175 61 [.ref 0, .int (nI p0), .int x, .long (nL a1), .null, .long (nL a2), .null, .int (nI p), .long (nL (fo (stIN (vR n q dn g) p) j e a)), .null, .null] [] (wR g tr) r w2 → Ev (d + 2) 175 38 [.ref 0, .int (nI p0), .int x, .long (nL a1), .null, .long (nL a2), .null, .int (nI p), .long (nL a), .null, .int (nI e)] [] (wR g tr) r w2 := by
  intro j
  induction j with
  | zero =>
    intro e a he K
    have hb := hc.b
    refine Ev.sn e_X9_share 4 (i' := 42) (ls' := [_, _, _, _, _, _, _, _, _, _, _]) (st' := [_, _, _]) rfl ?_
    refine Ev.ialdE e_X9_share rfl rfl rfl rfl (m := 1) rfl (by decide) ?_
    refine Ev.brT (i1 := 61) (i2 := 44) e_X9_share rfl rfl (ge_t hc.hq (by omega) (by omega)) ?_
    exact Ev.weak (lle_c (lle_c (lle_c (lle_c (lle_n (lle_c (lle_n (lle_c (lle_c (lle_n (lle_n lle_0))))))))))) K
  | succ j ih =>
    intro e a he K
    have hb := hc.b
    obtain ⟨e1, s1, s2, -⟩ := hc.w.sz (p := e) (by omega)
    have hv1 : (vR n q dn g) 4 e = g 7 (12 + e) := cut_lt (f := fun t => g 7 (12 + t)) (by omega)
    have f1 : (g 7 (12 + e)).toInt64 = nL (sN (vR n q dn g) e) := by rw [← hv1, e1]; exact nL_I (by omega)
    have hep := nI_eq (a := e) (b := p) (by omega) (by omega)
    refine Ev.sn e_X9_share 4 (i' := 42) (ls' := [_, _, _, _, _, _, _, _, _, _, _]) (st' := [_, _, _]) rfl ?_
    refine Ev.ialdE e_X9_share rfl rfl rfl rfl (m := 1) rfl (by decide) ?_
    refine Ev.brF (i1 := 61) (i2 := 44) e_X9_share rfl rfl (ge_f hc.hq (by omega) (by omega)) ?_
    refine Ev.sn e_X9_share 3 (i' := 47) (ls' := [_, _, _, _, _, _, _, _, _, _, _]) (st' := [_, _, _]) rfl ?_
    refine Ev.br (i1 := 48) (i2 := 50) e_X9_share rfl rfl (fun hx9 => ?_) (fun hx9 => ?_)
    · refine Ev.sn e_X9_share 6 (i' := 38) (ls' := [_, _, _, _, _, _, _, _, _, _, _]) (st' := []) rfl ?_
      rw [show nL a * 1 = nL (a * 1) from nL_mul a 1, Nat.mul_one, nI_1]
      refine ih (e + 1) a (by omega) (Ev.cg K ?_)
      rw [fo_s, show stIN (vR n q dn g) p e a = a from if_pos (hep.mp hx9)]
    · refine Ev.sn e_X9_share 5 (i' := 55) (ls' := [_, _, _, _, _, _, _, _, _, _, _]) (st' := [_, _, _]) rfl ?_
      refine Ev.ialdE e_X9_share rfl rfl rfl rfl (nI_add 12 e) (by omega) ?_
      refine Ev.sn e_X9_share 5 (i' := 38) (ls' := [_, _, _, _, _, _, _, _, _, _, _]) (st' := []) rfl ?_
      rw [f1, nL_mul, nI_1]
      refine ih (e + 1) _ (by omega) (Ev.cg K ?_)
      rw [fo_s, show stIN (vR n q dn g) p e a = a * sN (vR n q dn g) e from if_neg (fun h => hx9 (hep.mpr h))]
set_option maxRecDepth 20000 in
set_option maxHeartbeats 200000 in
theorem lp_X9_share (d : Nat) (g : Nat → Nat → Int32) (tr : Int64) {n q dn : Nat} (hc : RI n q dn g) (x : Int32) {p0 : Nat} (hp0 : p0 < q) : ∀ (j p a1 a2 : Nat), p + j = q → ¬ nL (fo (stSH (vR n q dn g) q p0) j p (a1, a2)).2 = 0 → Ev (d + 2) 175 20 [.ref 0, .int (nI p0), .int x, .long (nL a1), .null, .long (nL a2), .null, .int (nI p), .null, .null, .null] [] (wR g tr) (some (.int ((x.toInt64 * nL (fo (stSH (vR n q dn g) q p0) j p (a1, a2)).1 / nL (fo (stSH (vR n q dn g) q p0) j p (a1, a2)).2).toInt32))) (wR g tr) := by
  intro j
  induction j with
  | zero =>
    intro p a1 a2 hp hz
    have hb := hc.b
    refine Ev.sn e_X9_share 4 (i' := 24) (ls' := [_, _, _, _, _, _, _, _, _, _, _]) (st' := [_, _, _]) rfl ?_
    refine Ev.ialdE e_X9_share rfl rfl rfl rfl (m := 1) rfl (by decide) ?_
    refine Ev.brT (i1 := 74) (i2 := 26) e_X9_share rfl rfl (ge_t hc.hq (by omega) (by omega)) ?_
    refine Ev.sn e_X9_share 5 (i' := 79) (ls' := [_, _, _, _, _, _, _, _, _, _, _]) (st' := [_, _]) rfl ?_
    refine Ev.ldiv e_X9_share rfl rfl hz ?_
    refine Ev.sn e_X9_share 1 (i' := 81) (ls' := [_, _, _, _, _, _, _, _, _, _, _]) (st' := [_]) rfl ?_
    refine Ev.iret e_X9_share rfl rfl rfl ?_ rfl
    rfl
  | succ j ih =>
    intro p a1 a2 hp hz
    have hb := hc.b
    have hp1 : p < q := by omega
    obtain ⟨e1, s1, s2, e2, z1, z2⟩ := hc.w.sz hp1
    have hv2 : (vR n q dn g) 5 p = g 4 (2 * p + 1) := cut_lt (f := fun t => g 4 (2 * t + 1)) hp1
    have f2 : (g 4 (2 * p + 1)).toInt64 = nL (zN (vR n q dn g) p) := by rw [← hv2, e2]; exact nL_I (by omega)
    have hpp := nI_eq (a := p) (b := p0) (by omega) (by omega)
    rw [fo_s] at hz ⊢
    refine Ev.sn e_X9_share 4 (i' := 24) (ls' := [_, _, _, _, _, _, _, _, _, _, _]) (st' := [_, _, _]) rfl ?_
    refine Ev.ialdE e_X9_share rfl rfl rfl rfl (m := 1) rfl (by decide) ?_
    refine Ev.brF (i1 := 74) (i2 := 26) e_X9_share rfl rfl (ge_f hc.hq (by omega) (by omega)) ?_
    refine Ev.sn e_X9_share 7 (i' := 33) (ls' := [_, _, _, _, _, _, _, _, _, _, _]) (st' := [_, _]) rfl ?_
    refine Ev.ialdE e_X9_share rfl rfl rfl rfl (ixm 2 1 p) (by omega) ?_
    refine Ev.sn e_X9_share 4 (i' := 38) (ls' := [_, _, _, _, _, _, _, _, _, _, _]) (st' := []) rfl ?_
    rw [f2]
    refine lq_X9_share _ _ _ hc x p0 a1 a2 hp1 _ _ q 0 (zN (vR n q dn g) p) (by omega) ?_
    refine Ev.sn e_X9_share 2 (i' := 63) (ls' := [_, _, _, _, _, _, _, _, _, _, _]) (st' := [_, _]) rfl ?_
    refine Ev.br (i1 := 64) (i2 := 66) e_X9_share rfl rfl (fun hx9 => ?_) (fun hx9 => ?_)
    · refine Ev.sn e_X9_share 9 (i' := 20) (ls' := [_, _, _, _, _, _, _, _, _, _, _]) (st' := []) rfl ?_
      rw [show nL (fo (stIN (vR n q dn g) p) q 0 (zN (vR n q dn g) p)) = nL (inN (vR n q dn g) q p) from rfl, nL_add, nI_1]
      have es : stSH (vR n q dn g) q p0 p (a1, a2) = (inN (vR n q dn g) q p, a2 + inN (vR n q dn g) q p) := by
        show (if p = p0 then _ else _, _) = _
        rw [if_pos (hpp.mp hx9)]
      rw [es] at hz ⊢
      exact Ev.weak (lle_c (lle_c (lle_c (lle_c (lle_n (lle_c (lle_n (lle_c (lle_n (lle_n (lle_n lle_0))))))))))) (ih (p + 1) _ _ (by omega) hz)
    · refine Ev.sn e_X9_share 8 (i' := 20) (ls' := [_, _, _, _, _, _, _, _, _, _, _]) (st' := []) rfl ?_
      rw [show nL (fo (stIN (vR n q dn g) p) q 0 (zN (vR n q dn g) p)) = nL (inN (vR n q dn g) q p) from rfl, nL_add, nI_1]
      have es : stSH (vR n q dn g) q p0 p (a1, a2) = (a1, a2 + inN (vR n q dn g) q p) := by
        show (if p = p0 then _ else _, _) = _
        rw [if_neg (fun h => hx9 (hpp.mpr h))]
      rw [es] at hz ⊢
      exact Ev.weak (lle_c (lle_c (lle_c (lle_c (lle_n (lle_c (lle_n (lle_c (lle_n (lle_n (lle_n lle_0))))))))))) (ih (p + 1) _ _ (by omega) hz)
set_option maxRecDepth 20000 in
set_option maxHeartbeats 200000 in
theorem c_X9_share_s (d : Nat) (g : Nat → Nat → Int32) (tr : Int64) {n q dn : Nat} (hc : RI n q dn g) {p : Nat} (hp : p < q) (x : Int32) (h : (decide (1 ≤ x) && decide (x ≤ 999)) = true) : Ev (d + 2) 175 0 [.ref 0, .int (nI p), .int x, .null, .null, .null, .null, .null, .null, .null, .null] [] (wR g tr) (some (.int (if HGA q (vR n q dn g) (COM q (vR n q dn g)) = 0 then 0 else (x.toInt64 * HGT (vR n q dn g) p (COM q (vR n q dn g)) / HGA q (vR n q dn g) (COM q (vR n q dn g))).toInt32))) (wR g tr) := by
  have hb := hc.b
  obtain ⟨k1, k2, k3⟩ := SH_ok hc.w hp
  rw [if_neg (by rw [k2]; exact k3), k1, k2]
  refine Ev.sn e_X9_share 2 (i' := 2) (ls' := [_, _, _, _, _, _, _, _, _, _, _]) (st' := [_, _]) rfl ?_
  refine Ev.put e_X9_share rfl rfl rfl rfl rfl rfl (w1 := wR g tr) rfl ?_
  refine Ev.sn e_X9_share 2 (i' := 5) (ls' := [_, _, _, _, _, _, _, _, _, _, _]) (st' := [_, _]) rfl ?_
  refine Ev.clV e_X9_share rfl rfl (as := [_]) rfl rfl rfl kl_X9_isPerson rfl rfl rfl (c_X9_isPerson _ _ _ hc _) rfl ?_
  refine Ev.brF (i1 := 12) (i2 := 7) e_X9_share rfl rfl (bF (g_ok hp (by omega))) ?_
  refine Ev.sn e_X9_share 3 (i' := 10) (ls' := [_, _, _, _, _, _, _, _, _, _, _]) (st' := [_, _, _]) rfl ?_
  refine Ev.clS e_X9_share rfl rfl rfl (as := [_, _, _]) rfl rfl rfl rfl rfl (c_X9_in _ _ _ _ _) rfl ?_
  refine Ev.brF (i1 := 12) (i2 := 14) e_X9_share rfl rfl (bF h) ?_
  refine Ev.sn e_X9_share 6 (i' := 20) (ls' := [_, _, _, _, _, _, _, _, _, _, _]) (st' := []) rfl ?_
  exact lp_X9_share _ _ _ hc x hp q 0 0 0 (by omega) k3
def stO9 (p : Int32) (hN s : Nat) (a : Int32) : Int32 := a + ch9 (nI hN) s * pw9 p s * pw9 (10 - p) (hN - s)
def O9 (p : Int32) (hN kN : Nat) : Int32 := fo (stO9 p hN) (min hN kN + 1) 0 0
def odB (p h k : Nat) : Bool := decide ((O9 (nI p) h k).toInt64 = nL (O9 (nI p) h k).toNatClampNeg) && decide ((O9 (nI p) h k).toNatClampNeg < 2 ^ 63) && decide ((pw9 10 h).toInt64 = nL (10 ^ h)) && decide (¬ (nL (Nat.gcd (O9 (nI p) h k).toNatClampNeg (10 ^ h))).toInt32 = 0) && decide (O9 (nI p) h k / (nL (Nat.gcd (O9 (nI p) h k).toNatClampNeg (10 ^ h))).toInt32 = S_odds (nI p) h k 0) && decide (pw9 10 h / (nL (Nat.gcd (O9 (nI p) h k).toNatClampNeg (10 ^ h))).toInt32 = S_odds (nI p) h k 1)
theorem odB_ok : ∀ p, p < 11 → ∀ h, h < 7 → ∀ k, k < 7 → odB p h k = true := by decide +kernel
set_option maxRecDepth 20000 in
set_option maxHeartbeats 200000 in
theorem c_X9_odds_b (d : Nat) (g : Nat → Nat → Int32) (tr : Int64) {n q dn : Nat} (hc : RI n q dn g) (p k x : Int32) (h : ((decide (0 ≤ p) && decide (p ≤ 10)) && ((decide (0 ≤ k) && decide (k ≤ 6)) && (decide (x = 0) || decide (x = 1)))) = false) : Ev (d + 5) 178 0 [.ref 0, .int p, .int k, .int x, .null, .null, .null, .null] [] (wR g tr) (some (.int (-1))) (wR g tr) := by
  have hb := hc.b
  refine Ev.sn e_X9_odds 2 (i' := 2) (ls' := [_, _, _, _, _, _, _, _]) (st' := [_, _]) rfl ?_
  refine Ev.put e_X9_odds rfl rfl rfl rfl rfl rfl (w1 := wR g tr) rfl ?_
  refine Ev.sn e_X9_odds 3 (i' := 6) (ls' := [_, _, _, _, _, _, _, _]) (st' := [_, _, _]) rfl ?_
  refine Ev.clS e_X9_odds rfl rfl rfl (as := [_, _, _]) rfl rfl rfl rfl rfl (c_X9_in _ _ _ _ _) rfl ?_
  refine Ev.brB (i1 := 18) (i2 := 8) e_X9_odds rfl rfl (fun h0 => ?_) (fun h0 => ?_)
  · refine Ev.sn e_X9_odds 1 (i' := 19) (ls' := [_, _, _, _, _, _, _, _]) (st' := [_]) rfl ?_
    refine Ev.iret e_X9_odds rfl rfl rfl ?_ rfl
    rfl
  · refine Ev.sn e_X9_odds 3 (i' := 11) (ls' := [_, _, _, _, _, _, _, _]) (st' := [_, _, _]) rfl ?_
    refine Ev.clS e_X9_odds rfl rfl rfl (as := [_, _, _]) rfl rfl rfl rfl rfl (c_X9_in _ _ _ _ _) rfl ?_
    refine Ev.brB (i1 := 18) (i2 := 13) e_X9_odds rfl rfl (fun h1 => ?_) (fun h1 => ?_)
    · refine Ev.sn e_X9_odds 1 (i' := 19) (ls' := [_, _, _, _, _, _, _, _]) (st' := [_]) rfl ?_
      refine Ev.iret e_X9_odds rfl rfl rfl ?_ rfl
      rfl
    · refine Ev.sn e_X9_odds 3 (i' := 16) (ls' := [_, _, _, _, _, _, _, _]) (st' := [_, _, _]) rfl ?_
      refine Ev.clS e_X9_odds rfl rfl rfl (as := [_, _, _]) rfl rfl rfl rfl rfl (c_X9_in _ _ _ _ _) rfl ?_
      refine Ev.brB (i1 := 18) (i2 := 20) e_X9_odds rfl rfl (fun h2 => ?_) (fun h2 => ?_)
      · refine Ev.sn e_X9_odds 1 (i' := 19) (ls' := [_, _, _, _, _, _, _, _]) (st' := [_]) rfl ?_
        refine Ev.iret e_X9_odds rfl rfl rfl ?_ rfl
        rfl
      · exfalso
        rw [r01] at h2
        rw [h0, h1, h2] at h
        exact absurd h (by decide)
set_option maxRecDepth 20000 in
set_option maxHeartbeats 200000 in
theorem lp_X9_odds (d : Nat) (g : Nat → Nat → Int32) (tr : Int64) (x : Int32) {p hN kN : Nat} (hp : p < 11) (hh : hN < 7) (hk : kN < 7) (hx : x = 0 ∨ x = 1) : ∀ (j s : Nat) (a : Int32), s + j = min hN kN + 1 → fo (stO9 (nI p) hN) j s a = O9 (nI p) hN kN → Ev (d + 5) 178 28 [.ref 0, .int (nI p), .int (nI kN), .int x, .int (nI hN), .int a, .int (nI s), .null] [] (wR g tr) (some (.int (S_odds (nI p) hN kN x))) (wR g tr) := by
  intro j
  induction j with
  | zero =>
    intro s a hs ho
    have ho : a = O9 (nI p) hN kN := ho
    have hod := odB_ok p hp hN hh kN hk
    simp only [odB, Bool.and_eq_true, decide_eq_true_eq] at hod
    obtain ⟨⟨⟨⟨⟨d1, d2⟩, d3⟩, d4⟩, d5⟩, d6⟩ := hod
    have d7 : 10 ^ hN < 2 ^ 63 := Nat.lt_of_le_of_lt (Nat.pow_le_pow_right (by decide) (show hN ≤ 6 by omega)) (by decide)
    rw [ho]
    refine Ev.sn e_X9_odds 2 (i' := 30) (ls' := [_, _, _, _, _, _, _, _]) (st' := [_, _]) rfl ?_
    refine Ev.br (i1 := 54) (i2 := 31) e_X9_odds rfl rfl (fun hy => ?_) (fun hy => ?_)
    · refine Ev.sn e_X9_odds 2 (i' := 56) (ls' := [_, _, _, _, _, _, _, _]) (st' := [_, _]) rfl ?_
      refine Ev.clS e_X9_odds rfl rfl rfl (as := [_, _]) rfl rfl rfl rfl rfl (c_X9_power _ _ _ (by omega)) rfl ?_
      refine Ev.sn e_X9_odds 5 (i' := 62) (ls' := [_, _, _, _, _, _, _, _]) (st' := [_, _]) rfl ?_
      refine Ev.clS e_X9_odds rfl rfl rfl (as := [_, _]) rfl rfl rfl rfl rfl (by rw [d1, d3]; exact c_X9_gcd _ _ d2 d7) rfl ?_
      refine Ev.sn e_X9_odds 3 (i' := 66) (ls' := [_, _, _, _, _, _, _, _]) (st' := [_]) rfl ?_
      refine Ev.br (i1 := 67) (i2 := 71) e_X9_odds rfl rfl (fun hx9 => ?_) (fun hx9 => ?_)
      · refine Ev.sn e_X9_odds 2 (i' := 69) (ls' := [_, _, _, _, _, _, _, _]) (st' := [_, _]) rfl ?_
        refine Ev.idiv e_X9_odds rfl rfl d4 ?_
        refine Ev.sn e_X9_odds 1 (i' := 74) (ls' := [_, _, _, _, _, _, _, _]) (st' := [_]) rfl ?_
        refine Ev.iret e_X9_odds rfl rfl rfl ?_ rfl
        rw [hx9]
        exact d5
      · refine Ev.sn e_X9_odds 2 (i' := 73) (ls' := [_, _, _, _, _, _, _, _]) (st' := [_, _]) rfl ?_
        refine Ev.idiv e_X9_odds rfl rfl d4 ?_
        refine Ev.iret e_X9_odds rfl rfl rfl ?_ rfl
        rw [hx.resolve_left hx9]
        exact d6
    · refine Ev.sn e_X9_odds 2 (i' := 33) (ls' := [_, _, _, _, _, _, _, _]) (st' := [_, _]) rfl ?_
      refine Ev.brT (i1 := 54) (i2 := 34) e_X9_odds rfl rfl ((by
          have := nI_ltI (a := hN) (b := s) (by omega) (by omega)
          exact nI_lt (by have h9 := mt this.mpr hy; omega) (by omega))) ?_
      refine Ev.sn e_X9_odds 2 (i' := 56) (ls' := [_, _, _, _, _, _, _, _]) (st' := [_, _]) rfl ?_
      refine Ev.clS e_X9_odds rfl rfl rfl (as := [_, _]) rfl rfl rfl rfl rfl (c_X9_power _ _ _ (by omega)) rfl ?_
      refine Ev.sn e_X9_odds 5 (i' := 62) (ls' := [_, _, _, _, _, _, _, _]) (st' := [_, _]) rfl ?_
      refine Ev.clS e_X9_odds rfl rfl rfl (as := [_, _]) rfl rfl rfl rfl rfl (by rw [d1, d3]; exact c_X9_gcd _ _ d2 d7) rfl ?_
      refine Ev.sn e_X9_odds 3 (i' := 66) (ls' := [_, _, _, _, _, _, _, _]) (st' := [_]) rfl ?_
      refine Ev.br (i1 := 67) (i2 := 71) e_X9_odds rfl rfl (fun hx9 => ?_) (fun hx9 => ?_)
      · refine Ev.sn e_X9_odds 2 (i' := 69) (ls' := [_, _, _, _, _, _, _, _]) (st' := [_, _]) rfl ?_
        refine Ev.idiv e_X9_odds rfl rfl d4 ?_
        refine Ev.sn e_X9_odds 1 (i' := 74) (ls' := [_, _, _, _, _, _, _, _]) (st' := [_]) rfl ?_
        refine Ev.iret e_X9_odds rfl rfl rfl ?_ rfl
        rw [hx9]
        exact d5
      · refine Ev.sn e_X9_odds 2 (i' := 73) (ls' := [_, _, _, _, _, _, _, _]) (st' := [_, _]) rfl ?_
        refine Ev.idiv e_X9_odds rfl rfl d4 ?_
        refine Ev.iret e_X9_odds rfl rfl rfl ?_ rfl
        rw [hx.resolve_left hx9]
        exact d6
  | succ j ih =>
    intro s a hs ho
    rw [fo_s] at ho
    refine Ev.sn e_X9_odds 2 (i' := 30) (ls' := [_, _, _, _, _, _, _, _]) (st' := [_, _]) rfl ?_
    refine Ev.brF (i1 := 54) (i2 := 31) e_X9_odds rfl rfl (nI_nlt (by omega) (by omega)) ?_
    refine Ev.sn e_X9_odds 2 (i' := 33) (ls' := [_, _, _, _, _, _, _, _]) (st' := [_, _]) rfl ?_
    refine Ev.brF (i1 := 54) (i2 := 34) e_X9_odds rfl rfl (nI_nlt (by omega) (by omega)) ?_
    refine Ev.sn e_X9_odds 3 (i' := 37) (ls' := [_, _, _, _, _, _, _, _]) (st' := [_, _, _]) rfl ?_
    refine Ev.clS e_X9_odds rfl rfl rfl (as := [_, _]) rfl rfl rfl rfl rfl (c_X9_choose _ _ _ (by omega)) rfl ?_
    refine Ev.sn e_X9_odds 2 (i' := 40) (ls' := [_, _, _, _, _, _, _, _]) (st' := [_, _, _, _]) rfl ?_
    refine Ev.clS e_X9_odds rfl rfl rfl (as := [_, _]) rfl rfl rfl rfl rfl (c_X9_power _ _ _ (by omega)) rfl ?_
    refine Ev.sn e_X9_odds 7 (i' := 48) (ls' := [_, _, _, _, _, _, _, _]) (st' := [_, _, _, _]) rfl ?_
    refine Ev.clS e_X9_odds rfl rfl rfl (as := [_, _]) rfl rfl rfl rfl rfl (by rw [pk_sub (show s ≤ hN by omega)]; exact c_X9_power _ _ _ (by omega)) rfl ?_
    refine Ev.sn e_X9_odds 5 (i' := 28) (ls' := [_, _, _, _, _, _, _, _]) (st' := []) rfl ?_
    rw [nI_1]
    exact ih (s + 1) _ (by omega) ho
set_option maxRecDepth 20000 in
set_option maxHeartbeats 200000 in
theorem c_X9_odds_s (d : Nat) (g : Nat → Nat → Int32) (tr : Int64) {n q dn : Nat} (hc : RI n q dn g) {p kN hN : Nat} (x : Int32) (hp : p ≤ 10) (hk : kN ≤ 6) (hh : hN ≤ 6) (hx : (decide (x = 0) || decide (x = 1)) = true) (hu : ONE (ULS n q (vR n q dn g)) = nI hN) : Ev (d + 5) 178 0 [.ref 0, .int (nI p), .int (nI kN), .int x, .null, .null, .null, .null] [] (wR g tr) (some (.int (S_odds (nI p) hN kN x))) (wR g tr) := by
  have hb := hc.b
  refine Ev.sn e_X9_odds 2 (i' := 2) (ls' := [_, _, _, _, _, _, _, _]) (st' := [_, _]) rfl ?_
  refine Ev.put e_X9_odds rfl rfl rfl rfl rfl rfl (w1 := wR g tr) rfl ?_
  refine Ev.sn e_X9_odds 3 (i' := 6) (ls' := [_, _, _, _, _, _, _, _]) (st' := [_, _, _]) rfl ?_
  refine Ev.clS e_X9_odds rfl rfl rfl (as := [_, _, _]) rfl rfl rfl rfl rfl (c_X9_in _ _ _ _ _) rfl ?_
  refine Ev.brF (i1 := 18) (i2 := 8) e_X9_odds rfl rfl (bF (by simp; exact ⟨nI_pos' (by omega), nI_le (b := 10) (by omega) (by omega)⟩)) ?_
  refine Ev.sn e_X9_odds 3 (i' := 11) (ls' := [_, _, _, _, _, _, _, _]) (st' := [_, _, _]) rfl ?_
  refine Ev.clS e_X9_odds rfl rfl rfl (as := [_, _, _]) rfl rfl rfl rfl rfl (c_X9_in _ _ _ _ _) rfl ?_
  refine Ev.brF (i1 := 18) (i2 := 13) e_X9_odds rfl rfl (bF (by simp; exact ⟨nI_pos' (by omega), nI_le (b := 6) (by omega) (by omega)⟩)) ?_
  refine Ev.sn e_X9_odds 3 (i' := 16) (ls' := [_, _, _, _, _, _, _, _]) (st' := [_, _, _]) rfl ?_
  refine Ev.clS e_X9_odds rfl rfl rfl (as := [_, _, _]) rfl rfl rfl rfl rfl (c_X9_in _ _ _ _ _) rfl ?_
  refine Ev.brF (i1 := 18) (i2 := 20) e_X9_odds rfl rfl (bF (by rw [r01]; exact hx)) ?_
  refine Ev.sn e_X9_odds 1 (i' := 21) (ls' := [_, _, _, _, _, _, _, _]) (st' := [_]) rfl ?_
  refine Ev.clV e_X9_odds rfl rfl (as := []) rfl rfl rfl kl_X9_useless rfl rfl rfl (c_X9_useless _ _ _ hc) rfl ?_
  refine Ev.clS e_X9_odds rfl rfl rfl (as := [_]) rfl rfl rfl rfl rfl (c_X9_ones _ _ _) rfl ?_
  refine Ev.sn e_X9_odds 5 (i' := 28) (ls' := [_, _, _, _, _, _, _, _]) (st' := []) rfl ?_
  rw [hu]
  exact lp_X9_odds _ _ _ _ (by omega) (by omega) (by omega) (by simpa using hx) (min hN kN + 1) 0 0 (by omega) rfl
