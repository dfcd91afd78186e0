/-! the text: the reference takes its tokens -/
def wT (g : RG) (tr : Int64) (t0 : Nat → Int32) (s : TS) : AW := wR (va_up g 0 (tS (nI s.1) s.2.1 (nI s.2.2.1) s.2.2.2.1 s.2.2.2.2 t0)) tr
def lAt (f : Nat → Int32) (k i : Nat) : Int32 := if i < k then f i else -1
def dgR (f : Nat → Int32) : Nat → Nat → Int32 → Nat × Int32
  | 0, i, v => (i, v)
  | j + 1, i, v => if digB (f i) = true then dgR f j (i + 1) (if v ≤ 99 then 10 * v + f i - 48 else v) else (i, v)
theorem dgR_le (f : Nat → Int32) : ∀ j i v, i ≤ (dgR f j i v).1 ∧ (dgR f j i v).1 ≤ i + j
  | 0, i, v => by simp [dgR]
  | j + 1, i, v => by
    have := dgR_le f j (i + 1) (if v ≤ 99 then 10 * v + f i - 48 else v)
    unfold dgR
    split
    · omega
    · simp
def tkE (c : Int32) (l : Nat) (v : Int32) : Int32 := if 99 < v ∨ (c = 48 ∧ 1 < l) then 4 else 2
def knd (c : Int32) : Int32 := if c = 59 then 3 else if c = 107 ∨ c = 116 ∨ c = 112 ∨ c = 100 then 1 else 4
def tkG (f : Nat → Int32) (k i : Nat) (vl : Int32) : Nat × Int32 × Nat × Int32 := if k ≤ skp f (k - i) i then (skp f (k - i) i, 0, skp f (k - i) i, vl) else if digB (f (skp f (k - i) i)) = true then ((dgR f (k - skp f (k - i) i) (skp f (k - i) i) 0).1, tkE (f (skp f (k - i) i)) ((dgR f (k - skp f (k - i) i) (skp f (k - i) i) 0).1 - skp f (k - i) i) (dgR f (k - skp f (k - i) i) (skp f (k - i) i) 0).2, skp f (k - i) i, (dgR f (k - skp f (k - i) i) (skp f (k - i) i) 0).2) else (skp f (k - i) i + 1, knd (f (skp f (k - i) i)), skp f (k - i) i, f (skp f (k - i) i))
set_option maxRecDepth 20000 in
set_option maxHeartbeats 200000 in
theorem c_X9_letterAt (d : Nat) (g : RG) (tr : Int64) {k : Nat} (hk0 : g 0 0 = nI k) (hk : k ≤ 200) {i : Nat} (hi : i ≤ k) : Ev d 124 0 [.ref 0, .int (nI i)] [] (wR g tr) (some (.int (lAt (g 1) k i))) (wR g tr) := by
  refine Ev.sn e_X9_letterAt 3 (i' := 3) (ls' := [_, _]) (st' := [_, _]) rfl ?_
  refine Ev.br (i1 := 9) (i2 := 4) e_X9_letterAt rfl rfl (fun h0 => ?_) (fun h0 => ?_)
  · have h1 : ¬ i < k := fun h => absurd h0 (by rw [hk0]; exact nI_ge h (by omega))
    refine Ev.sn e_X9_letterAt 1 (i' := 10) (ls' := [_, _]) (st' := [_]) rfl ?_
    refine Ev.iret e_X9_letterAt rfl rfl rfl ?_ rfl
    exact (if_neg h1).symm
  · have h1 : i < k := Nat.lt_of_not_le (fun h => h0 (by rw [hk0]; exact nI_le h (by omega)))
    refine Ev.sn e_X9_letterAt 3 (i' := 7) (ls' := [_, _]) (st' := [_, _]) rfl ?_
    refine Ev.ialdE e_X9_letterAt rfl rfl rfl rfl (m := i) rfl (by omega) ?_
    refine Ev.sn e_X9_letterAt 1 (i' := 10) (ls' := [_, _]) (st' := [_]) rfl ?_
    refine Ev.iret e_X9_letterAt rfl rfl rfl ?_ rfl
    exact (if_pos h1).symm
set_option maxRecDepth 20000 in
set_option maxHeartbeats 200000 in
theorem lp_X9_advances (d : Nat) (g : RG) (tr : Int64) (t0 : Nat → Int32) {k : Nat} (ht : t0 0 = nI k) (hk : k ≤ 200) (tk pl vl fl : Int32) (r : Option Value) (w2 : AW) : ∀ (j i : Nat), i + j = k → Ev (d + 1) 125 13 [.ref 0, .null] [] (wR (va_up g 0 (tS (nI (skp (g 1) j i)) (tk) (pl) (vl) (fl) t0)) tr) r w2 → Ev (d + 1) 125 0 [.ref 0, .null] [] (wR (va_up g 0 (tS (nI i) (tk) (pl) (vl) (fl) t0)) tr) r w2 := by
  intro j
  induction j with
  | zero =>
    intro i hi K
    refine Ev.sn e_X9_advances 3 (i' := 3) (ls' := [_, _]) (st' := [_, _]) rfl ?_
    refine Ev.clV e_X9_advances rfl rfl (as := [_]) rfl rfl rfl kl_X9_letterAt rfl rfl rfl (c_X9_letterAt _ _ _ ht hk (i := i) (by omega)) rfl ?_
    refine Ev.sn e_X9_advances 1 (i' := 5) (ls' := [_, _]) (st' := [_, _]) rfl ?_
    refine Ev.brF (i1 := 6) (i2 := 13) e_X9_advances rfl rfl ((by rw [show lAt (va_up g 0 (tS (nI i) tk pl vl fl t0) 1) k i = -1 from if_neg (by omega)]; decide)) ?_
    exact K
  | succ j ih =>
    intro i hi K
    have el : lAt (g 1) k i = g 1 i := if_pos (by omega)
    unfold skp at K
    refine Ev.sn e_X9_advances 3 (i' := 3) (ls' := [_, _]) (st' := [_, _]) rfl ?_
    refine Ev.clV e_X9_advances rfl rfl (as := [_]) rfl rfl rfl kl_X9_letterAt rfl rfl rfl (c_X9_letterAt _ _ _ ht hk (i := i) (by omega)) rfl ?_
    refine Ev.sn e_X9_advances 1 (i' := 5) (ls' := [_, _]) (st' := [_, _]) rfl ?_
    refine Ev.br (i1 := 6) (i2 := 13) e_X9_advances rfl rfl (fun hs => ?_) (fun hs => ?_)
    · refine Ev.sn e_X9_advances 5 (i' := 11) (ls' := [_, _]) (st' := [_, _]) rfl ?_
      refine Ev.put e_X9_advances rfl rfl rfl rfl rfl rfl (w1 := (wR (va_up g 0 (tS (nI i + 1) (tk) (pl) (vl) (fl) t0)) tr)) rfl ?_
      refine Ev.sn e_X9_advances 1 (i' := 0) (ls' := [_, _]) (st' := []) rfl ?_
      rw [if_pos (show g 1 i = 32 by rw [← el]; exact hs)] at K
      rw [nI_1]
      exact ih (i + 1) (by omega) K
    · rw [if_neg (show ¬ g 1 i = 32 by rw [← el]; exact hs)] at K
      exact K
set_option maxRecDepth 20000 in
set_option maxHeartbeats 200000 in
theorem lq_X9_advances (d : Nat) (g : RG) (tr : Int64) (t0 : Nat → Int32) {k : Nat} (ht : t0 0 = nI k) (hk : k ≤ 200) (c tk pl fl : Int32) (r : Option Value) (w2 : AW) : ∀ (j i : Nat) (v : Int32), i + j = k → Ev (d + 1) 125 71 [.ref 0, .int c] [] (wR (va_up g 0 (tS (nI (dgR (g 1) j i v).1) (tk) (pl) ((dgR (g 1) j i v).2) (fl) t0)) tr) r w2 → Ev (d + 1) 125 36 [.ref 0, .int c] [] (wR (va_up g 0 (tS (nI i) (tk) (pl) (v) (fl) t0)) tr) r w2 := by
  intro j
  induction j with
  | zero =>
    intro i v hi K
    refine Ev.sn e_X9_advances 3 (i' := 39) (ls' := [_, _]) (st' := [_, _]) rfl ?_
    refine Ev.clV e_X9_advances rfl rfl (as := [_]) rfl rfl rfl kl_X9_letterAt rfl rfl rfl (c_X9_letterAt _ _ _ ht hk (i := i) (by omega)) rfl ?_
    refine Ev.sn e_X9_advances 2 (i' := 42) (ls' := [_, _]) (st' := [_, _, _]) rfl ?_
    refine Ev.clS e_X9_advances rfl rfl rfl (as := [_, _, _]) rfl rfl rfl rfl rfl (c_X9_in _ _ _ _ _) rfl ?_
    refine Ev.brT (i1 := 71) (i2 := 44) e_X9_advances rfl rfl ((by rw [show lAt (va_up g 0 (tS (nI i) tk pl v fl t0) 1) k i = -1 from if_neg (by omega)]; decide)) ?_
    exact K
  | succ j ih =>
    intro i v hi K
    have el : lAt (g 1) k i = g 1 i := if_pos (by omega)
    unfold dgR at K
    refine Ev.sn e_X9_advances 3 (i' := 39) (ls' := [_, _]) (st' := [_, _]) rfl ?_
    refine Ev.clV e_X9_advances rfl rfl (as := [_]) rfl rfl rfl kl_X9_letterAt rfl rfl rfl (c_X9_letterAt _ _ _ ht hk (i := i) (by omega)) rfl ?_
    refine Ev.sn e_X9_advances 2 (i' := 42) (ls' := [_, _]) (st' := [_, _, _]) rfl ?_
    refine Ev.clS e_X9_advances rfl rfl rfl (as := [_, _, _]) rfl rfl rfl rfl rfl (c_X9_in _ _ _ _ _) rfl ?_
    refine Ev.brB (i1 := 71) (i2 := 44) e_X9_advances rfl rfl (fun hd => ?_) (fun hd => ?_)
    · have hd2 : digB (g 1 i) = false := by rw [← el]; exact hd
      rw [if_neg (by rw [hd2]; decide)] at K
      exact K
    · have hd2 : digB (g 1 i) = true := by rw [← el]; exact hd
      rw [if_pos hd2] at K
      refine Ev.sn e_X9_advances 4 (i' := 48) (ls' := [_, _]) (st' := [_, _, _]) rfl ?_
      refine Ev.br (i1 := 52) (i2 := 49) e_X9_advances rfl rfl (fun hv => ?_) (fun hv => ?_)
      · refine Ev.sn e_X9_advances 7 (i' := 59) (ls' := [_, _]) (st' := [_, _, _, _]) rfl ?_
        refine Ev.clV e_X9_advances rfl rfl (as := [_]) rfl rfl rfl kl_X9_letterAt rfl rfl rfl (c_X9_letterAt _ _ _ ht hk (i := i) (by omega)) rfl ?_
        refine Ev.sn e_X9_advances 3 (i' := 63) (ls' := [_, _]) (st' := [_, _]) rfl ?_
        rw [show lAt (va_up g 0 (tS (nI i) tk pl v fl t0) 1) k i = g 1 i from el, show va_up g 0 (tS (nI i) tk pl v fl t0) 0 4 = v from rfl]
        refine Ev.put e_X9_advances rfl rfl rfl rfl rfl rfl (w1 := (wR (va_up g 0 (tS (nI i) (tk) (pl) (10 * v + g 1 i - 48) (fl) t0)) tr)) rfl ?_
        refine Ev.sn e_X9_advances 5 (i' := 69) (ls' := [_, _]) (st' := [_, _]) rfl ?_
        refine Ev.put e_X9_advances rfl rfl rfl rfl rfl rfl (w1 := (wR (va_up g 0 (tS (nI i + 1) (tk) (pl) (10 * v + g 1 i - 48) (fl) t0)) tr)) rfl ?_
        refine Ev.sn e_X9_advances 1 (i' := 36) (ls' := [_, _]) (st' := []) rfl ?_
        rw [if_pos (show v ≤ 99 from hv)] at K
        rw [nI_1]
        exact ih (i + 1) _ (by omega) K
      · refine Ev.sn e_X9_advances 3 (i' := 63) (ls' := [_, _]) (st' := [_, _]) rfl ?_
        skip
        refine Ev.put e_X9_advances rfl rfl rfl rfl rfl rfl (w1 := (wR (va_up g 0 (tS (nI i) (tk) (pl) (v) (fl) t0)) tr)) rfl ?_
        refine Ev.sn e_X9_advances 5 (i' := 69) (ls' := [_, _]) (st' := [_, _]) rfl ?_
        refine Ev.put e_X9_advances rfl rfl rfl rfl rfl rfl (w1 := (wR (va_up g 0 (tS (nI i + 1) (tk) (pl) (v) (fl) t0)) tr)) rfl ?_
        refine Ev.sn e_X9_advances 1 (i' := 36) (ls' := [_, _]) (st' := []) rfl ?_
        rw [if_neg (show ¬ v ≤ 99 from hv)] at K
        rw [nI_1]
        exact ih (i + 1) _ (by omega) K
set_option maxRecDepth 20000 in
set_option maxHeartbeats 200000 in
theorem c_X9_advances (d : Nat) (g : RG) (tr : Int64) (t0 : Nat → Int32) {k : Nat} (ht : t0 0 = nI k) (hk : k ≤ 200) (hl : ∀ i, i < k → ∃ m, m < 256 ∧ g 1 i = nI m) {i : Nat} (hi : i ≤ k) (tk pl vl fl : Int32) : Ev (d + 1) 125 0 [.ref 0, .null] [] (wR (va_up g 0 (tS (nI i) (tk) (pl) (vl) (fl) t0)) tr) none (wR (va_up g 0 (tS (nI (tkG (g 1) k i vl).1) ((tkG (g 1) k i vl).2.1) (nI (tkG (g 1) k i vl).2.2.1) ((tkG (g 1) k i vl).2.2.2) (fl) t0)) tr) := by
  have hs := skp_le (g 1) (k - i) i
  refine lp_X9_advances _ _ _ _ ht hk _ _ _ _ _ _ (k - i) i (by omega) ?_
  unfold tkG
  obtain ⟨n, en⟩ : ∃ x, skp (g 1) (k - i) i = x := ⟨_, rfl⟩
  rw [en] at hs ⊢
  by_cases hn : n < k
  · rw [if_neg (show ¬ k ≤ n by omega)]
    obtain ⟨c, hc1, hc2⟩ := hl n hn
    have hd0 := dgR_le (g 1) (k - n) n 0
    refine Ev.sn e_X9_advances 3 (i' := 16) (ls' := [_, _]) (st' := [_, _]) rfl ?_
    refine Ev.put e_X9_advances rfl rfl rfl rfl rfl rfl (w1 := (wR (va_up g 0 (tS (nI n) (tk) (nI n) (vl) (fl) t0)) tr)) rfl ?_
    refine Ev.sn e_X9_advances 3 (i' := 20) (ls' := [_, _]) (st' := [_, _]) rfl ?_
    refine Ev.clV e_X9_advances rfl rfl (as := [_]) rfl rfl rfl kl_X9_letterAt rfl rfl rfl (c_X9_letterAt _ _ _ ht hk (i := n) (by omega)) rfl ?_
    rw [show lAt (va_up g 0 (tS (nI n) tk (nI n) vl fl t0) 1) k n = g 1 n from if_pos hn]
    refine Ev.sn e_X9_advances 2 (i' := 23) (ls' := [_, _]) (st' := [_]) rfl ?_
    refine Ev.brT (i1 := 28) (i2 := 24) e_X9_advances rfl rfl ((by rw [hc2]; exact nI_pos' (by omega))) ?_
    refine Ev.sn e_X9_advances 3 (i' := 31) (ls' := [_, _]) (st' := [_, _, _]) rfl ?_
    refine Ev.clS e_X9_advances rfl rfl rfl (as := [_, _, _]) rfl rfl rfl rfl rfl (c_X9_in _ _ _ _ _) rfl ?_
    refine Ev.brB (i1 := 91) (i2 := 33) e_X9_advances rfl rfl (fun hd => ?_) (fun hd => ?_)
    · have hd2 : digB (g 1 n) = false := hd
      rw [if_neg (show ¬ digB (g 1 n) = true by rw [hd2]; decide)]
      refine Ev.sn e_X9_advances 5 (i' := 96) (ls' := [_, _]) (st' := [_, _]) rfl ?_
      refine Ev.put e_X9_advances rfl rfl rfl rfl rfl rfl (w1 := (wR (va_up g 0 (tS (nI n + 1) (tk) (nI n) (vl) (fl) t0)) tr)) rfl ?_
      refine Ev.sn e_X9_advances 2 (i' := 99) (ls' := [_, _]) (st' := [_, _]) rfl ?_
      refine Ev.put e_X9_advances rfl rfl rfl rfl rfl rfl (w1 := (wR (va_up g 0 (tS (nI n + 1) (tk) (nI n) (g 1 n) (fl) t0)) tr)) rfl ?_
      refine Ev.sn e_X9_advances 3 (i' := 103) (ls' := [_, _]) (st' := [_, _, _]) rfl ?_
      refine Ev.br (i1 := 104) (i2 := 106) e_X9_advances rfl rfl (fun k59 => ?_) (fun k59 => ?_)
      · refine Ev.sn e_X9_advances 2 (i' := 121) (ls' := [_, _]) (st' := [_, _]) rfl ?_
        refine Ev.put e_X9_advances rfl rfl rfl rfl rfl rfl (w1 := (wR (va_up g 0 (tS (nI n + 1) (3) (nI n) (g 1 n) (fl) t0)) tr)) rfl ?_
        have hk9 : knd (g 1 n) = 3 := by
          unfold knd
          rw [if_pos k59]
        exact Ev.vret e_X9_advances rfl rfl (by rw [hk9, nI_1])
      · refine Ev.sn e_X9_advances 2 (i' := 108) (ls' := [_, _]) (st' := [_, _, _]) rfl ?_
        refine Ev.br (i1 := 118) (i2 := 109) e_X9_advances rfl rfl (fun k107 => ?_) (fun k107 => ?_)
        · refine Ev.sn e_X9_advances 2 (i' := 121) (ls' := [_, _]) (st' := [_, _]) rfl ?_
          refine Ev.put e_X9_advances rfl rfl rfl rfl rfl rfl (w1 := (wR (va_up g 0 (tS (nI n + 1) (1) (nI n) (g 1 n) (fl) t0)) tr)) rfl ?_
          have hk9 : knd (g 1 n) = 1 := by
            unfold knd
            rw [if_neg k59, if_pos (Or.inl k107)]
          exact Ev.vret e_X9_advances rfl rfl (by rw [hk9, nI_1])
        · refine Ev.sn e_X9_advances 2 (i' := 111) (ls' := [_, _]) (st' := [_, _, _]) rfl ?_
          refine Ev.br (i1 := 118) (i2 := 112) e_X9_advances rfl rfl (fun k116 => ?_) (fun k116 => ?_)
          · refine Ev.sn e_X9_advances 2 (i' := 121) (ls' := [_, _]) (st' := [_, _]) rfl ?_
            refine Ev.put e_X9_advances rfl rfl rfl rfl rfl rfl (w1 := (wR (va_up g 0 (tS (nI n + 1) (1) (nI n) (g 1 n) (fl) t0)) tr)) rfl ?_
            have hk9 : knd (g 1 n) = 1 := by
              unfold knd
              rw [if_neg k59, if_pos (Or.inr (Or.inl k116))]
            exact Ev.vret e_X9_advances rfl rfl (by rw [hk9, nI_1])
          · refine Ev.sn e_X9_advances 2 (i' := 114) (ls' := [_, _]) (st' := [_, _, _]) rfl ?_
            refine Ev.br (i1 := 118) (i2 := 115) e_X9_advances rfl rfl (fun k112 => ?_) (fun k112 => ?_)
            · refine Ev.sn e_X9_advances 2 (i' := 121) (ls' := [_, _]) (st' := [_, _]) rfl ?_
              refine Ev.put e_X9_advances rfl rfl rfl rfl rfl rfl (w1 := (wR (va_up g 0 (tS (nI n + 1) (1) (nI n) (g 1 n) (fl) t0)) tr)) rfl ?_
              have hk9 : knd (g 1 n) = 1 := by
                unfold knd
                rw [if_neg k59, if_pos (Or.inr (Or.inr (Or.inl k112)))]
              exact Ev.vret e_X9_advances rfl rfl (by rw [hk9, nI_1])
            · refine Ev.sn e_X9_advances 2 (i' := 117) (ls' := [_, _]) (st' := [_, _, _]) rfl ?_
              refine Ev.br (i1 := 118) (i2 := 120) e_X9_advances rfl rfl (fun k100 => ?_) (fun k100 => ?_)
              · refine Ev.sn e_X9_advances 2 (i' := 121) (ls' := [_, _]) (st' := [_, _]) rfl ?_
                refine Ev.put e_X9_advances rfl rfl rfl rfl rfl rfl (w1 := (wR (va_up g 0 (tS (nI n + 1) (1) (nI n) (g 1 n) (fl) t0)) tr)) rfl ?_
                have hk9 : knd (g 1 n) = 1 := by
                  unfold knd
                  rw [if_neg k59, if_pos (Or.inr (Or.inr (Or.inr k100)))]
                exact Ev.vret e_X9_advances rfl rfl (by rw [hk9, nI_1])
              · refine Ev.sn e_X9_advances 1 (i' := 121) (ls' := [_, _]) (st' := [_, _]) rfl ?_
                refine Ev.put e_X9_advances rfl rfl rfl rfl rfl rfl (w1 := (wR (va_up g 0 (tS (nI n + 1) (4) (nI n) (g 1 n) (fl) t0)) tr)) rfl ?_
                have hk9 : knd (g 1 n) = 4 := by
                  unfold knd
                  rw [if_neg k59, if_neg (fun h => h.elim k107 (fun h => h.elim k116 (fun h => h.elim k112 k100)))]
                exact Ev.vret e_X9_advances rfl rfl (by rw [hk9, nI_1])
    · have hd2 : digB (g 1 n) = true := hd
      rw [if_pos hd2]
      refine Ev.sn e_X9_advances 2 (i' := 35) (ls' := [_, _]) (st' := [_, _]) rfl ?_
      refine Ev.put e_X9_advances rfl rfl rfl rfl rfl rfl (w1 := (wR (va_up g 0 (tS (nI n) (tk) (nI n) (0) (fl) t0)) tr)) rfl ?_
      refine lq_X9_advances _ _ _ _ ht hk _ _ _ _ _ _ (k - n) n 0 (by omega) ?_
      refine Ev.sn e_X9_advances 4 (i' := 75) (ls' := [_, _]) (st' := [_, _, _]) rfl ?_
      refine Ev.br (i1 := 86) (i2 := 76) e_X9_advances rfl rfl (fun hv => ?_) (fun hv => ?_)
      · skip
        refine Ev.sn e_X9_advances 2 (i' := 89) (ls' := [_, _]) (st' := [_, _]) rfl ?_
        refine Ev.put e_X9_advances rfl rfl rfl rfl rfl rfl (w1 := (wR (va_up g 0 (tS (nI (dgR (g 1) (k - n) n 0).1) (4) (nI n) ((dgR (g 1) (k - n) n 0).2) (fl) t0)) tr)) rfl ?_
        refine Ev.sn e_X9_advances 1 (i' := 122) (ls' := [_, _]) (st' := []) rfl ?_
        exact Ev.vret e_X9_advances rfl rfl (by rw [show tkE (g 1 n) ((dgR (g 1) (k - n) n 0).1 - n) (dgR (g 1) (k - n) n 0).2 = 4 from if_pos (Or.inl hv)])
      · refine Ev.sn e_X9_advances 2 (i' := 78) (ls' := [_, _]) (st' := [_, _, _]) rfl ?_
        refine Ev.br (i1 := 79) (i2 := 88) e_X9_advances rfl rfl (fun hz => ?_) (fun hz => ?_)
        · refine Ev.sn e_X9_advances 6 (i' := 85) (ls' := [_, _]) (st' := [_, _, _]) rfl ?_
          refine Ev.br (i1 := 88) (i2 := 86) e_X9_advances rfl rfl (fun hl9 => ?_) (fun hl9 => ?_)
          · have nl : ¬ 1 < (dgR (g 1) (k - n) n 0).1 - n := fun h => absurd (show nI (dgR (g 1) (k - n) n 0).1 - nI n ≤ 1 from hl9) (by rw [pk_sub hd0.1]; exact nI_ge (a := 1) h (by omega))
            refine Ev.sn e_X9_advances 1 (i' := 89) (ls' := [_, _]) (st' := [_, _]) rfl ?_
            refine Ev.put e_X9_advances rfl rfl rfl rfl rfl rfl (w1 := (wR (va_up g 0 (tS (nI (dgR (g 1) (k - n) n 0).1) (2) (nI n) ((dgR (g 1) (k - n) n 0).2) (fl) t0)) tr)) rfl ?_
            refine Ev.sn e_X9_advances 1 (i' := 122) (ls' := [_, _]) (st' := []) rfl ?_
            exact Ev.vret e_X9_advances rfl rfl (by rw [show tkE (g 1 n) ((dgR (g 1) (k - n) n 0).1 - n) (dgR (g 1) (k - n) n 0).2 = 2 from if_neg (fun h => h.elim (fun h => hv h) (fun h => nl h.2))])
          · have yl : 1 < (dgR (g 1) (k - n) n 0).1 - n := by
              by_cases h : 1 < (dgR (g 1) (k - n) n 0).1 - n
              · exact h
              · exact absurd (show nI (dgR (g 1) (k - n) n 0).1 - nI n ≤ 1 by rw [pk_sub hd0.1]; exact nI_le (b := 1) (by omega) (by omega)) hl9
            refine Ev.sn e_X9_advances 2 (i' := 89) (ls' := [_, _]) (st' := [_, _]) rfl ?_
            refine Ev.put e_X9_advances rfl rfl rfl rfl rfl rfl (w1 := (wR (va_up g 0 (tS (nI (dgR (g 1) (k - n) n 0).1) (4) (nI n) ((dgR (g 1) (k - n) n 0).2) (fl) t0)) tr)) rfl ?_
            refine Ev.sn e_X9_advances 1 (i' := 122) (ls' := [_, _]) (st' := []) rfl ?_
            exact Ev.vret e_X9_advances rfl rfl (by rw [show tkE (g 1 n) ((dgR (g 1) (k - n) n 0).1 - n) (dgR (g 1) (k - n) n 0).2 = 4 from if_pos (Or.inr ⟨hz, yl⟩)])
        · skip
          refine Ev.sn e_X9_advances 1 (i' := 89) (ls' := [_, _]) (st' := [_, _]) rfl ?_
          refine Ev.put e_X9_advances rfl rfl rfl rfl rfl rfl (w1 := (wR (va_up g 0 (tS (nI (dgR (g 1) (k - n) n 0).1) (2) (nI n) ((dgR (g 1) (k - n) n 0).2) (fl) t0)) tr)) rfl ?_
          refine Ev.sn e_X9_advances 1 (i' := 122) (ls' := [_, _]) (st' := []) rfl ?_
          exact Ev.vret e_X9_advances rfl rfl (by rw [show tkE (g 1 n) ((dgR (g 1) (k - n) n 0).1 - n) (dgR (g 1) (k - n) n 0).2 = 2 from if_neg (fun h => h.elim (fun h => hv h) (fun h => hz h.1))])
  · rw [if_pos (show k ≤ n by omega)]
    refine Ev.sn e_X9_advances 3 (i' := 16) (ls' := [_, _]) (st' := [_, _]) rfl ?_
    refine Ev.put e_X9_advances rfl rfl rfl rfl rfl rfl (w1 := (wR (va_up g 0 (tS (nI n) (tk) (nI n) (vl) (fl) t0)) tr)) rfl ?_
    refine Ev.sn e_X9_advances 3 (i' := 20) (ls' := [_, _]) (st' := [_, _]) rfl ?_
    refine Ev.clV e_X9_advances rfl rfl (as := [_]) rfl rfl rfl kl_X9_letterAt rfl rfl rfl (c_X9_letterAt _ _ _ ht hk (i := n) (by omega)) rfl ?_
    refine Ev.sn e_X9_advances 2 (i' := 23) (ls' := [_, _]) (st' := [_]) rfl ?_
    refine Ev.brF (i1 := 28) (i2 := 24) e_X9_advances rfl rfl ((by rw [show lAt (va_up g 0 (tS (nI n) tk (nI n) vl fl t0) 1) k n = -1 from if_neg (by omega)]; decide)) ?_
    refine Ev.sn e_X9_advances 2 (i' := 26) (ls' := [_, _]) (st' := [_, _]) rfl ?_
    refine Ev.put e_X9_advances rfl rfl rfl rfl rfl rfl (w1 := (wR (va_up g 0 (tS (nI n) (0) (nI n) (vl) (fl) t0)) tr)) rfl ?_
    refine Ev.sn e_X9_advances 1 (i' := 122) (ls' := [_, _]) (st' := []) rfl ?_
    exact Ev.vret e_X9_advances rfl rfl rfl
