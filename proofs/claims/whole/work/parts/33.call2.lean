/-! the class: readAll as a whole -/
def bfj (g : RG) (j : Nat) : RG := stA (stA g 10 j (low0 j)) 11 j (high0 j)
def bas (g : RG) : RG := stA (stA (stA (bfj (bfj (bfj g 0) 1) 2) 22 0 0) 22 1 0) 22 2 0
theorem wC_10 (g : RG) (tr : Int64) (F : Nat → Int32) : (wC g tr).set 4 (.inl (0, 3, .inl F)) = wC (va_up g 10 F) tr := rfl
theorem wC_11 (g : RG) (tr : Int64) (F : Nat → Int32) : (wC g tr).set 5 (.inl (0, 3, .inl F)) = wC (va_up g 11 F) tr := rfl
theorem wC_c0 (g : RG) (tr : Int64) (v : Int32) : (wC g tr).set 3 (.inr (5, List.set [.ref 4, .ref 5, .int (g 22 0), .ref 6, .ref 7, .ref 8, .ref 9, .int (g 22 1), .ref 10, .ref 11, .int (g 22 2), .ref 12, .ref 13, .ref 14, .ref 15] 2 (.int v))) = wC (stA g 22 0 v) tr := rfl
theorem wC_c1 (g : RG) (tr : Int64) (v : Int32) : (wC g tr).set 3 (.inr (5, List.set [.ref 4, .ref 5, .int (g 22 0), .ref 6, .ref 7, .ref 8, .ref 9, .int (g 22 1), .ref 10, .ref 11, .int (g 22 2), .ref 12, .ref 13, .ref 14, .ref 15] 7 (.int v))) = wC (stA g 22 1 v) tr := rfl
theorem wC_c2 (g : RG) (tr : Int64) (v : Int32) : (wC g tr).set 3 (.inr (5, List.set [.ref 4, .ref 5, .int (g 22 0), .ref 6, .ref 7, .ref 8, .ref 9, .int (g 22 1), .ref 10, .ref 11, .int (g 22 2), .ref 12, .ref 13, .ref 14, .ref 15] 10 (.int v))) = wC (stA g 22 2 v) tr := rfl
set_option maxRecDepth 20000 in
set_option maxHeartbeats 200000 in
theorem lq_X5_beginAsAtFirst (d : Nat) (g : RG) (tr : Int64) {j : Nat} (hj : j < 3) (r : Option Value) (w2 : AW) (K : Ev d 43 2 [.ref 3, .int (nI (j + 1))] [] (wC (bfj g j) tr) r w2) : Ev d 43 2 [.ref 3, .int (nI j)] [] (wC g tr) r w2 := by
  unfold bfj at K
  refine Ev.sn e_X5_beginAsAtFirst 2 (i' := 4) (ls' := [_, _]) (st' := [_, _]) rfl ?_
  refine Ev.brF (i1 := 21) (i2 := 5) e_X5_beginAsAtFirst rfl rfl (ge_f (n := 3) rfl hj (by omega)) ?_
  refine Ev.sn e_X5_beginAsAtFirst 3 (i' := 8) (ls' := [_, _]) (st' := [_, _]) rfl ?_
  refine Ev.gst e_X5_beginAsAtFirst rfl rfl ?_
  refine Ev.sn e_X5_beginAsAtFirst 1 (i' := 10) (ls' := [_, _]) (st' := [_, _, _, _]) rfl ?_
  refine Ev.sald0 e_X5_beginAsAtFirst rfl rfl (vin_nI hj (by decide)) ?_
  rw [nI_cl hj (by decide)]
  refine Ev.iastE e_X5_beginAsAtFirst rfl rfl rfl (m := j) rfl hj (w1 := wC (stA g 10 j (low0 j)) tr) (wC_10 _ _ _) ?_
  obtain ⟨g1, e1⟩ : ∃ x, x = stA g 10 j (low0 j) := ⟨_, rfl⟩
  rw [← e1] at K ⊢
  refine Ev.sn e_X5_beginAsAtFirst 3 (i' := 15) (ls' := [_, _]) (st' := [_, _]) rfl ?_
  refine Ev.gst e_X5_beginAsAtFirst rfl rfl ?_
  refine Ev.sn e_X5_beginAsAtFirst 1 (i' := 17) (ls' := [_, _]) (st' := [_, _, _, _]) rfl ?_
  refine Ev.sald1 e_X5_beginAsAtFirst rfl rfl (vin_nI hj (by decide)) ?_
  rw [nI_cl hj (by decide)]
  refine Ev.iastE e_X5_beginAsAtFirst rfl rfl rfl (m := j) rfl hj (w1 := wC (stA g1 11 j (high0 j)) tr) (wC_11 _ _ _) ?_
  refine Ev.sn e_X5_beginAsAtFirst 2 (i' := 2) (ls' := [_, _]) (st' := []) rfl ?_
  rw [nI_1]
  exact K
set_option maxRecDepth 20000 in
set_option maxHeartbeats 200000 in
theorem c_X5_beginAsAtFirst (d : Nat) (g : RG) (tr : Int64) : Ev d 43 0 [.ref 3, .null] [] (wC g tr) none (wC (bas g) tr) := by
  refine Ev.sn e_X5_beginAsAtFirst 2 (i' := 2) (ls' := [_, _]) (st' := []) rfl ?_
  refine lq_X5_beginAsAtFirst _ _ _ (j := 0) (by omega) _ _ ?_
  refine lq_X5_beginAsAtFirst _ _ _ (j := 1) (by omega) _ _ ?_
  refine lq_X5_beginAsAtFirst _ _ _ (j := 2) (by omega) _ _ ?_
  unfold bas
  obtain ⟨g1, e1⟩ : ∃ x, x = bfj (bfj (bfj g 0) 1) 2 := ⟨_, rfl⟩
  rw [← e1]
  refine Ev.sn e_X5_beginAsAtFirst 2 (i' := 4) (ls' := [_, _]) (st' := [_, _]) rfl ?_
  refine Ev.brT (i1 := 21) (i2 := 5) e_X5_beginAsAtFirst rfl rfl (ge_t (n := 3) rfl (by omega) (by omega)) ?_
  refine Ev.sn e_X5_beginAsAtFirst 2 (i' := 23) (ls' := [_, _]) (st' := [_, _]) rfl ?_
  refine Ev.put e_X5_beginAsAtFirst rfl rfl rfl rfl rfl rfl (w1 := wC (stA g1 22 0 0) tr) (wC_c0 _ _ _) ?_
  obtain ⟨g2, e2⟩ : ∃ x, x = stA g1 22 0 0 := ⟨_, rfl⟩
  rw [← e2]
  refine Ev.sn e_X5_beginAsAtFirst 2 (i' := 26) (ls' := [_, _]) (st' := [_, _]) rfl ?_
  refine Ev.put e_X5_beginAsAtFirst rfl rfl rfl rfl rfl rfl (w1 := wC (stA g2 22 1 0) tr) (wC_c1 _ _ _) ?_
  obtain ⟨g3, e3⟩ : ∃ x, x = stA g2 22 1 0 := ⟨_, rfl⟩
  rw [← e3]
  refine Ev.sn e_X5_beginAsAtFirst 2 (i' := 29) (ls' := [_, _]) (st' := [_, _]) rfl ?_
  refine Ev.put e_X5_beginAsAtFirst rfl rfl rfl rfl rfl rfl (w1 := wC (stA g3 22 2 0) tr) (wC_c2 _ _ _) ?_
  exact Ev.vret e_X5_beginAsAtFirst rfl rfl rfl
theorem bas_ne (g : RG) {r : Nat} (h : r ≠ 10) (h2 : r ≠ 11) (h3 : r ≠ 22) : bas g r = g r := by
  unfold bas bfj
  rw [stA_ne h3, stA_ne h3, stA_ne h3, stA_ne h2, stA_ne h, stA_ne h2, stA_ne h, stA_ne h2, stA_ne h]
theorem stA_up {g : RG} {r n : Nat} {v : Int32} : stA g r n v r = upd (g r) n v := by
  unfold stA va_up
  simp
theorem bas_22 (g : RG) : bas g 22 = upd (upd (upd (g 22) 0 0) 1 0) 2 0 := by
  unfold bas bfj
  rw [stA_up, stA_up, stA_up, stA_ne (by decide), stA_ne (by decide), stA_ne (by decide), stA_ne (by decide), stA_ne (by decide), stA_ne (by decide)]
theorem bas_tal (g : RG) : TAL (bas g) := by
  unfold TAL
  rw [bas_22]
  exact ⟨⟨0, by omega, rfl⟩, ⟨0, by omega, rfl⟩, ⟨0, by omega, rfl⟩⟩
theorem va_self {G : RG} {k : Nat} (h : G 0 0 = nI k) : G = va_up G 0 (upd (G 0) 0 (nI k)) := by
  funext r x
  unfold va_up upd
  by_cases hr : r = 0
  · subst hr
    by_cases hx : x = 0
    · subst hx
      simp [h]
    · simp [hx]
  · simp [hr]
def tQ (k : Nat) (v : Int32) : Nat → Int32 := fun x => match x with | 0 => nI k | _ => v
def s0F (f : Nat → Int32) (k : Nat) (tv : Int32) : TS := ((tkF f k 0 tv).1, (tkF f k 0 tv).2.1, (tkF f k 0 tv).2.2.1, (tkF f k 0 tv).2.2.2, -1)
def rAL (f : Nat → Int32) (k : Nat) (g : RG) : RG × TS × Nat := rdA f k 200 (bas g) (s0F f k (g 0 4)) 0
set_option maxRecDepth 20000 in
set_option maxHeartbeats 200000 in
theorem c_X6_readAll (d : Nat) (g : RG) (tr : Int64) {k : Nat} (hk0 : g 0 0 = nI k) (hk : k ≤ 200) (hl : ∀ i, i < k → ∃ m, m < 256 ∧ g 1 i = nI m) : Ev (d + 5) 49 0 [.ref 1, .null] [] (wC g tr) (some (.int ((rAL (g 1) k g).2.1.2.2.2.2))) (wS (rAL (g 1) k g).1 tr (tq k (rAL (g 1) k g).2.2) (rAL (g 1) k g).2.1) := by
  have hT := bas_tal g
  have h0 := bas_ne g (r := 0) (by decide) (by decide) (by decide)
  have h1 := bas_ne g (r := 1) (by decide) (by decide) (by decide)
  unfold rAL
  refine Ev.sn e_X6_readAll 2 (i' := 2) (ls' := [_, _]) (st' := [_]) rfl ?_
  refine Ev.clV e_X6_readAll rfl rfl (as := []) rfl rfl rfl kl_X5_beginAsAtFirst rfl rfl rfl (c_X5_beginAsAtFirst _ _ _) rfl ?_
  obtain ⟨G, eG⟩ : ∃ x, x = bas g := ⟨_, rfl⟩
  rw [← eG] at hT h0 h1 ⊢
  rw [← h1] at hl ⊢
  rw [← h0] at hk0 ⊢
  refine Ev.wd (congrArg (fun x => wC x tr) (va_self hk0)) ?_
  refine Ev.sn e_X6_readAll 2 (i' := 5) (ls' := [_, _]) (st' := [_, _]) rfl ?_
  refine Ev.put e_X6_readAll rfl rfl rfl rfl rfl rfl (w1 := (wC (va_up G 0 (tS 0 (G 0 2) (G 0 3) (G 0 4) (G 0 5) (tQ k (G 0 6)))) tr)) rfl ?_
  refine Ev.sn e_X6_readAll 2 (i' := 8) (ls' := [_, _]) (st' := [_, _]) rfl ?_
  refine Ev.put e_X6_readAll rfl rfl rfl rfl rfl rfl (w1 := (wC (va_up G 0 (tS 0 (G 0 2) (G 0 3) (G 0 4) (-1) (tQ k (G 0 6)))) tr)) rfl ?_
  refine Ev.sn e_X6_readAll 2 (i' := 11) (ls' := [_, _]) (st' := [_, _]) rfl ?_
  refine Ev.put e_X6_readAll rfl rfl rfl rfl rfl rfl (w1 := (wC (va_up G 0 (tS (nI 0) (G 0 2) (G 0 3) (G 0 4) (-1) (tq k 0))) tr)) rfl ?_
  refine Ev.sn e_X6_readAll 1 (i' := 13) (ls' := [_, _]) (st' := [_]) rfl ?_
  refine Ev.clV e_X6_readAll rfl rfl (as := []) rfl rfl rfl kl_X6_takeToken rfl rfl rfl (c_X6_takeToken _ G _ (tq k 0) rfl hk hl (Nat.zero_le k) _ _ _ _) rfl ?_
  refine Ev.sn e_X6_readAll 2 (i' := 16) (ls' := [_, _]) (st' := []) rfl ?_
  exact lp_X6_readAll _ _ hk hl 200 0 G (s0F (G 1) k (G 0 4)) 0 (by omega) rfl hT (tkF_le _ (Nat.zero_le k) _).2
