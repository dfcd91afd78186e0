/-! the text: the class reads all of it -/
def it5 (f : Nat → Int32) (k : Nat) (g : RG) (s : TS) : RG × TS := if s.2.1 = 100 then rdD f k g s else if s.2.1 = 107 then rdL f k g s else if s.2.1 = 112 then rdP f k g s else if s.2.1 = 116 then rdT f k g s else (g, rf5 s)
def rdA (f : Nat → Int32) (k : Nat) : Nat → RG → TS → Nat → RG × TS × Nat
  | 0, g, s, c => (g, s, c)
  | j + 1, g, s, c => if s.2.1 = 46 ∨ ¬ s.2.2.2.2 = -1 then (g, s, c) else rdA f k j (it5 f k g s).1 (en5 f k (it5 f k g s).2) (c + 1)
def TAL (g : RG) : Prop := (∃ n, n ≤ 6 ∧ g 22 0 = nI n) ∧ (∃ n, n ≤ 5 ∧ g 22 1 = nI n) ∧ ∃ n, n ≤ 3 ∧ g 22 2 = nI n
theorem stA_ne2 {g : RG} {r n x : Nat} {v : Int32} (h : x ≠ n) : stA g r n v r x = g r x := by
  unfold stA va_up
  simp [upd, h]
theorem rdL_ne {f : Nat → Int32} {k : Nat} {g : RG} {s : TS} {r : Nat} (h : r ≠ 10) (h2 : r ≠ 11) : (rdL f k g s).1 r = g r := by
  unfold rdL
  show stA (stA g 10 _ _) 11 _ _ r = g r
  rw [stA_ne h2, stA_ne h]
theorem rdT1_ne {f : Nat → Int32} {k n : Nat} {g : RG} {s : TS} {r : Nat} (h : r ≠ 12) (h2 : r ≠ 13) (h3 : r ≠ 14) (h4 : r ≠ 15) (h5 : r ≠ 22) : (rdT1 f k n g s).1 r = g r := by
  unfold rdT1
  show stA (stA (stA (stA (stA g 12 _ _) 13 _ _) 14 _ _) 15 _ _) 22 _ _ r = g r
  rw [stA_ne h5, stA_ne h4, stA_ne h3, stA_ne h2, stA_ne h]
theorem rdP1_ne {f : Nat → Int32} {k n : Nat} {g : RG} {s : TS} {r : Nat} (h : r ≠ 16) (h2 : r ≠ 17) (h5 : r ≠ 22) : (rdP1 f k n g s).1 r = g r := by
  unfold rdP1
  show stA (stA (stA g 16 _ _) 17 _ _) 22 _ _ r = g r
  rw [stA_ne h5, stA_ne h2, stA_ne h]
theorem rdD1_ne {f : Nat → Int32} {k n : Nat} {g : RG} {s : TS} {r : Nat} (h : r ≠ 18) (h2 : r ≠ 19) (h3 : r ≠ 20) (h4 : r ≠ 21) (h5 : r ≠ 22) : (rdD1 f k n g s).1 r = g r := by
  unfold rdD1
  show stA (stA (stA (stA (stA g 18 _ _) 19 _ _) 20 _ _) 21 _ _) 22 _ _ r = g r
  rw [stA_ne h5, stA_ne h4, stA_ne h3, stA_ne h2, stA_ne h]
theorem rdT1_22 {f : Nat → Int32} {k n : Nat} {g : RG} {s : TS} : (rdT1 f k n g s).1 22 = upd (g 22) 0 (nI (n + 1)) := by
  unfold rdT1
  show upd (stA (stA (stA (stA g 12 _ _) 13 _ _) 14 _ _) 15 _ _ 22) 0 _ = _
  rw [stA_ne (by decide), stA_ne (by decide), stA_ne (by decide), stA_ne (by decide)]
theorem rdP1_22 {f : Nat → Int32} {k n : Nat} {g : RG} {s : TS} : (rdP1 f k n g s).1 22 = upd (g 22) 1 (nI (n + 1)) := by
  unfold rdP1
  show upd (stA (stA g 16 _ _) 17 _ _ 22) 1 _ = _
  rw [stA_ne (by decide), stA_ne (by decide)]
theorem rdD1_22 {f : Nat → Int32} {k n : Nat} {g : RG} {s : TS} : (rdD1 f k n g s).1 22 = upd (g 22) 2 (nI (n + 1)) := by
  unfold rdD1
  show upd (stA (stA (stA (stA g 18 _ _) 19 _ _) 20 _ _) 21 _ _ 22) 2 _ = _
  rw [stA_ne (by decide), stA_ne (by decide), stA_ne (by decide), stA_ne (by decide)]
theorem tal_up {g g' : RG} {x c m : Nat} (h : TAL g) (e : g' 22 = upd (g 22) x (nI c)) (hx : (x = 0 ∧ c ≤ 6) ∨ (x = 1 ∧ c ≤ 5) ∨ (x = 2 ∧ c ≤ 3)) : TAL g' := by
  obtain ⟨h0, h1, h2⟩ := h
  unfold TAL
  rw [e]
  rcases hx with ⟨rfl, hc⟩ | ⟨rfl, hc⟩ | ⟨rfl, hc⟩
  · exact ⟨⟨c, hc, if_pos rfl⟩, h1, h2⟩
  · exact ⟨h0, ⟨c, hc, if_pos rfl⟩, h2⟩
  · exact ⟨h0, h1, ⟨c, hc, if_pos rfl⟩⟩
theorem it5_ok {f : Nat → Int32} {k : Nat} {g : RG} {s : TS} (h : TAL g) (hs : s.1 ≤ k) : TAL (it5 f k g s).1 ∧ (it5 f k g s).2.1 ≤ k ∧ ∀ r, (r < 10 ∨ 22 < r) → (it5 f k g s).1 r = g r := by
  obtain ⟨⟨a, ha, ea⟩, ⟨b, hb, eb⟩, ⟨c, hc, ec⟩⟩ := id h
  unfold it5
  split
  · unfold rdD
    rw [ec, nI_clamp (by omega)]
    split
    · exact ⟨h, by show (rf5 s).1 ≤ k; rw [rf5_1]; exact hs, fun r _ => rfl⟩
    · rename_i h3
      have : c < 3 := Nat.lt_of_not_le (fun h4 => h3 (nI_le (a := 3) h4 (by omega)))
      exact ⟨tal_up (m := 0) h rdD1_22 (Or.inr (Or.inr ⟨rfl, by omega⟩)), nm5_le (nm5_le (nm5_le (nm5_le hs))), fun r hr => rdD1_ne (by omega) (by omega) (by omega) (by omega) (by omega)⟩
  · split
    · refine ⟨?_, nm5_le (nm5_le (nm5_le hs)), fun r hr => rdL_ne (by omega) (by omega)⟩
      unfold TAL
      rw [rdL_ne (by decide) (by decide)]
      exact h
    · split
      · unfold rdP
        rw [eb, nI_clamp (by omega)]
        split
        · exact ⟨h, by show (rf5 s).1 ≤ k; rw [rf5_1]; exact hs, fun r _ => rfl⟩
        · rename_i h3
          have : b < 5 := Nat.lt_of_not_le (fun h4 => h3 (nI_le (a := 5) h4 (by omega)))
          exact ⟨tal_up (m := 0) h rdP1_22 (Or.inr (Or.inl ⟨rfl, by omega⟩)), nm5_le (nm5_le hs), fun r hr => rdP1_ne (by omega) (by omega) (by omega)⟩
      · split
        · unfold rdT
          rw [ea, nI_clamp (by omega)]
          split
          · exact ⟨h, by show (rf5 s).1 ≤ k; rw [rf5_1]; exact hs, fun r _ => rfl⟩
          · rename_i h3
            have : a < 6 := Nat.lt_of_not_le (fun h4 => h3 (nI_le (a := 6) h4 (by omega)))
            exact ⟨tal_up (m := 0) h rdT1_22 (Or.inl ⟨rfl, by omega⟩), nm5_le (nm5_le (nm5_le (nm5_le hs))), fun r hr => rdT1_ne (by omega) (by omega) (by omega) (by omega) (by omega)⟩
        · exact ⟨h, by show (rf5 s).1 ≤ k; rw [rf5_1]; exact hs, fun r _ => rfl⟩
theorem e_X6_takeEnd (d : Nat) (g : RG) (tr : Int64) (t0 : Nat → Int32) {f : Nat → Int32} (hf : g 1 = f) {k : Nat} (ht : t0 0 = nI k) (hk : k ≤ 200) (hl : ∀ i, i < k → ∃ m, m < 256 ∧ f i = nI m) {s : TS} (hs : s.1 ≤ k) {x : TS} (hx : en5 f k s = x) : Ev (d + 3) 57 0 [.ref 1] [] (wS g tr t0 s) none (wS g tr t0 x) := by
  subst hx
  subst hf
  exact c_X6_takeEndOfItem _ _ _ _ ht hk hl hs
def tq (k c : Nat) : Nat → Int32 := fun x => match x with | 0 => nI k | _ => nI c
theorem wS_i (g : RG) (tr : Int64) (k c : Nat) (s : TS) (v : Nat) : (wS g tr (tq k c) s).set 1 (.inr (6, List.set [.ref 2, .int (tq k c 0), .ref 3, .int (nI s.1), .int s.2.1, .int (nI s.2.2.1), .int s.2.2.2.1, .int s.2.2.2.2, .int (tq k c 6)] 8 (.int (nI v)))) = wS g tr (tq k v) s := rfl
set_option maxRecDepth 20000 in
set_option maxHeartbeats 200000 in
theorem lq_X6_readAll (d : Nat) (g : RG) (tr : Int64) {f : Nat → Int32} (hf : g 1 = f) {k : Nat} (hk : k ≤ 200) (hl : ∀ i, i < k → ∃ m, m < 256 ∧ f i = nI m) {s : TS} (hs : s.1 ≤ k) (c p : Nat) (r : Option Value) (w2 : AW) (K : Ev (d + 5) 49 16 [.ref 1, .int (nI (p + 1))] [] (wS g tr (tq k (c + 1)) (en5 f k s)) r w2) : Ev (d + 5) 49 44 [.ref 1, .int (nI p)] [] (wS g tr (tq k c) s) r w2 := by
  obtain ⟨x, hx⟩ : ∃ x, en5 f k s = x := ⟨_, rfl⟩
  rw [hx] at K
  refine Ev.sn e_X6_readAll 1 (i' := 45) (ls' := [_, _]) (st' := [_]) rfl ?_
  refine Ev.clV e_X6_readAll rfl rfl (as := []) rfl rfl rfl kl_X6_takeEndOfItem rfl rfl rfl (e_X6_takeEnd _ g _ (tq k c) hf rfl hk hl hs hx) rfl ?_
  refine Ev.sn e_X6_readAll 5 (i' := 51) (ls' := [_, _]) (st' := [_, _]) rfl ?_
  rw [show (va_up g 0 (tS (nI x.1) x.2.1 (nI x.2.2.1) x.2.2.2.1 x.2.2.2.2 (tq k c))) 0 6 + 1 = nI (c + 1) from nI_1 c]
  refine Ev.put e_X6_readAll rfl rfl rfl rfl rfl rfl (w1 := wS g tr (tq k (c + 1)) x) (wS_i g tr k c x (c + 1)) ?_
  refine Ev.sn e_X6_readAll 2 (i' := 16) (ls' := [_, _]) (st' := []) rfl ?_
  rw [nI_1]
  exact K
set_option maxRecDepth 20000 in
set_option maxHeartbeats 200000 in
theorem lp_X6_readAll (d : Nat) (tr : Int64) {f : Nat → Int32} {k : Nat} (hk : k ≤ 200) (hl : ∀ i, i < k → ∃ m, m < 256 ∧ f i = nI m) : ∀ (j p : Nat) (g : RG) (s : TS) (c : Nat), p + j = 200 → g 1 = f → TAL g → s.1 ≤ k → Ev (d + 5) 49 16 [.ref 1, .int (nI p)] [] (wS g tr (tq k c) s) (some (.int ((rdA f k j g s c).2.1.2.2.2.2))) (wS (rdA f k j g s c).1 tr (tq k (rdA f k j g s c).2.2) (rdA f k j g s c).2.1) := by
  intro j
  induction j with
  | zero =>
    intro p g s c hp hf hT hs
    refine Ev.sn e_X6_readAll 2 (i' := 18) (ls' := [_, _]) (st' := [_, _]) rfl ?_
    refine Ev.brT (i1 := 54) (i2 := 19) e_X6_readAll rfl rfl (ge_t (n := 200) rfl (by omega) (by omega)) ?_
    refine Ev.sn e_X6_readAll 2 (i' := 56) (ls' := [_, _]) (st' := [_]) rfl ?_
    refine Ev.iret e_X6_readAll rfl rfl rfl ?_ rfl
    rfl
  | succ j ih =>
    intro p g s c hp hf hT hs
    obtain ⟨it1, it2, it3⟩ := it5_ok (f := f) (k := k) hT hs
    obtain ⟨⟨a, ha, ea⟩, ⟨b, hb, eb⟩, ⟨cd, hc, ec⟩⟩ := id hT
    unfold rdA
    refine Ev.sn e_X6_readAll 2 (i' := 18) (ls' := [_, _]) (st' := [_, _]) rfl ?_
    refine Ev.brF (i1 := 54) (i2 := 19) e_X6_readAll rfl rfl (ge_f (n := 200) rfl (by omega) (by omega)) ?_
    refine Ev.sn e_X6_readAll 3 (i' := 22) (ls' := [_, _]) (st' := [_, _]) rfl ?_
    refine Ev.br (i1 := 54) (i2 := 23) e_X6_readAll rfl rfl (fun h1 => ?_) (fun h1 => ?_)
    · rw [if_pos (Or.inl (show s.2.1 = 46 from h1))]
      refine Ev.sn e_X6_readAll 2 (i' := 56) (ls' := [_, _]) (st' := [_]) rfl ?_
      refine Ev.iret e_X6_readAll rfl rfl rfl ?_ rfl
      rfl
    · refine Ev.sn e_X6_readAll 3 (i' := 26) (ls' := [_, _]) (st' := [_, _]) rfl ?_
      refine Ev.br (i1 := 27) (i2 := 54) e_X6_readAll rfl rfl (fun h2 => ?_) (fun h2 => ?_)
      · refine Ev.sn e_X6_readAll 2 (i' := 29) (ls' := [_, _]) (st' := [_]) rfl ?_
        by_cases s2 : (va_up g 0 (tS (nI s.1) s.2.1 (nI s.2.2.1) s.2.2.2.1 s.2.2.2.2 (tq k c)) 0 2) = 100
        · refine Ev.swi (t := 39) (ls' := [_, _]) (st' := []) e_X6_readAll rfl rfl (by rw [s2]; rfl) ?_
          have q100 : s.2.1 = 100 := s2
          have hy0 : it5 f k g s = rdD f k g s := by
            unfold it5
            rw [if_pos q100]
          refine Ev.sn e_X6_readAll 1 (i' := 40) (ls' := [_, _]) (st' := [_]) rfl ?_
          refine Ev.clV e_X6_readAll rfl rfl (as := []) rfl rfl rfl kl_X6_readDoor rfl rfl rfl (c_X6_readDoor _ g _ (tq k c) hf rfl hk hl hs ec hc) rfl ?_
          refine Ev.sn e_X6_readAll 1 (i' := 44) (ls' := [_, _]) (st' := []) rfl ?_
          rw [← hy0]
          rw [if_neg (fun h => h.elim (fun h => h1 h) (fun h => h h2))]
          obtain ⟨y, hy⟩ : ∃ y, it5 f k g s = y := ⟨_, rfl⟩
          rw [hy] at it1 it2 it3 ⊢
          refine lq_X6_readAll _ _ _ (by rw [it3 1 (by omega)]; exact hf) hk hl it2 c p _ _ ?_
          exact ih (p + 1) y.1 (en5 f k y.2) (c + 1) (by omega) (by rw [it3 1 (by omega)]; exact hf) it1 (en5_le it2)
        by_cases s3 : (va_up g 0 (tS (nI s.1) s.2.1 (nI s.2.2.1) s.2.2.2.1 s.2.2.2.2 (tq k c)) 0 2) = 107
        · refine Ev.swi (t := 30) (ls' := [_, _]) (st' := []) e_X6_readAll rfl rfl (by rw [s3]; rfl) ?_
          have q100 : ¬ s.2.1 = 100 := s2
          have q107 : s.2.1 = 107 := s3
          have hy0 : it5 f k g s = rdL f k g s := by
            unfold it5
            rw [if_neg q100, if_pos q107]
          refine Ev.sn e_X6_readAll 1 (i' := 31) (ls' := [_, _]) (st' := [_]) rfl ?_
          refine Ev.clV e_X6_readAll rfl rfl (as := []) rfl rfl rfl kl_X6_readLaw rfl rfl rfl (c_X6_readLaw _ g _ (tq k c) hf rfl hk hl hs) rfl ?_
          refine Ev.sn e_X6_readAll 1 (i' := 44) (ls' := [_, _]) (st' := []) rfl ?_
          rw [← hy0]
          rw [if_neg (fun h => h.elim (fun h => h1 h) (fun h => h h2))]
          obtain ⟨y, hy⟩ : ∃ y, it5 f k g s = y := ⟨_, rfl⟩
          rw [hy] at it1 it2 it3 ⊢
          refine lq_X6_readAll _ _ _ (by rw [it3 1 (by omega)]; exact hf) hk hl it2 c p _ _ ?_
          exact ih (p + 1) y.1 (en5 f k y.2) (c + 1) (by omega) (by rw [it3 1 (by omega)]; exact hf) it1 (en5_le it2)
        by_cases s4 : (va_up g 0 (tS (nI s.1) s.2.1 (nI s.2.2.1) s.2.2.2.1 s.2.2.2.2 (tq k c)) 0 2) = 112
        · refine Ev.swi (t := 36) (ls' := [_, _]) (st' := []) e_X6_readAll rfl rfl (by rw [s4]; rfl) ?_
          have q100 : ¬ s.2.1 = 100 := s2
          have q107 : ¬ s.2.1 = 107 := s3
          have q112 : s.2.1 = 112 := s4
          have hy0 : it5 f k g s = rdP f k g s := by
            unfold it5
            rw [if_neg q100, if_neg q107, if_pos q112]
          refine Ev.sn e_X6_readAll 1 (i' := 37) (ls' := [_, _]) (st' := [_]) rfl ?_
          refine Ev.clV e_X6_readAll rfl rfl (as := []) rfl rfl rfl kl_X6_readPerson rfl rfl rfl (c_X6_readPerson _ g _ (tq k c) hf rfl hk hl hs eb hb) rfl ?_
          refine Ev.sn e_X6_readAll 1 (i' := 44) (ls' := [_, _]) (st' := []) rfl ?_
          rw [← hy0]
          rw [if_neg (fun h => h.elim (fun h => h1 h) (fun h => h h2))]
          obtain ⟨y, hy⟩ : ∃ y, it5 f k g s = y := ⟨_, rfl⟩
          rw [hy] at it1 it2 it3 ⊢
          refine lq_X6_readAll _ _ _ (by rw [it3 1 (by omega)]; exact hf) hk hl it2 c p _ _ ?_
          exact ih (p + 1) y.1 (en5 f k y.2) (c + 1) (by omega) (by rw [it3 1 (by omega)]; exact hf) it1 (en5_le it2)
        by_cases s5 : (va_up g 0 (tS (nI s.1) s.2.1 (nI s.2.2.1) s.2.2.2.1 s.2.2.2.2 (tq k c)) 0 2) = 116
        · refine Ev.swi (t := 33) (ls' := [_, _]) (st' := []) e_X6_readAll rfl rfl (by rw [s5]; rfl) ?_
          have q100 : ¬ s.2.1 = 100 := s2
          have q107 : ¬ s.2.1 = 107 := s3
          have q112 : ¬ s.2.1 = 112 := s4
          have q116 : s.2.1 = 116 := s5
          have hy0 : it5 f k g s = rdT f k g s := by
            unfold it5
            rw [if_neg q100, if_neg q107, if_neg q112, if_pos q116]
          refine Ev.sn e_X6_readAll 1 (i' := 34) (ls' := [_, _]) (st' := [_]) rfl ?_
          refine Ev.clV e_X6_readAll rfl rfl (as := []) rfl rfl rfl kl_X6_readThing rfl rfl rfl (c_X6_readThing _ g _ (tq k c) hf rfl hk hl hs ea ha) rfl ?_
          refine Ev.sn e_X6_readAll 1 (i' := 44) (ls' := [_, _]) (st' := []) rfl ?_
          rw [← hy0]
          rw [if_neg (fun h => h.elim (fun h => h1 h) (fun h => h h2))]
          obtain ⟨y, hy⟩ : ∃ y, it5 f k g s = y := ⟨_, rfl⟩
          rw [hy] at it1 it2 it3 ⊢
          refine lq_X6_readAll _ _ _ (by rw [it3 1 (by omega)]; exact hf) hk hl it2 c p _ _ ?_
          exact ih (p + 1) y.1 (en5 f k y.2) (c + 1) (by omega) (by rw [it3 1 (by omega)]; exact hf) it1 (en5_le it2)
        refine Ev.swi (t := 42) (ls' := [_, _]) (st' := []) e_X6_readAll rfl rfl (by simp [swl, h1, h2, s2, s3, s4, s5]) ?_
        have q100 : ¬ s.2.1 = 100 := s2
        have q107 : ¬ s.2.1 = 107 := s3
        have q112 : ¬ s.2.1 = 112 := s4
        have q116 : ¬ s.2.1 = 116 := s5
        have hy0 : it5 f k g s = (g, rf5 s) := by
          unfold it5
          rw [if_neg q100, if_neg q107, if_neg q112, if_neg q116]
        refine Ev.sn e_X6_readAll 1 (i' := 43) (ls' := [_, _]) (st' := [_]) rfl ?_
        refine Ev.clV e_X6_readAll rfl rfl (as := []) rfl rfl rfl kl_X6_refuseToken rfl rfl rfl (c_X6_refuseToken _ _ _ _ _) rfl ?_
        rw [show wS g tr (tq k c) (rf5 s) = wS (it5 f k g s).1 tr (tq k c) (it5 f k g s).2 by rw [hy0]]
        rw [if_neg (fun h => h.elim (fun h => h1 h) (fun h => h h2))]
        obtain ⟨y, hy⟩ : ∃ y, it5 f k g s = y := ⟨_, rfl⟩
        rw [hy] at it1 it2 it3 ⊢
        refine lq_X6_readAll _ _ _ (by rw [it3 1 (by omega)]; exact hf) hk hl it2 c p _ _ ?_
        exact ih (p + 1) y.1 (en5 f k y.2) (c + 1) (by omega) (by rw [it3 1 (by omega)]; exact hf) it1 (en5_le it2)
      · rw [if_pos (Or.inr (show ¬ s.2.2.2.2 = -1 from h2))]
        refine Ev.sn e_X6_readAll 2 (i' := 56) (ls' := [_, _]) (st' := [_]) rfl ?_
        refine Ev.iret e_X6_readAll rfl rfl rfl ?_ rfl
        rfl
