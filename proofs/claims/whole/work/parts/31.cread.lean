/-! the text: the class reads its items -/
abbrev TS : Type := Nat × Int32 × Nat × Int32 × Int32
abbrev RG : Type := Nat → Nat → Int32
def wS (g : RG) (tr : Int64) (t0 : Nat → Int32) (s : TS) : AW := wC (va_up g 0 (tS (nI s.1) s.2.1 (nI s.2.2.1) s.2.2.2.1 s.2.2.2.2 t0)) tr
def tk5 (f : Nat → Int32) (k : Nat) (s : TS) : TS := ((tkF f k s.1 s.2.2.2.1).1, (tkF f k s.1 s.2.2.2.1).2.1, (tkF f k s.1 s.2.2.2.1).2.2.1, (tkF f k s.1 s.2.2.2.1).2.2.2, s.2.2.2.2)
def rf5 (s : TS) : TS := if s.2.2.2.2 = -1 then (s.1, s.2.1, s.2.2.1, s.2.2.2.1, nI s.2.2.1) else s
def nm5 (f : Nat → Int32) (k : Nat) (lo hi : Int32) (s : TS) : Int32 × TS := if (tk5 f k s).2.1 = 48 ∧ lo ≤ (tk5 f k s).2.2.2.1 ∧ (tk5 f k s).2.2.2.1 ≤ hi then ((tk5 f k s).2.2.2.1, tk5 f k s) else (lo, rf5 (tk5 f k s))
def en5 (f : Nat → Int32) (k : Nat) (s : TS) : TS := tk5 f k (if (tk5 f k s).2.1 = 59 then tk5 f k s else rf5 (tk5 f k s))
theorem tkF_le (f : Nat → Int32) {k i : Nat} (h : i ≤ k) (tv : Int32) : i ≤ (tkF f k i tv).1 ∧ (tkF f k i tv).1 ≤ k := by
  have h1 := skp_le f (k - i) i
  have h2 := dgF_le f (k - skp f (k - i) i) (skp f (k - i) i) 0
  unfold tkF
  split
  · exact ⟨h1.1, by show skp f (k - i) i ≤ k; omega⟩
  · split
    · exact ⟨by show i ≤ (dgF _ _ _ _).1; omega, by show (dgF _ _ _ _).1 ≤ k; omega⟩
    · exact ⟨by show i ≤ skp f (k - i) i + 1; omega, by show skp f (k - i) i + 1 ≤ k; omega⟩
theorem tk5_le {f : Nat → Int32} {k : Nat} {s : TS} (h : s.1 ≤ k) : (tk5 f k s).1 ≤ k := (tkF_le f h _).2
theorem rf5_1 (s : TS) : (rf5 s).1 = s.1 := by unfold rf5; split <;> rfl
theorem nm5_le {f : Nat → Int32} {k : Nat} {lo hi : Int32} {s : TS} (h : s.1 ≤ k) : (nm5 f k lo hi s).2.1 ≤ k := by
  unfold nm5
  split
  · exact tk5_le h
  · show (rf5 (tk5 f k s)).1 ≤ k
    rw [rf5_1]
    exact tk5_le h
theorem en5_le {f : Nat → Int32} {k : Nat} {s : TS} (h : s.1 ≤ k) : (en5 f k s).1 ≤ k := by
  unfold en5
  apply tk5_le
  split
  · exact tk5_le h
  · rw [rf5_1]
    exact tk5_le h
theorem nm5_in {f : Nat → Int32} {k a b : Nat} {s : TS} (hab : a ≤ b) (hb : b < 2000) : ∃ m, a ≤ m ∧ m ≤ b ∧ (nm5 f k (nI a) (nI b) s).1 = nI m := by
  unfold nm5
  split
  · rename_i h
    obtain ⟨m, h1, h2⟩ := (rngB (x := (tk5 f k s).2.2.2.1) (k := b) hb).mp (by simp only [Bool.and_eq_true, decide_eq_true_eq]; exact ⟨Int32.le_trans (nI_pos' (by omega)) h.2.1, h.2.2⟩)
    refine ⟨m, ?_, h1, h2⟩
    have := h.2.1
    rw [h2] at this
    exact (nI_leI (by omega) (by omega)).mp this
  · exact ⟨a, by omega, hab, rfl⟩
set_option maxRecDepth 20000 in
set_option maxHeartbeats 200000 in
theorem t_X6_takeToken (d : Nat) (g : RG) (tr : Int64) (t0 : Nat → Int32) {k : Nat} (ht : t0 0 = nI k) (hk : k ≤ 200) (hl : ∀ i, i < k → ∃ m, m < 256 ∧ g 1 i = nI m) {s : TS} (hs : s.1 ≤ k) : Ev (d + 2) 59 0 [.ref 1] [] (wS g tr t0 s) none (wS g tr t0 (tk5 (g 1) k s)) := by
  exact c_X6_takeToken _ _ _ _ ht hk hl hs _ _ _ _
set_option maxRecDepth 20000 in
set_option maxHeartbeats 200000 in
theorem c_X6_refuseToken (d : Nat) (g : RG) (tr : Int64) (t0 : Nat → Int32) (s : TS) : Ev d 58 0 [.ref 1] [] (wS g tr t0 s) none (wS g tr t0 (rf5 s)) := by
  unfold rf5
  refine Ev.sn e_X6_refuseToken 3 (i' := 3) (ls' := [_]) (st' := [_, _]) rfl ?_
  refine Ev.br (i1 := 4) (i2 := 8) e_X6_refuseToken rfl rfl (fun hf => ?_) (fun hf => ?_)
  · rw [if_pos (show s.2.2.2.2 = -1 from hf)]
    refine Ev.sn e_X6_refuseToken 3 (i' := 7) (ls' := [_]) (st' := [_, _]) rfl ?_
    refine Ev.put e_X6_refuseToken rfl rfl rfl rfl rfl rfl (w1 := wS g tr t0 (s.1, s.2.1, s.2.2.1, s.2.2.2.1, nI s.2.2.1)) rfl ?_
    skip
    exact Ev.vret e_X6_refuseToken rfl rfl rfl
  · rw [if_neg (show ¬ s.2.2.2.2 = -1 from hf)]
    exact Ev.vret e_X6_refuseToken rfl rfl rfl
set_option maxRecDepth 20000 in
set_option maxHeartbeats 200000 in
theorem c_X6_takeNumber (d : Nat) (g : RG) (tr : Int64) (t0 : Nat → Int32) {k : Nat} (ht : t0 0 = nI k) (hk : k ≤ 200) (hl : ∀ i, i < k → ∃ m, m < 256 ∧ g 1 i = nI m) {s : TS} (hs : s.1 ≤ k) (lo hi : Int32) : Ev (d + 3) 56 0 [.ref 1, .int lo, .int hi] [] (wS g tr t0 s) (some (.int ((nm5 (g 1) k lo hi s).1))) (wS g tr t0 (nm5 (g 1) k lo hi s).2) := by
  unfold nm5
  refine Ev.sn e_X6_takeNumber 1 (i' := 1) (ls' := [_, _, _]) (st' := [_]) rfl ?_
  refine Ev.clV e_X6_takeNumber rfl rfl (as := []) rfl rfl rfl kl_X6_takeToken rfl rfl rfl (t_X6_takeToken _ _ _ _ ht hk hl hs) rfl ?_
  refine Ev.sn e_X6_takeNumber 3 (i' := 5) (ls' := [_, _, _]) (st' := [_, _]) rfl ?_
  refine Ev.br (i1 := 6) (i2 := 17) e_X6_takeNumber rfl rfl (fun h1 => ?_) (fun h1 => ?_)
  · refine Ev.sn e_X6_takeNumber 3 (i' := 9) (ls' := [_, _, _]) (st' := [_, _]) rfl ?_
    refine Ev.br (i1 := 17) (i2 := 10) e_X6_takeNumber rfl rfl (fun h2 => ?_) (fun h2 => ?_)
    · rw [if_neg (fun h => absurd h2 (Int32.not_lt.mpr h.2.1))]
      refine Ev.sn e_X6_takeNumber 1 (i' := 18) (ls' := [_, _, _]) (st' := [_]) rfl ?_
      refine Ev.clV e_X6_takeNumber rfl rfl (as := []) rfl rfl rfl kl_X6_refuseToken rfl rfl rfl (c_X6_refuseToken _ _ _ _ _) rfl ?_
      refine Ev.sn e_X6_takeNumber 1 (i' := 20) (ls' := [_, _, _]) (st' := [_]) rfl ?_
      refine Ev.iret e_X6_takeNumber rfl rfl rfl ?_ rfl
      rfl
    · refine Ev.sn e_X6_takeNumber 3 (i' := 13) (ls' := [_, _, _]) (st' := [_, _]) rfl ?_
      refine Ev.br (i1 := 17) (i2 := 14) e_X6_takeNumber rfl rfl (fun h3 => ?_) (fun h3 => ?_)
      · rw [if_neg (fun h => absurd h3 (Int32.not_lt.mpr h.2.2))]
        refine Ev.sn e_X6_takeNumber 1 (i' := 18) (ls' := [_, _, _]) (st' := [_]) rfl ?_
        refine Ev.clV e_X6_takeNumber rfl rfl (as := []) rfl rfl rfl kl_X6_refuseToken rfl rfl rfl (c_X6_refuseToken _ _ _ _ _) rfl ?_
        refine Ev.sn e_X6_takeNumber 1 (i' := 20) (ls' := [_, _, _]) (st' := [_]) rfl ?_
        refine Ev.iret e_X6_takeNumber rfl rfl rfl ?_ rfl
        rfl
      · have hh : (tk5 (g 1) k s).2.1 = 48 ∧ lo ≤ (tk5 (g 1) k s).2.2.2.1 ∧ (tk5 (g 1) k s).2.2.2.1 ≤ hi := ⟨h1, Int32.not_lt.mp h2, Int32.not_lt.mp h3⟩
        rw [if_pos hh]
        refine Ev.sn e_X6_takeNumber 2 (i' := 16) (ls' := [_, _, _]) (st' := [_]) rfl ?_
        refine Ev.iret e_X6_takeNumber rfl rfl rfl ?_ rfl
        rfl
  · rw [if_neg (fun h => absurd h.1 h1)]
    refine Ev.sn e_X6_takeNumber 1 (i' := 18) (ls' := [_, _, _]) (st' := [_]) rfl ?_
    refine Ev.clV e_X6_takeNumber rfl rfl (as := []) rfl rfl rfl kl_X6_refuseToken rfl rfl rfl (c_X6_refuseToken _ _ _ _ _) rfl ?_
    refine Ev.sn e_X6_takeNumber 1 (i' := 20) (ls' := [_, _, _]) (st' := [_]) rfl ?_
    refine Ev.iret e_X6_takeNumber rfl rfl rfl ?_ rfl
    rfl
set_option maxRecDepth 20000 in
set_option maxHeartbeats 200000 in
theorem c_X6_takeEndOfItem (d : Nat) (g : RG) (tr : Int64) (t0 : Nat → Int32) {k : Nat} (ht : t0 0 = nI k) (hk : k ≤ 200) (hl : ∀ i, i < k → ∃ m, m < 256 ∧ g 1 i = nI m) {s : TS} (hs : s.1 ≤ k) : Ev (d + 3) 57 0 [.ref 1] [] (wS g tr t0 s) none (wS g tr t0 (en5 (g 1) k s)) := by
  have h9 := tk5_le (f := g 1) hs
  unfold en5
  refine Ev.sn e_X6_takeEndOfItem 1 (i' := 1) (ls' := [_]) (st' := [_]) rfl ?_
  refine Ev.clV e_X6_takeEndOfItem rfl rfl (as := []) rfl rfl rfl kl_X6_takeToken rfl rfl rfl (t_X6_takeToken _ _ _ _ ht hk hl hs) rfl ?_
  refine Ev.sn e_X6_takeEndOfItem 3 (i' := 5) (ls' := [_]) (st' := [_, _]) rfl ?_
  refine Ev.br (i1 := 8) (i2 := 6) e_X6_takeEndOfItem rfl rfl (fun h1 => ?_) (fun h1 => ?_)
  · rw [if_pos (show (tk5 (g 1) k s).2.1 = 59 from h1)]
    refine Ev.sn e_X6_takeEndOfItem 1 (i' := 9) (ls' := [_]) (st' := [_]) rfl ?_
    refine Ev.clV e_X6_takeEndOfItem rfl rfl (as := []) rfl rfl rfl kl_X6_takeToken rfl rfl rfl (t_X6_takeToken _ _ _ _ ht hk hl h9) rfl ?_
    exact Ev.vret e_X6_takeEndOfItem rfl rfl rfl
  · rw [if_neg (show ¬ (tk5 (g 1) k s).2.1 = 59 from h1)]
    refine Ev.sn e_X6_takeEndOfItem 1 (i' := 7) (ls' := [_]) (st' := [_]) rfl ?_
    refine Ev.clV e_X6_takeEndOfItem rfl rfl (as := []) rfl rfl rfl kl_X6_refuseToken rfl rfl rfl (c_X6_refuseToken _ _ _ _ _) rfl ?_
    skip
    refine Ev.sn e_X6_takeEndOfItem 1 (i' := 9) (ls' := [_]) (st' := [_]) rfl ?_
    refine Ev.clV e_X6_takeEndOfItem rfl rfl (as := []) rfl rfl rfl kl_X6_takeToken rfl rfl rfl (t_X6_takeToken _ _ _ _ ht hk hl (by rw [rf5_1]; exact h9)) rfl ?_
    exact Ev.vret e_X6_takeEndOfItem rfl rfl rfl
theorem n_X6_takeNumber (d : Nat) (g : RG) (tr : Int64) (t0 : Nat → Int32) {f : Nat → Int32} (hf : g 1 = f) {k : Nat} (ht : t0 0 = nI k) (hk : k ≤ 200) (hl : ∀ i, i < k → ∃ m, m < 256 ∧ f i = nI m) {s : TS} (hs : s.1 ≤ k) {lo hi : Int32} {x : Int32 × TS} (hx : nm5 f k lo hi s = x) : Ev (d + 3) 56 0 [.ref 1, .int lo, .int hi] [] (wS g tr t0 s) (some (.int x.1)) (wS g tr t0 x.2) := by
  subst hx
  subst hf
  exact c_X6_takeNumber _ _ _ _ ht hk hl hs _ _
def stA (g : RG) (r n : Nat) (v : Int32) : RG := va_up g r (upd (g r) n v)
theorem stA_ne {g : RG} {r n x : Nat} {v : Int32} (h : x ≠ r) : stA g r n v x = g x := by
  unfold stA va_up
  first
  | rw [if_neg h]
  | rw [if_neg (Ne.symm h)]
theorem stA_eq {g : RG} {r n : Nat} {v : Int32} : stA g r n v r n = v := by
  unfold stA va_up upd
  simp
theorem wS_10 (g : RG) (tr : Int64) (t0 : Nat → Int32) (s : TS) (F : Nat → Int32) : (wS g tr t0 s).set 4 (.inl (0, 3, .inl F)) = wS (va_up g 10 F) tr t0 s := rfl
theorem wS_11 (g : RG) (tr : Int64) (t0 : Nat → Int32) (s : TS) (F : Nat → Int32) : (wS g tr t0 s).set 5 (.inl (0, 3, .inl F)) = wS (va_up g 11 F) tr t0 s := rfl
theorem wS_12 (g : RG) (tr : Int64) (t0 : Nat → Int32) (s : TS) (F : Nat → Int32) : (wS g tr t0 s).set 6 (.inl (0, 6, .inl F)) = wS (va_up g 12 F) tr t0 s := rfl
theorem wS_13 (g : RG) (tr : Int64) (t0 : Nat → Int32) (s : TS) (F : Nat → Int32) : (wS g tr t0 s).set 7 (.inl (0, 6, .inl F)) = wS (va_up g 13 F) tr t0 s := rfl
theorem wS_14 (g : RG) (tr : Int64) (t0 : Nat → Int32) (s : TS) (F : Nat → Int32) : (wS g tr t0 s).set 8 (.inl (0, 6, .inl F)) = wS (va_up g 14 F) tr t0 s := rfl
theorem wS_15 (g : RG) (tr : Int64) (t0 : Nat → Int32) (s : TS) (F : Nat → Int32) : (wS g tr t0 s).set 9 (.inl (0, 6, .inl F)) = wS (va_up g 15 F) tr t0 s := rfl
theorem wS_16 (g : RG) (tr : Int64) (t0 : Nat → Int32) (s : TS) (F : Nat → Int32) : (wS g tr t0 s).set 10 (.inl (0, 5, .inl F)) = wS (va_up g 16 F) tr t0 s := rfl
theorem wS_17 (g : RG) (tr : Int64) (t0 : Nat → Int32) (s : TS) (F : Nat → Int32) : (wS g tr t0 s).set 11 (.inl (0, 5, .inl F)) = wS (va_up g 17 F) tr t0 s := rfl
theorem wS_18 (g : RG) (tr : Int64) (t0 : Nat → Int32) (s : TS) (F : Nat → Int32) : (wS g tr t0 s).set 12 (.inl (0, 3, .inl F)) = wS (va_up g 18 F) tr t0 s := rfl
theorem wS_19 (g : RG) (tr : Int64) (t0 : Nat → Int32) (s : TS) (F : Nat → Int32) : (wS g tr t0 s).set 13 (.inl (0, 3, .inl F)) = wS (va_up g 19 F) tr t0 s := rfl
theorem wS_20 (g : RG) (tr : Int64) (t0 : Nat → Int32) (s : TS) (F : Nat → Int32) : (wS g tr t0 s).set 14 (.inl (0, 3, .inl F)) = wS (va_up g 20 F) tr t0 s := rfl
theorem wS_21 (g : RG) (tr : Int64) (t0 : Nat → Int32) (s : TS) (F : Nat → Int32) : (wS g tr t0 s).set 15 (.inl (0, 3, .inl F)) = wS (va_up g 21 F) tr t0 s := rfl
theorem wS_c0 (g : RG) (tr : Int64) (t0 : Nat → Int32) (s : TS) (v : Int32) : (wS g tr t0 s).set 3 (.inr (5, List.set [.ref 4, .ref 5, .int (g 22 0), .ref 6, .ref 7, .ref 8, .ref 9, .int (g 22 1), .ref 10, .ref 11, .int (g 22 2), .ref 12, .ref 13, .ref 14, .ref 15] 2 (.int v))) = wS (stA g 22 0 v) tr t0 s := rfl
theorem wS_c1 (g : RG) (tr : Int64) (t0 : Nat → Int32) (s : TS) (v : Int32) : (wS g tr t0 s).set 3 (.inr (5, List.set [.ref 4, .ref 5, .int (g 22 0), .ref 6, .ref 7, .ref 8, .ref 9, .int (g 22 1), .ref 10, .ref 11, .int (g 22 2), .ref 12, .ref 13, .ref 14, .ref 15] 7 (.int v))) = wS (stA g 22 1 v) tr t0 s := rfl
theorem wS_c2 (g : RG) (tr : Int64) (t0 : Nat → Int32) (s : TS) (v : Int32) : (wS g tr t0 s).set 3 (.inr (5, List.set [.ref 4, .ref 5, .int (g 22 0), .ref 6, .ref 7, .ref 8, .ref 9, .int (g 22 1), .ref 10, .ref 11, .int (g 22 2), .ref 12, .ref 13, .ref 14, .ref 15] 10 (.int v))) = wS (stA g 22 2 v) tr t0 s := rfl
def rdL (f : Nat → Int32) (k : Nat) (g : RG) (s : TS) : RG × TS := ((stA (stA g 10 ((nm5 f k 0 2 s).1).toNatClampNeg ((nm5 f k 0 60 (nm5 f k 0 2 s).2).1)) 11 ((nm5 f k 0 2 s).1).toNatClampNeg ((nm5 f k (nm5 f k 0 60 (nm5 f k 0 2 s).2).1 60 (nm5 f k 0 60 (nm5 f k 0 2 s).2).2).1)), (nm5 f k (nm5 f k 0 60 (nm5 f k 0 2 s).2).1 60 (nm5 f k 0 60 (nm5 f k 0 2 s).2).2).2)
set_option maxRecDepth 20000 in
set_option maxHeartbeats 200000 in
theorem c_X6_readLaw (d : Nat) (g : RG) (tr : Int64) (t0 : Nat → Int32) {f : Nat → Int32} (hf : g 1 = f) {k : Nat} (ht : t0 0 = nI k) (hk : k ≤ 200) (hl : ∀ i, i < k → ∃ m, m < 256 ∧ f i = nI m) {s : TS} (hs : s.1 ≤ k) : Ev (d + 4) 52 0 [.ref 1, .null, .null, .null] [] (wS g tr t0 s) none (wS (rdL f k g s).1 tr t0 (rdL f k g s).2) := by
  obtain ⟨u, -, hu, eu⟩ := nm5_in (f := f) (k := k) (s := s) (a := 0) (b := 2) (by omega) (by omega)
  rw [show nI 0 = (0 : Int32) from rfl, show nI 2 = (2 : Int32) from rfl] at eu
  have eu2 : ((nm5 f k 0 2 s).1).toNatClampNeg = u := by rw [eu]; exact nI_clamp (by omega)
  unfold rdL
  rw [eu2]
  clear eu2
  have hs1 := nm5_le (f := f) (k := k) (lo := 0) (hi := 2) (s := s) hs
  obtain ⟨x1, hx1⟩ : ∃ x, nm5 f k 0 2 s = x := ⟨_, rfl⟩
  rw [hx1] at hs1 eu ⊢
  have hs2 := nm5_le (f := f) (k := k) (lo := 0) (hi := 60) (s := x1.2) hs1
  obtain ⟨x2, hx2⟩ : ∃ x, nm5 f k 0 60 x1.2 = x := ⟨_, rfl⟩
  rw [hx2] at hs2 ⊢
  have hs3 := nm5_le (f := f) (k := k) (lo := x2.1) (hi := 60) (s := x2.2) hs2
  obtain ⟨x3, hx3⟩ : ∃ x, nm5 f k x2.1 60 x2.2 = x := ⟨_, rfl⟩
  rw [hx3] at hs3 ⊢
  refine Ev.sn e_X6_readLaw 3 (i' := 3) (ls' := [_, _, _, _]) (st' := [_, _, _]) rfl ?_
  refine Ev.clV e_X6_readLaw rfl rfl (as := [_, _]) rfl rfl rfl kl_X6_takeNumber rfl rfl rfl (n_X6_takeNumber _ g _ _ hf ht hk hl hs hx1) rfl ?_
  refine Ev.sn e_X6_readLaw 4 (i' := 8) (ls' := [_, _, _, _]) (st' := [_, _, _]) rfl ?_
  refine Ev.clV e_X6_readLaw rfl rfl (as := [_, _]) rfl rfl rfl kl_X6_takeNumber rfl rfl rfl (n_X6_takeNumber _ g _ _ hf ht hk hl hs1 hx2) rfl ?_
  refine Ev.sn e_X6_readLaw 4 (i' := 13) (ls' := [_, _, _, _]) (st' := [_, _, _]) rfl ?_
  refine Ev.clV e_X6_readLaw rfl rfl (as := [_, _]) rfl rfl rfl kl_X6_takeNumber rfl rfl rfl (n_X6_takeNumber _ g _ _ hf ht hk hl hs2 hx3) rfl ?_
  refine Ev.sn e_X6_readLaw 6 (i' := 20) (ls' := [_, _, _, _]) (st' := [_, _, _]) rfl ?_
  refine Ev.iastE e_X6_readLaw rfl rfl rfl eu (by omega) (w1 := wS (stA g 10 u x2.1) tr t0 x3.2) (wS_10 _ _ _ _ _) ?_
  refine Ev.sn e_X6_readLaw 5 (i' := 26) (ls' := [_, _, _, _]) (st' := [_, _, _]) rfl ?_
  refine Ev.iastE e_X6_readLaw rfl rfl rfl eu (by omega) (w1 := wS (stA (stA g 10 u x2.1) 11 u x3.1) tr t0 x3.2) (wS_11 _ _ _ _ _) ?_
  exact Ev.vret e_X6_readLaw rfl rfl rfl
def rdT1 (f : Nat → Int32) (k n : Nat) (g : RG) (s : TS) : RG × TS := ((stA (stA (stA (stA (stA g 12 n ((nm5 f k 0 2 s).1)) 13 n ((nm5 f k 1 48 (nm5 f k 0 2 s).2).1)) 14 n ((nm5 f k 1 99 (nm5 f k 1 48 (nm5 f k 0 2 s).2).2).1)) 15 n ((nm5 f k 1 9 (nm5 f k 1 99 (nm5 f k 1 48 (nm5 f k 0 2 s).2).2).2).1)) 22 0 (nI (n + 1))), (nm5 f k 1 9 (nm5 f k 1 99 (nm5 f k 1 48 (nm5 f k 0 2 s).2).2).2).2)
def rdT (f : Nat → Int32) (k : Nat) (g : RG) (s : TS) : RG × TS := if 6 ≤ g 22 0 then (g, rf5 s) else rdT1 f k (g 22 0).toNatClampNeg g s
set_option maxRecDepth 20000 in
set_option maxHeartbeats 200000 in
theorem c_X6_readThing (d : Nat) (g : RG) (tr : Int64) (t0 : Nat → Int32) {f : Nat → Int32} (hf : g 1 = f) {k : Nat} (ht : t0 0 = nI k) (hk : k ≤ 200) (hl : ∀ i, i < k → ∃ m, m < 256 ∧ f i = nI m) {s : TS} (hs : s.1 ≤ k) {n : Nat} (hn : g 22 0 = nI n) (hn2 : n ≤ 6) : Ev (d + 4) 53 0 [.ref 1, .null] [] (wS g tr t0 s) none (wS (rdT f k g s).1 tr t0 (rdT f k g s).2) := by
  unfold rdT
  refine Ev.sn e_X6_readThing 6 (i' := 6) (ls' := [_, _]) (st' := [_, _]) rfl ?_
  refine Ev.br (i1 := 10) (i2 := 7) e_X6_readThing rfl rfl (fun hc => ?_) (fun hc => ?_)
  · have hcn : n < 6 := by
      by_cases h : n < 6
      · exact h
      · exact absurd (show g 22 0 < nI 6 from hc) (by rw [hn]; exact nI_nlt (by omega) (by omega))
    rw [if_neg (show ¬ 6 ≤ g 22 0 from Int32.not_le.mpr hc), show (g 22 0).toNatClampNeg = n by rw [hn]; exact nI_clamp (by omega)]
    clear hc
    unfold rdT1
    have hs1 := nm5_le (f := f) (k := k) (lo := 0) (hi := 2) (s := s) hs
    obtain ⟨x1, hx1⟩ : ∃ x, nm5 f k 0 2 s = x := ⟨_, rfl⟩
    rw [hx1] at hs1 ⊢
    have hs2 := nm5_le (f := f) (k := k) (lo := 1) (hi := 48) (s := x1.2) hs1
    obtain ⟨x2, hx2⟩ : ∃ x, nm5 f k 1 48 x1.2 = x := ⟨_, rfl⟩
    rw [hx2] at hs2 ⊢
    have hs3 := nm5_le (f := f) (k := k) (lo := 1) (hi := 99) (s := x2.2) hs2
    obtain ⟨x3, hx3⟩ : ∃ x, nm5 f k 1 99 x2.2 = x := ⟨_, rfl⟩
    rw [hx3] at hs3 ⊢
    have hs4 := nm5_le (f := f) (k := k) (lo := 1) (hi := 9) (s := x3.2) hs3
    obtain ⟨x4, hx4⟩ : ∃ x, nm5 f k 1 9 x3.2 = x := ⟨_, rfl⟩
    rw [hx4] at hs4 ⊢
    refine Ev.sn e_X6_readThing 7 (i' := 17) (ls' := [_, _]) (st' := [_, _, _, _, _]) rfl ?_
    refine Ev.clV e_X6_readThing rfl rfl (as := [_, _]) rfl rfl rfl kl_X6_takeNumber rfl rfl rfl (n_X6_takeNumber _ g _ _ hf ht hk hl hs hx1) rfl ?_
    refine Ev.iastE e_X6_readThing rfl rfl rfl (m := n) hn (by omega) (w1 := wS (stA g 12 n x1.1) tr t0 x1.2) (wS_12 _ _ _ _ _) ?_
    have hf1 : (stA g 12 n x1.1) 1 = f := (stA_ne (by decide)).trans hf
    have hn1 : (stA g 12 n x1.1) 22 0 = nI n := by rw [stA_ne (by decide)]; exact hn
    obtain ⟨g1, eg1⟩ : ∃ x, x = (stA g 12 n x1.1) := ⟨_, rfl⟩
    rw [← eg1] at hf1 hn1 ⊢
    refine Ev.sn e_X6_readThing 7 (i' := 26) (ls' := [_, _]) (st' := [_, _, _, _, _]) rfl ?_
    refine Ev.clV e_X6_readThing rfl rfl (as := [_, _]) rfl rfl rfl kl_X6_takeNumber rfl rfl rfl (n_X6_takeNumber _ g1 _ _ hf1 ht hk hl hs1 hx2) rfl ?_
    refine Ev.iastE e_X6_readThing rfl rfl rfl (m := n) hn (by omega) (w1 := wS (stA g1 13 n x2.1) tr t0 x2.2) (wS_13 _ _ _ _ _) ?_
    have hf2 : (stA g1 13 n x2.1) 1 = f := (stA_ne (by decide)).trans hf1
    have hn2 : (stA g1 13 n x2.1) 22 0 = nI n := by rw [stA_ne (by decide)]; exact hn1
    obtain ⟨g2, eg2⟩ : ∃ x, x = (stA g1 13 n x2.1) := ⟨_, rfl⟩
    rw [← eg2] at hf2 hn2 ⊢
    refine Ev.sn e_X6_readThing 7 (i' := 35) (ls' := [_, _]) (st' := [_, _, _, _, _]) rfl ?_
    refine Ev.clV e_X6_readThing rfl rfl (as := [_, _]) rfl rfl rfl kl_X6_takeNumber rfl rfl rfl (n_X6_takeNumber _ g2 _ _ hf2 ht hk hl hs2 hx3) rfl ?_
    refine Ev.iastE e_X6_readThing rfl rfl rfl (m := n) hn (by omega) (w1 := wS (stA g2 14 n x3.1) tr t0 x3.2) (wS_14 _ _ _ _ _) ?_
    have hf3 : (stA g2 14 n x3.1) 1 = f := (stA_ne (by decide)).trans hf2
    have hn3 : (stA g2 14 n x3.1) 22 0 = nI n := by rw [stA_ne (by decide)]; exact hn2
    obtain ⟨g3, eg3⟩ : ∃ x, x = (stA g2 14 n x3.1) := ⟨_, rfl⟩
    rw [← eg3] at hf3 hn3 ⊢
    refine Ev.sn e_X6_readThing 7 (i' := 44) (ls' := [_, _]) (st' := [_, _, _, _, _]) rfl ?_
    refine Ev.clV e_X6_readThing rfl rfl (as := [_, _]) rfl rfl rfl kl_X6_takeNumber rfl rfl rfl (n_X6_takeNumber _ g3 _ _ hf3 ht hk hl hs3 hx4) rfl ?_
    refine Ev.iastE e_X6_readThing rfl rfl rfl (m := n) hn (by omega) (w1 := wS (stA g3 15 n x4.1) tr t0 x4.2) (wS_15 _ _ _ _ _) ?_
    have hf4 : (stA g3 15 n x4.1) 1 = f := (stA_ne (by decide)).trans hf3
    have hn4 : (stA g3 15 n x4.1) 22 0 = nI n := by rw [stA_ne (by decide)]; exact hn3
    obtain ⟨g4, eg4⟩ : ∃ x, x = (stA g3 15 n x4.1) := ⟨_, rfl⟩
    rw [← eg4] at hf4 hn4 ⊢
    refine Ev.sn e_X6_readThing 6 (i' := 52) (ls' := [_, _]) (st' := [_, _]) rfl ?_
    refine Ev.put e_X6_readThing rfl rfl rfl rfl rfl rfl (w1 := wS (stA g4 22 0 (g4 22 0 + 1)) tr t0 x4.2) (wS_c0 _ _ _ _ _) ?_
    exact Ev.vret e_X6_readThing rfl rfl (by rw [hn4, nI_1])
  · rw [if_pos (show 6 ≤ g 22 0 from Int32.not_lt.mp hc)]
    refine Ev.sn e_X6_readThing 1 (i' := 8) (ls' := [_, _]) (st' := [_]) rfl ?_
    refine Ev.clV e_X6_readThing rfl rfl (as := []) rfl rfl rfl kl_X6_refuseToken rfl rfl rfl (c_X6_refuseToken _ _ _ _ _) rfl ?_
    exact Ev.vret e_X6_readThing rfl rfl rfl
def rdP1 (f : Nat → Int32) (k n : Nat) (g : RG) (s : TS) : RG × TS := ((stA (stA (stA g 16 n ((nm5 f k 1 48 s).1)) 17 n ((nm5 f k 1 99 (nm5 f k 1 48 s).2).1)) 22 1 (nI (n + 1))), (nm5 f k 1 99 (nm5 f k 1 48 s).2).2)
def rdP (f : Nat → Int32) (k : Nat) (g : RG) (s : TS) : RG × TS := if 5 ≤ g 22 1 then (g, rf5 s) else rdP1 f k (g 22 1).toNatClampNeg g s
set_option maxRecDepth 20000 in
set_option maxHeartbeats 200000 in
theorem c_X6_readPerson (d : Nat) (g : RG) (tr : Int64) (t0 : Nat → Int32) {f : Nat → Int32} (hf : g 1 = f) {k : Nat} (ht : t0 0 = nI k) (hk : k ≤ 200) (hl : ∀ i, i < k → ∃ m, m < 256 ∧ f i = nI m) {s : TS} (hs : s.1 ≤ k) {n : Nat} (hn : g 22 1 = nI n) (hn2 : n ≤ 5) : Ev (d + 4) 54 0 [.ref 1, .null] [] (wS g tr t0 s) none (wS (rdP f k g s).1 tr t0 (rdP f k g s).2) := by
  unfold rdP
  refine Ev.sn e_X6_readPerson 6 (i' := 6) (ls' := [_, _]) (st' := [_, _]) rfl ?_
  refine Ev.br (i1 := 10) (i2 := 7) e_X6_readPerson rfl rfl (fun hc => ?_) (fun hc => ?_)
  · have hcn : n < 5 := by
      by_cases h : n < 5
      · exact h
      · exact absurd (show g 22 1 < nI 5 from hc) (by rw [hn]; exact nI_nlt (by omega) (by omega))
    rw [if_neg (show ¬ 5 ≤ g 22 1 from Int32.not_le.mpr hc), show (g 22 1).toNatClampNeg = n by rw [hn]; exact nI_clamp (by omega)]
    clear hc
    unfold rdP1
    have hs1 := nm5_le (f := f) (k := k) (lo := 1) (hi := 48) (s := s) hs
    obtain ⟨x1, hx1⟩ : ∃ x, nm5 f k 1 48 s = x := ⟨_, rfl⟩
    rw [hx1] at hs1 ⊢
    have hs2 := nm5_le (f := f) (k := k) (lo := 1) (hi := 99) (s := x1.2) hs1
    obtain ⟨x2, hx2⟩ : ∃ x, nm5 f k 1 99 x1.2 = x := ⟨_, rfl⟩
    rw [hx2] at hs2 ⊢
    refine Ev.sn e_X6_readPerson 7 (i' := 17) (ls' := [_, _]) (st' := [_, _, _, _, _]) rfl ?_
    refine Ev.clV e_X6_readPerson rfl rfl (as := [_, _]) rfl rfl rfl kl_X6_takeNumber rfl rfl rfl (n_X6_takeNumber _ g _ _ hf ht hk hl hs hx1) rfl ?_
    refine Ev.iastE e_X6_readPerson rfl rfl rfl (m := n) hn (by omega) (w1 := wS (stA g 16 n x1.1) tr t0 x1.2) (wS_16 _ _ _ _ _) ?_
    have hf1 : (stA g 16 n x1.1) 1 = f := (stA_ne (by decide)).trans hf
    have hn1 : (stA g 16 n x1.1) 22 1 = nI n := by rw [stA_ne (by decide)]; exact hn
    obtain ⟨g1, eg1⟩ : ∃ x, x = (stA g 16 n x1.1) := ⟨_, rfl⟩
    rw [← eg1] at hf1 hn1 ⊢
    refine Ev.sn e_X6_readPerson 7 (i' := 26) (ls' := [_, _]) (st' := [_, _, _, _, _]) rfl ?_
    refine Ev.clV e_X6_readPerson rfl rfl (as := [_, _]) rfl rfl rfl kl_X6_takeNumber rfl rfl rfl (n_X6_takeNumber _ g1 _ _ hf1 ht hk hl hs1 hx2) rfl ?_
    refine Ev.iastE e_X6_readPerson rfl rfl rfl (m := n) hn (by omega) (w1 := wS (stA g1 17 n x2.1) tr t0 x2.2) (wS_17 _ _ _ _ _) ?_
    have hf2 : (stA g1 17 n x2.1) 1 = f := (stA_ne (by decide)).trans hf1
    have hn2 : (stA g1 17 n x2.1) 22 1 = nI n := by rw [stA_ne (by decide)]; exact hn1
    obtain ⟨g2, eg2⟩ : ∃ x, x = (stA g1 17 n x2.1) := ⟨_, rfl⟩
    rw [← eg2] at hf2 hn2 ⊢
    refine Ev.sn e_X6_readPerson 6 (i' := 34) (ls' := [_, _]) (st' := [_, _]) rfl ?_
    refine Ev.put e_X6_readPerson rfl rfl rfl rfl rfl rfl (w1 := wS (stA g2 22 1 (g2 22 1 + 1)) tr t0 x2.2) (wS_c1 _ _ _ _ _) ?_
    exact Ev.vret e_X6_readPerson rfl rfl (by rw [hn2, nI_1])
  · rw [if_pos (show 5 ≤ g 22 1 from Int32.not_lt.mp hc)]
    refine Ev.sn e_X6_readPerson 1 (i' := 8) (ls' := [_, _]) (st' := [_]) rfl ?_
    refine Ev.clV e_X6_readPerson rfl rfl (as := []) rfl rfl rfl kl_X6_refuseToken rfl rfl rfl (c_X6_refuseToken _ _ _ _ _) rfl ?_
    exact Ev.vret e_X6_readPerson rfl rfl rfl
def rdD1 (f : Nat → Int32) (k n : Nat) (g : RG) (s : TS) : RG × TS := ((stA (stA (stA (stA (stA g 18 n ((nm5 f k 0 60 s).1)) 19 n ((nm5 f k ((nm5 f k 0 60 s).1 + 1) 99 (nm5 f k 0 60 s).2).1)) 20 n ((nm5 f k 1 48 (nm5 f k ((nm5 f k 0 60 s).1 + 1) 99 (nm5 f k 0 60 s).2).2).1)) 21 n ((nm5 f k 1 99 (nm5 f k 1 48 (nm5 f k ((nm5 f k 0 60 s).1 + 1) 99 (nm5 f k 0 60 s).2).2).2).1)) 22 2 (nI (n + 1))), (nm5 f k 1 99 (nm5 f k 1 48 (nm5 f k ((nm5 f k 0 60 s).1 + 1) 99 (nm5 f k 0 60 s).2).2).2).2)
def rdD (f : Nat → Int32) (k : Nat) (g : RG) (s : TS) : RG × TS := if 3 ≤ g 22 2 then (g, rf5 s) else rdD1 f k (g 22 2).toNatClampNeg g s
set_option maxRecDepth 20000 in
set_option maxHeartbeats 200000 in
theorem c_X6_readDoor (d : Nat) (g : RG) (tr : Int64) (t0 : Nat → Int32) {f : Nat → Int32} (hf : g 1 = f) {k : Nat} (ht : t0 0 = nI k) (hk : k ≤ 200) (hl : ∀ i, i < k → ∃ m, m < 256 ∧ f i = nI m) {s : TS} (hs : s.1 ≤ k) {n : Nat} (hn : g 22 2 = nI n) (hn2 : n ≤ 3) : Ev (d + 4) 55 0 [.ref 1, .null] [] (wS g tr t0 s) none (wS (rdD f k g s).1 tr t0 (rdD f k g s).2) := by
  unfold rdD
  refine Ev.sn e_X6_readDoor 6 (i' := 6) (ls' := [_, _]) (st' := [_, _]) rfl ?_
  refine Ev.br (i1 := 10) (i2 := 7) e_X6_readDoor rfl rfl (fun hc => ?_) (fun hc => ?_)
  · have hcn : n < 3 := by
      by_cases h : n < 3
      · exact h
      · exact absurd (show g 22 2 < nI 3 from hc) (by rw [hn]; exact nI_nlt (by omega) (by omega))
    rw [if_neg (show ¬ 3 ≤ g 22 2 from Int32.not_le.mpr hc), show (g 22 2).toNatClampNeg = n by rw [hn]; exact nI_clamp (by omega)]
    clear hc
    unfold rdD1
    have hs1 := nm5_le (f := f) (k := k) (lo := 0) (hi := 60) (s := s) hs
    obtain ⟨x1, hx1⟩ : ∃ x, nm5 f k 0 60 s = x := ⟨_, rfl⟩
    rw [hx1] at hs1 ⊢
    have hs2 := nm5_le (f := f) (k := k) (lo := (x1.1 + 1)) (hi := 99) (s := x1.2) hs1
    obtain ⟨x2, hx2⟩ : ∃ x, nm5 f k (x1.1 + 1) 99 x1.2 = x := ⟨_, rfl⟩
    rw [hx2] at hs2 ⊢
    have hs3 := nm5_le (f := f) (k := k) (lo := 1) (hi := 48) (s := x2.2) hs2
    obtain ⟨x3, hx3⟩ : ∃ x, nm5 f k 1 48 x2.2 = x := ⟨_, rfl⟩
    rw [hx3] at hs3 ⊢
    have hs4 := nm5_le (f := f) (k := k) (lo := 1) (hi := 99) (s := x3.2) hs3
    obtain ⟨x4, hx4⟩ : ∃ x, nm5 f k 1 99 x3.2 = x := ⟨_, rfl⟩
    rw [hx4] at hs4 ⊢
    refine Ev.sn e_X6_readDoor 7 (i' := 17) (ls' := [_, _]) (st' := [_, _, _, _, _]) rfl ?_
    refine Ev.clV e_X6_readDoor rfl rfl (as := [_, _]) rfl rfl rfl kl_X6_takeNumber rfl rfl rfl (n_X6_takeNumber _ g _ _ hf ht hk hl hs hx1) rfl ?_
    refine Ev.iastE e_X6_readDoor rfl rfl rfl (m := n) hn (by omega) (w1 := wS (stA g 18 n x1.1) tr t0 x1.2) (wS_18 _ _ _ _ _) ?_
    have hf1 : (stA g 18 n x1.1) 1 = f := (stA_ne (by decide)).trans hf
    have hn1 : (stA g 18 n x1.1) 22 2 = nI n := by rw [stA_ne (by decide)]; exact hn
    have h18 : (stA g 18 n x1.1) 18 n = x1.1 := stA_eq
    obtain ⟨g1, eg1⟩ : ∃ x, x = (stA g 18 n x1.1) := ⟨_, rfl⟩
    rw [← eg1] at hf1 hn1 h18 ⊢
    refine Ev.sn e_X6_readDoor 9 (i' := 28) (ls' := [_, _]) (st' := [_, _, _, _, _]) rfl ?_
    refine Ev.ialdE e_X6_readDoor rfl rfl rfl rfl (m := n) hn (by omega) ?_
    refine Ev.sn e_X6_readDoor 3 (i' := 32) (ls' := [_, _]) (st' := [_, _, _, _, _]) rfl ?_
    refine Ev.clV e_X6_readDoor rfl rfl (as := [_, _]) rfl rfl rfl kl_X6_takeNumber rfl rfl rfl (by rw [show (va_up g1 0 (tS (nI x1.2.1) x1.2.2.1 (nI x1.2.2.2.1) x1.2.2.2.2.1 x1.2.2.2.2.2 t0)) 18 n = x1.1 from h18]; exact n_X6_takeNumber _ g1 _ _ hf1 ht hk hl hs1 hx2) rfl ?_
    refine Ev.iastE e_X6_readDoor rfl rfl rfl (m := n) hn (by omega) (w1 := wS (stA g1 19 n x2.1) tr t0 x2.2) (wS_19 _ _ _ _ _) ?_
    have hf2 : (stA g1 19 n x2.1) 1 = f := (stA_ne (by decide)).trans hf1
    have hn2 : (stA g1 19 n x2.1) 22 2 = nI n := by rw [stA_ne (by decide)]; exact hn1
    obtain ⟨g2, eg2⟩ : ∃ x, x = (stA g1 19 n x2.1) := ⟨_, rfl⟩
    rw [← eg2] at hf2 hn2 ⊢
    refine Ev.sn e_X6_readDoor 7 (i' := 41) (ls' := [_, _]) (st' := [_, _, _, _, _]) rfl ?_
    refine Ev.clV e_X6_readDoor rfl rfl (as := [_, _]) rfl rfl rfl kl_X6_takeNumber rfl rfl rfl (n_X6_takeNumber _ g2 _ _ hf2 ht hk hl hs2 hx3) rfl ?_
    refine Ev.iastE e_X6_readDoor rfl rfl rfl (m := n) hn (by omega) (w1 := wS (stA g2 20 n x3.1) tr t0 x3.2) (wS_20 _ _ _ _ _) ?_
    have hf3 : (stA g2 20 n x3.1) 1 = f := (stA_ne (by decide)).trans hf2
    have hn3 : (stA g2 20 n x3.1) 22 2 = nI n := by rw [stA_ne (by decide)]; exact hn2
    obtain ⟨g3, eg3⟩ : ∃ x, x = (stA g2 20 n x3.1) := ⟨_, rfl⟩
    rw [← eg3] at hf3 hn3 ⊢
    refine Ev.sn e_X6_readDoor 7 (i' := 50) (ls' := [_, _]) (st' := [_, _, _, _, _]) rfl ?_
    refine Ev.clV e_X6_readDoor rfl rfl (as := [_, _]) rfl rfl rfl kl_X6_takeNumber rfl rfl rfl (n_X6_takeNumber _ g3 _ _ hf3 ht hk hl hs3 hx4) rfl ?_
    refine Ev.iastE e_X6_readDoor rfl rfl rfl (m := n) hn (by omega) (w1 := wS (stA g3 21 n x4.1) tr t0 x4.2) (wS_21 _ _ _ _ _) ?_
    have hf4 : (stA g3 21 n x4.1) 1 = f := (stA_ne (by decide)).trans hf3
    have hn4 : (stA g3 21 n x4.1) 22 2 = nI n := by rw [stA_ne (by decide)]; exact hn3
    obtain ⟨g4, eg4⟩ : ∃ x, x = (stA g3 21 n x4.1) := ⟨_, rfl⟩
    rw [← eg4] at hf4 hn4 ⊢
    refine Ev.sn e_X6_readDoor 6 (i' := 58) (ls' := [_, _]) (st' := [_, _]) rfl ?_
    refine Ev.put e_X6_readDoor rfl rfl rfl rfl rfl rfl (w1 := wS (stA g4 22 2 (g4 22 2 + 1)) tr t0 x4.2) (wS_c2 _ _ _ _ _) ?_
    exact Ev.vret e_X6_readDoor rfl rfl (by rw [hn4, nI_1])
  · rw [if_pos (show 3 ≤ g 22 2 from Int32.not_lt.mp hc)]
    refine Ev.sn e_X6_readDoor 1 (i' := 8) (ls' := [_, _]) (st' := [_]) rfl ?_
    refine Ev.clV e_X6_readDoor rfl rfl (as := []) rfl rfl rfl kl_X6_refuseToken rfl rfl rfl (c_X6_refuseToken _ _ _ _ _) rfl ?_
    exact Ev.vret e_X6_readDoor rfl rfl rfl
