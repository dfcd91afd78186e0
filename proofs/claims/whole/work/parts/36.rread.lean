/-! the text: the reference reads its items -/
def ad9 (f : Nat → Int32) (k : Nat) (s : TS) : TS := ((tkG f k s.1 s.2.2.2.1).1, (tkG f k s.1 s.2.2.2.1).2.1, (tkG f k s.1 s.2.2.2.1).2.2.1, (tkG f k s.1 s.2.2.2.1).2.2.2, s.2.2.2.2)
def tk9 (f : Nat → Int32) (k : Nat) (b : Bool) (s : TS) : Int32 × TS := if 0 ≤ s.2.2.2.2 then (0, s) else if b = false then (0, (s.1, s.2.1, s.2.2.1, s.2.2.2.1, nI s.2.2.1)) else (s.2.2.2.1, ad9 f k s)
def nm9 (f : Nat → Int32) (k : Nat) (lo hi : Int32) (s : TS) : Int32 × TS := tk9 f k (decide (s.2.1 = 2) && (decide (lo ≤ s.2.2.2.1) && decide (s.2.2.2.1 ≤ hi))) s
theorem tkG_le (f : Nat → Int32) {k i : Nat} (h : i ≤ k) (vl : Int32) : i ≤ (tkG f k i vl).1 ∧ (tkG f k i vl).1 ≤ k := by
  have h1 := skp_le f (k - i) i
  have h2 := dgR_le f (k - skp f (k - i) i) (skp f (k - i) i) 0
  unfold tkG
  split
  · exact ⟨h1.1, by show skp f (k - i) i ≤ k; omega⟩
  · split
    · exact ⟨by show i ≤ (dgR _ _ _ _).1; omega, by show (dgR _ _ _ _).1 ≤ k; omega⟩
    · exact ⟨by show i ≤ skp f (k - i) i + 1; omega, by show skp f (k - i) i + 1 ≤ k; omega⟩
theorem tk9_le {f : Nat → Int32} {k : Nat} {b : Bool} {s : TS} (h : s.1 ≤ k) : (tk9 f k b s).2.1 ≤ k := by
  unfold tk9
  split
  · exact h
  · split
    · exact h
    · exact (tkG_le f h _).2
theorem nm9_le {f : Nat → Int32} {k : Nat} {lo hi : Int32} {s : TS} (h : s.1 ≤ k) : (nm9 f k lo hi s).2.1 ≤ k := tk9_le h
theorem nm9_in {f : Nat → Int32} {k b : Nat} {s : TS} (hb : b < 2000) : ∃ m, m ≤ b ∧ (nm9 f k 0 (nI b) s).1 = nI m := by
  unfold nm9 tk9
  split
  · exact ⟨0, by omega, rfl⟩
  · split
    · exact ⟨0, by omega, rfl⟩
    · rename_i h
      simp only [Bool.not_eq_false, Bool.and_eq_true, decide_eq_true_eq] at h
      obtain ⟨m, h1, h2⟩ := (rngB (x := s.2.2.2.1) (k := b) hb).mp (by simp only [Bool.and_eq_true, decide_eq_true_eq]; exact h.2)
      exact ⟨m, h1, h2⟩
set_option maxRecDepth 20000 in
set_option maxHeartbeats 200000 in
theorem c_X9_isWell (d : Nat) (g : RG) (tr : Int64) (t0 : Nat → Int32) (s : TS) : Ev d 126 0 [.ref 0] [] (wT g tr t0 s) (some (.int (bI (! decide (0 ≤ s.2.2.2.2))))) (wT g tr t0 s) := by
  refine Ev.sn e_X9_isWell 2 (i' := 2) (ls' := [_]) (st' := [_]) rfl ?_
  refine Ev.br (i1 := 5) (i2 := 3) e_X9_isWell rfl rfl (fun h0 => ?_) (fun h0 => ?_)
  · refine Ev.sn e_X9_isWell 1 (i' := 6) (ls' := [_]) (st' := [_]) rfl ?_
    refine Ev.iret e_X9_isWell rfl rfl rfl ?_ rfl
    have h0 : 0 ≤ s.2.2.2.2 := h0
    simp [bI, h0]
  · refine Ev.sn e_X9_isWell 2 (i' := 6) (ls' := [_]) (st' := [_]) rfl ?_
    refine Ev.iret e_X9_isWell rfl rfl rfl ?_ rfl
    have h0 : ¬ 0 ≤ s.2.2.2.2 := h0
    simp [bI, h0]
set_option maxRecDepth 20000 in
set_option maxHeartbeats 200000 in
theorem t_X9_advances (d : Nat) (g : RG) (tr : Int64) (t0 : Nat → Int32) {f : Nat → Int32} (hf : g 1 = f) {k : Nat} (ht : t0 0 = nI k) (hk : k ≤ 200) (hl : ∀ i, i < k → ∃ m, m < 256 ∧ f i = nI m) {s : TS} (hs : s.1 ≤ k) : Ev (d + 1) 125 0 [.ref 0, .null] [] (wT g tr t0 s) none (wT g tr t0 (ad9 f k s)) := by
  subst hf
  exact c_X9_advances _ _ _ _ ht hk hl hs _ _ _ _
set_option maxRecDepth 20000 in
set_option maxHeartbeats 200000 in
theorem c_X9_takes (d : Nat) (g : RG) (tr : Int64) (t0 : Nat → Int32) {f : Nat → Int32} (hf : g 1 = f) {k : Nat} (ht : t0 0 = nI k) (hk : k ≤ 200) (hl : ∀ i, i < k → ∃ m, m < 256 ∧ f i = nI m) {s : TS} (hs : s.1 ≤ k) (b : Bool) : Ev (d + 2) 127 0 [.ref 0, .int (bI b), .null] [] (wT g tr t0 s) (some (.int ((tk9 f k b s).1))) (wT g tr t0 (tk9 f k b s).2) := by
  unfold tk9
  refine Ev.sn e_X9_takes 1 (i' := 1) (ls' := [_, _, _]) (st' := [_]) rfl ?_
  refine Ev.clV e_X9_takes rfl rfl (as := []) rfl rfl rfl kl_X9_isWell rfl rfl rfl (c_X9_isWell _ _ _ _ _) rfl ?_
  refine Ev.brB (i1 := 3) (i2 := 5) e_X9_takes rfl rfl (fun hw => ?_) (fun hw => ?_)
  · have hw2 : 0 ≤ s.2.2.2.2 := by simpa using hw
    rw [if_pos hw2]
    refine Ev.sn e_X9_takes 1 (i' := 4) (ls' := [_, _, _]) (st' := [_]) rfl ?_
    refine Ev.iret e_X9_takes rfl rfl rfl ?_ rfl
    rfl
  · have hw2 : ¬ 0 ≤ s.2.2.2.2 := by simpa using hw
    rw [if_neg hw2]
    refine Ev.sn e_X9_takes 1 (i' := 6) (ls' := [_, _, _]) (st' := [_]) rfl ?_
    refine Ev.brB (i1 := 7) (i2 := 13) e_X9_takes rfl rfl (fun hb => ?_) (fun hb => ?_)
    · rw [if_pos hb]
      refine Ev.sn e_X9_takes 3 (i' := 10) (ls' := [_, _, _]) (st' := [_, _]) rfl ?_
      refine Ev.put e_X9_takes rfl rfl rfl rfl rfl rfl (w1 := wT g tr t0 (s.1, s.2.1, s.2.2.1, s.2.2.2.1, nI s.2.2.1)) rfl ?_
      refine Ev.sn e_X9_takes 1 (i' := 12) (ls' := [_, _, _]) (st' := [_]) rfl ?_
      refine Ev.iret e_X9_takes rfl rfl rfl ?_ rfl
      rfl
    · rw [if_neg (show ¬ b = false by rw [hb]; decide)]
      refine Ev.sn e_X9_takes 4 (i' := 17) (ls' := [_, _, _]) (st' := [_]) rfl ?_
      refine Ev.clV e_X9_takes rfl rfl (as := []) rfl rfl rfl kl_X9_advances rfl rfl rfl (t_X9_advances _ _ _ _ hf ht hk hl hs) rfl ?_
      refine Ev.sn e_X9_takes 1 (i' := 19) (ls' := [_, _, _]) (st' := [_]) rfl ?_
      refine Ev.iret e_X9_takes rfl rfl rfl ?_ rfl
      rfl
set_option maxRecDepth 20000 in
set_option maxHeartbeats 200000 in
theorem c_X9_number (d : Nat) (g : RG) (tr : Int64) (t0 : Nat → Int32) {f : Nat → Int32} (hf : g 1 = f) {k : Nat} (ht : t0 0 = nI k) (hk : k ≤ 200) (hl : ∀ i, i < k → ∃ m, m < 256 ∧ f i = nI m) {s : TS} (hs : s.1 ≤ k) (lo hi : Int32) : Ev (d + 3) 128 0 [.ref 0, .int lo, .int hi] [] (wT g tr t0 s) (some (.int ((nm9 f k lo hi s).1))) (wT g tr t0 (nm9 f k lo hi s).2) := by
  unfold nm9
  refine Ev.sn e_X9_number 4 (i' := 4) (ls' := [_, _, _]) (st' := [_, _, _]) rfl ?_
  refine Ev.br (i1 := 5) (i2 := 13) e_X9_number rfl rfl (fun h1 => ?_) (fun h1 => ?_)
  · refine Ev.sn e_X9_number 4 (i' := 9) (ls' := [_, _, _]) (st' := [_, _, _, _]) rfl ?_
    refine Ev.clS e_X9_number rfl rfl rfl (as := [_, _, _]) rfl rfl rfl rfl rfl (c_X9_in _ _ _ _ _) rfl ?_
    refine Ev.brB (i1 := 13) (i2 := 11) e_X9_number rfl rfl (fun h2 => ?_) (fun h2 => ?_)
    · have h2 : (decide (lo ≤ s.2.2.2.1) && decide (s.2.2.2.1 ≤ hi)) = false := h2
      rw [show (decide (s.2.1 = 2) && (decide (lo ≤ s.2.2.2.1) && decide (s.2.2.2.1 ≤ hi))) = false by rw [h2]; simp]
      refine Ev.sn e_X9_number 1 (i' := 14) (ls' := [_, _, _]) (st' := [_, _]) rfl ?_
      refine Ev.clV e_X9_number rfl rfl (as := [_]) rfl rfl rfl kl_X9_takes rfl rfl rfl (c_X9_takes _ _ _ _ hf ht hk hl hs false) rfl ?_
      refine Ev.iret e_X9_number rfl rfl rfl ?_ rfl
      rfl
    · have h1 : s.2.1 = 2 := h1
      have h2 : (decide (lo ≤ s.2.2.2.1) && decide (s.2.2.2.1 ≤ hi)) = true := h2
      rw [show (decide (s.2.1 = 2) && (decide (lo ≤ s.2.2.2.1) && decide (s.2.2.2.1 ≤ hi))) = true by rw [h2]; simp [h1]]
      refine Ev.sn e_X9_number 2 (i' := 14) (ls' := [_, _, _]) (st' := [_, _]) rfl ?_
      refine Ev.clV e_X9_number rfl rfl (as := [_]) rfl rfl rfl kl_X9_takes rfl rfl rfl (c_X9_takes _ _ _ _ hf ht hk hl hs true) rfl ?_
      refine Ev.iret e_X9_number rfl rfl rfl ?_ rfl
      rfl
  · have h1 : ¬ s.2.1 = 2 := h1
    rw [show (decide (s.2.1 = 2) && (decide (lo ≤ s.2.2.2.1) && decide (s.2.2.2.1 ≤ hi))) = false by simp [h1]]
    refine Ev.sn e_X9_number 1 (i' := 14) (ls' := [_, _, _]) (st' := [_, _]) rfl ?_
    refine Ev.clV e_X9_number rfl rfl (as := [_]) rfl rfl rfl kl_X9_takes rfl rfl rfl (c_X9_takes _ _ _ _ hf ht hk hl hs false) rfl ?_
    refine Ev.iret e_X9_number rfl rfl rfl ?_ rfl
    rfl
theorem n_X9_number (d : Nat) (g : RG) (tr : Int64) (t0 : Nat → Int32) {f : Nat → Int32} (hf : g 1 = f) {k : Nat} (ht : t0 0 = nI k) (hk : k ≤ 200) (hl : ∀ i, i < k → ∃ m, m < 256 ∧ f i = nI m) {s : TS} (hs : s.1 ≤ k) {lo hi : Int32} {x : Int32 × TS} (hx : nm9 f k lo hi s = x) : Ev (d + 3) 128 0 [.ref 0, .int lo, .int hi] [] (wT g tr t0 s) (some (.int x.1)) (wT g tr t0 x.2) := by
  subst hx
  exact c_X9_number _ _ _ _ hf ht hk hl hs _ _
def mbB (v a b c : Int32) : Bool := decide (v = 107) || (if v = 116 then ! decide (6 ≤ a) else if v = 112 then ! decide (5 ≤ b) else ! decide (3 ≤ c))
set_option maxRecDepth 20000 in
set_option maxHeartbeats 200000 in
theorem c_X9_mayBegin (d : Nat) (g : RG) (tr : Int64) (t0 : Nat → Int32) (s : TS) : Ev d 129 0 [.ref 0] [] (wT g tr t0 s) (some (.int (bI (mbB s.2.2.2.1 (g 2 3) (g 2 4) (g 2 5))))) (wT g tr t0 s) := by
  refine Ev.sn e_X9_mayBegin 3 (i' := 3) (ls' := [_]) (st' := [_, _]) rfl ?_
  refine Ev.br (i1 := 32) (i2 := 4) e_X9_mayBegin rfl rfl (fun h1 => ?_) (fun h1 => ?_)
  · refine Ev.sn e_X9_mayBegin 2 (i' := 35) (ls' := [_]) (st' := [_]) rfl ?_
    refine Ev.iret e_X9_mayBegin rfl rfl rfl ?_ rfl
    have h1 := show s.2.2.2.1 = 107 from h1
    simp [bI, mbB, h1]
  · refine Ev.sn e_X9_mayBegin 3 (i' := 7) (ls' := [_]) (st' := [_, _]) rfl ?_
    refine Ev.br (i1 := 8) (i2 := 15) e_X9_mayBegin rfl rfl (fun h2 => ?_) (fun h2 => ?_)
    · refine Ev.sn e_X9_mayBegin 3 (i' := 11) (ls' := [_]) (st' := [_, _]) rfl ?_
      refine Ev.ialdE e_X9_mayBegin rfl rfl rfl rfl (m := 3) rfl (by decide) ?_
      refine Ev.sn e_X9_mayBegin 1 (i' := 13) (ls' := [_]) (st' := [_, _]) rfl ?_
      refine Ev.br (i1 := 34) (i2 := 14) e_X9_mayBegin rfl rfl (fun h3 => ?_) (fun h3 => ?_)
      · refine Ev.sn e_X9_mayBegin 1 (i' := 35) (ls' := [_]) (st' := [_]) rfl ?_
        refine Ev.iret e_X9_mayBegin rfl rfl rfl ?_ rfl
        have h1 := show ¬ s.2.2.2.1 = 107 from h1
        have h2 := show s.2.2.2.1 = 116 from h2
        have h3 := show 6 ≤ g 2 3 from h3
        simp [bI, mbB, h1, h2, h3]
      · refine Ev.sn e_X9_mayBegin 3 (i' := 35) (ls' := [_]) (st' := [_]) rfl ?_
        refine Ev.iret e_X9_mayBegin rfl rfl rfl ?_ rfl
        have h1 := show ¬ s.2.2.2.1 = 107 from h1
        have h2 := show s.2.2.2.1 = 116 from h2
        have h3 := show ¬ 6 ≤ g 2 3 from h3
        simp [bI, mbB, h1, h2, h3]
    · refine Ev.sn e_X9_mayBegin 3 (i' := 18) (ls' := [_]) (st' := [_, _]) rfl ?_
      refine Ev.br (i1 := 19) (i2 := 26) e_X9_mayBegin rfl rfl (fun h4 => ?_) (fun h4 => ?_)
      · refine Ev.sn e_X9_mayBegin 3 (i' := 22) (ls' := [_]) (st' := [_, _]) rfl ?_
        refine Ev.ialdE e_X9_mayBegin rfl rfl rfl rfl (m := 4) rfl (by decide) ?_
        refine Ev.sn e_X9_mayBegin 1 (i' := 24) (ls' := [_]) (st' := [_, _]) rfl ?_
        refine Ev.br (i1 := 34) (i2 := 25) e_X9_mayBegin rfl rfl (fun h5 => ?_) (fun h5 => ?_)
        · refine Ev.sn e_X9_mayBegin 1 (i' := 35) (ls' := [_]) (st' := [_]) rfl ?_
          refine Ev.iret e_X9_mayBegin rfl rfl rfl ?_ rfl
          have h1 := show ¬ s.2.2.2.1 = 107 from h1
          have h2 := show ¬ s.2.2.2.1 = 116 from h2
          have h4 := show s.2.2.2.1 = 112 from h4
          have h5 := show 5 ≤ g 2 4 from h5
          simp [bI, mbB, h1, h2, h4, h5]
        · refine Ev.sn e_X9_mayBegin 3 (i' := 35) (ls' := [_]) (st' := [_]) rfl ?_
          refine Ev.iret e_X9_mayBegin rfl rfl rfl ?_ rfl
          have h1 := show ¬ s.2.2.2.1 = 107 from h1
          have h2 := show ¬ s.2.2.2.1 = 116 from h2
          have h4 := show s.2.2.2.1 = 112 from h4
          have h5 := show ¬ 5 ≤ g 2 4 from h5
          simp [bI, mbB, h1, h2, h4, h5]
      · refine Ev.sn e_X9_mayBegin 3 (i' := 29) (ls' := [_]) (st' := [_, _]) rfl ?_
        refine Ev.ialdE e_X9_mayBegin rfl rfl rfl rfl (m := 5) rfl (by decide) ?_
        refine Ev.sn e_X9_mayBegin 1 (i' := 31) (ls' := [_]) (st' := [_, _]) rfl ?_
        refine Ev.br (i1 := 34) (i2 := 32) e_X9_mayBegin rfl rfl (fun h6 => ?_) (fun h6 => ?_)
        · refine Ev.sn e_X9_mayBegin 1 (i' := 35) (ls' := [_]) (st' := [_]) rfl ?_
          refine Ev.iret e_X9_mayBegin rfl rfl rfl ?_ rfl
          have h1 := show ¬ s.2.2.2.1 = 107 from h1
          have h2 := show ¬ s.2.2.2.1 = 116 from h2
          have h4 := show ¬ s.2.2.2.1 = 112 from h4
          have h6 := show 3 ≤ g 2 5 from h6
          simp [bI, mbB, h1, h2, h4, h6]
        · refine Ev.sn e_X9_mayBegin 2 (i' := 35) (ls' := [_]) (st' := [_]) rfl ?_
          refine Ev.iret e_X9_mayBegin rfl rfl rfl ?_ rfl
          have h1 := show ¬ s.2.2.2.1 = 107 from h1
          have h2 := show ¬ s.2.2.2.1 = 116 from h2
          have h4 := show ¬ s.2.2.2.1 = 112 from h4
          have h6 := show ¬ 3 ≤ g 2 5 from h6
          simp [bI, mbB, h1, h2, h4, h6]
theorem ixa (a b t : Nat) : nI a + nI b * nI t = nI (a + b * t) := by rw [pk_mul, nI_add]
theorem wT_2 (g : RG) (tr : Int64) (t0 : Nat → Int32) (s : TS) (F : Nat → Int32) : (wT g tr t0 s).set 2 (.inl (0, 6, .inl F)) = wT (va_up g 2 F) tr t0 s := rfl
theorem wT_3 (g : RG) (tr : Int64) (t0 : Nat → Int32) (s : TS) (F : Nat → Int32) : (wT g tr t0 s).set 3 (.inl (0, 48, .inl F)) = wT (va_up g 3 F) tr t0 s := rfl
theorem wT_4 (g : RG) (tr : Int64) (t0 : Nat → Int32) (s : TS) (F : Nat → Int32) : (wT g tr t0 s).set 4 (.inl (0, 20, .inl F)) = wT (va_up g 4 F) tr t0 s := rfl
theorem wT_5 (g : RG) (tr : Int64) (t0 : Nat → Int32) (s : TS) (F : Nat → Int32) : (wT g tr t0 s).set 5 (.inl (0, 24, .inl F)) = wT (va_up g 5 F) tr t0 s := rfl
theorem wT_6 (g : RG) (tr : Int64) (t0 : Nat → Int32) (s : TS) (F : Nat → Int32) : (wT g tr t0 s).set 6 (.inl (0, 12, .inl F)) = wT (va_up g 6 F) tr t0 s := rfl
def rL9 (f : Nat → Int32) (k : Nat) (g : RG) (s : TS) : RG × TS := (stA (stA g 6 (6 + 2 * ((nm9 f k 0 2 s).1).toNatClampNeg) ((nm9 f k 0 60 (nm9 f k 0 2 s).2).1)) 6 (7 + 2 * ((nm9 f k 0 2 s).1).toNatClampNeg) ((nm9 f k (nm9 f k 0 60 (nm9 f k 0 2 s).2).1 60 (nm9 f k 0 60 (nm9 f k 0 2 s).2).2).1), (nm9 f k (nm9 f k 0 60 (nm9 f k 0 2 s).2).1 60 (nm9 f k 0 60 (nm9 f k 0 2 s).2).2).2)
set_option maxRecDepth 20000 in
set_option maxHeartbeats 200000 in
theorem c_X9_readsItem_k (d : Nat) (g : RG) (tr : Int64) (t0 : Nat → Int32) {f : Nat → Int32} (hf : g 1 = f) {k : Nat} (ht : t0 0 = nI k) (hk : k ≤ 200) (hl : ∀ i, i < k → ∃ m, m < 256 ∧ f i = nI m) {s : TS} (hs : s.1 ≤ k) : Ev (d + 4) 130 0 [.ref 0, .int 107, .null, .null, .null] [] (wT g tr t0 s) none (wT (rL9 f k g s).1 tr t0 (rL9 f k g s).2) := by
  obtain ⟨u, hu, eu⟩ := nm9_in (f := f) (k := k) (s := s) (b := 2) (by omega)
  rw [show nI 2 = (2 : Int32) from rfl] at eu
  have eu2 : ((nm9 f k 0 2 s).1).toNatClampNeg = u := by rw [eu]; exact nI_clamp (by omega)
  unfold rL9
  rw [eu2]
  clear eu2
  have hs1 := nm9_le (f := f) (k := k) (lo := 0) (hi := 2) (s := s) hs
  obtain ⟨x1, hx1⟩ : ∃ x, nm9 f k 0 2 s = x := ⟨_, rfl⟩
  rw [hx1] at hs1 eu ⊢
  have hs2 := nm9_le (f := f) (k := k) (lo := 0) (hi := 60) (s := x1.2) hs1
  obtain ⟨x2, hx2⟩ : ∃ x, nm9 f k 0 60 x1.2 = x := ⟨_, rfl⟩
  rw [hx2] at hs2 ⊢
  have hs3 := nm9_le (f := f) (k := k) (lo := x2.1) (hi := 60) (s := x2.2) hs2
  obtain ⟨x3, hx3⟩ : ∃ x, nm9 f k x2.1 60 x2.2 = x := ⟨_, rfl⟩
  rw [hx3] at hs3 ⊢
  refine Ev.sn e_X9_readsItem 2 (i' := 2) (ls' := [_, _, _, _, _]) (st' := [_, _]) rfl ?_
  refine Ev.brT (i1 := 3) (i2 := 37) e_X9_readsItem rfl rfl (rfl) ?_
  refine Ev.sn e_X9_readsItem 3 (i' := 6) (ls' := [_, _, _, _, _]) (st' := [_, _, _]) rfl ?_
  refine Ev.clV e_X9_readsItem rfl rfl (as := [_, _]) rfl rfl rfl kl_X9_number rfl rfl rfl (n_X9_number _ g _ _ hf ht hk hl hs hx1) rfl ?_
  refine Ev.sn e_X9_readsItem 4 (i' := 11) (ls' := [_, _, _, _, _]) (st' := [_, _, _]) rfl ?_
  refine Ev.clV e_X9_readsItem rfl rfl (as := [_, _]) rfl rfl rfl kl_X9_number rfl rfl rfl (n_X9_number _ g _ _ hf ht hk hl hs1 hx2) rfl ?_
  refine Ev.sn e_X9_readsItem 4 (i' := 16) (ls' := [_, _, _, _, _]) (st' := [_, _, _]) rfl ?_
  refine Ev.clV e_X9_readsItem rfl rfl (as := [_, _]) rfl rfl rfl kl_X9_number rfl rfl rfl (n_X9_number _ g _ _ hf ht hk hl hs2 hx3) rfl ?_
  refine Ev.sn e_X9_readsItem 9 (i' := 26) (ls' := [_, _, _, _, _]) (st' := [_, _, _]) rfl ?_
  refine Ev.iastE e_X9_readsItem rfl rfl rfl (m := 6 + 2 * u) (by rw [eu]; exact ixa 6 2 u) (by omega) (w1 := wT (stA g 6 (6 + 2 * u) x2.1) tr t0 x3.2) (wT_6 _ _ _ _ _) ?_
  obtain ⟨g1, eg1⟩ : ∃ x, x = (stA g 6 (6 + 2 * u) x2.1) := ⟨_, rfl⟩
  rw [← eg1]
  refine Ev.sn e_X9_readsItem 8 (i' := 35) (ls' := [_, _, _, _, _]) (st' := [_, _, _]) rfl ?_
  refine Ev.iastE e_X9_readsItem rfl rfl rfl (m := 7 + 2 * u) (by rw [eu]; exact ixa 7 2 u) (by omega) (w1 := wT (stA g1 6 (7 + 2 * u) x3.1) tr t0 x3.2) (wT_6 _ _ _ _ _) ?_
  refine Ev.sn e_X9_readsItem 1 (i' := 198) (ls' := [_, _, _, _, _]) (st' := []) rfl ?_
  exact Ev.vret e_X9_readsItem rfl rfl rfl
def rT9 (f : Nat → Int32) (k n : Nat) (g : RG) (s : TS) : RG × TS := (stA (stA (stA (stA (stA g 3 (24 + 4 * n) ((nm9 f k 0 2 s).1)) 3 (24 + 4 * n + 1) ((nm9 f k 1 48 (nm9 f k 0 2 s).2).1)) 3 (24 + 4 * n + 2) ((nm9 f k 1 99 (nm9 f k 1 48 (nm9 f k 0 2 s).2).2).1)) 3 (24 + 4 * n + 3) ((nm9 f k 1 9 (nm9 f k 1 99 (nm9 f k 1 48 (nm9 f k 0 2 s).2).2).2).1)) 2 3 (nI (n + 1)), (nm9 f k 1 9 (nm9 f k 1 99 (nm9 f k 1 48 (nm9 f k 0 2 s).2).2).2).2)
set_option maxRecDepth 20000 in
set_option maxHeartbeats 200000 in
theorem c_X9_readsItem_t (d : Nat) (g : RG) (tr : Int64) (t0 : Nat → Int32) {f : Nat → Int32} (hf : g 1 = f) {k : Nat} (ht : t0 0 = nI k) (hk : k ≤ 200) (hl : ∀ i, i < k → ∃ m, m < 256 ∧ f i = nI m) {s : TS} (hs : s.1 ≤ k) {n : Nat} (hn : g 2 3 = nI n) (hn2 : n < 6) : Ev (d + 4) 130 0 [.ref 0, .int 116, .null, .null, .null] [] (wT g tr t0 s) none (wT (rT9 f k n g s).1 tr t0 (rT9 f k n g s).2) := by
  unfold rT9
  have hs1 := nm9_le (f := f) (k := k) (lo := 0) (hi := 2) (s := s) hs
  obtain ⟨x1, hx1⟩ : ∃ x, nm9 f k 0 2 s = x := ⟨_, rfl⟩
  rw [hx1] at hs1 ⊢
  have hs2 := nm9_le (f := f) (k := k) (lo := 1) (hi := 48) (s := x1.2) hs1
  obtain ⟨x2, hx2⟩ : ∃ x, nm9 f k 1 48 x1.2 = x := ⟨_, rfl⟩
  rw [hx2] at hs2 ⊢
  have hs3 := nm9_le (f := f) (k := k) (lo := 1) (hi := 99) (s := x2.2) hs2
  obtain ⟨x3, hx3⟩ : ∃ x, nm9 f k 1 99 x2.2 = x := ⟨_, rfl⟩
  rw [hx3] at hs3 ⊢
  have hs4 := nm9_le (f := f) (k := k) (lo := 1) (hi := 9) (s := x3.2) hs3
  obtain ⟨x4, hx4⟩ : ∃ x, nm9 f k 1 9 x3.2 = x := ⟨_, rfl⟩
  rw [hx4] at hs4 ⊢
  refine Ev.sn e_X9_readsItem 2 (i' := 2) (ls' := [_, _, _, _, _]) (st' := [_, _]) rfl ?_
  refine Ev.brF (i1 := 3) (i2 := 37) e_X9_readsItem rfl rfl ((by decide)) ?_
  refine Ev.sn e_X9_readsItem 2 (i' := 39) (ls' := [_, _, _, _, _]) (st' := [_, _]) rfl ?_
  refine Ev.brT (i1 := 40) (i2 := 96) e_X9_readsItem rfl rfl (rfl) ?_
  refine Ev.sn e_X9_readsItem 5 (i' := 45) (ls' := [_, _, _, _, _]) (st' := [_, _, _, _]) rfl ?_
  refine Ev.ialdE e_X9_readsItem rfl rfl rfl rfl (m := 3) rfl (by decide) ?_
  refine Ev.sn e_X9_readsItem 3 (i' := 49) (ls' := [_, _, _, _, _]) (st' := []) rfl ?_
  rw [show (24 : Int32) + 4 * (va_up g 0 (tS (nI s.1) s.2.1 (nI s.2.2.1) s.2.2.2.1 s.2.2.2.2 t0)) 2 3 = nI (24 + 4 * n) by rw [show (va_up g 0 (tS (nI s.1) s.2.1 (nI s.2.2.1) s.2.2.2.1 s.2.2.2.2 t0)) 2 3 = nI n from hn]; exact ixa 24 4 n]
  refine Ev.sn e_X9_readsItem 6 (i' := 55) (ls' := [_, _, _, _, _]) (st' := [_, _, _, _, _]) rfl ?_
  refine Ev.clV e_X9_readsItem rfl rfl (as := [_, _]) rfl rfl rfl kl_X9_number rfl rfl rfl (n_X9_number _ g _ _ hf ht hk hl hs hx1) rfl ?_
  refine Ev.iastE e_X9_readsItem rfl rfl rfl (m := 24 + 4 * n) rfl (by omega) (w1 := wT (stA g 3 (24 + 4 * n) x1.1) tr t0 x1.2) (wT_3 _ _ _ _ _) ?_
  have hf1 : (stA g 3 (24 + 4 * n) x1.1) 1 = f := (stA_ne (by decide)).trans hf
  have hn1 : (stA g 3 (24 + 4 * n) x1.1) 2 3 = nI n := by rw [stA_ne (by decide)]; exact hn
  obtain ⟨g1, eg1⟩ : ∃ x, x = (stA g 3 (24 + 4 * n) x1.1) := ⟨_, rfl⟩
  rw [← eg1] at hf1 hn1 ⊢
  refine Ev.sn e_X9_readsItem 8 (i' := 65) (ls' := [_, _, _, _, _]) (st' := [_, _, _, _, _]) rfl ?_
  refine Ev.clV e_X9_readsItem rfl rfl (as := [_, _]) rfl rfl rfl kl_X9_number rfl rfl rfl (n_X9_number _ g1 _ _ hf1 ht hk hl hs1 hx2) rfl ?_
  refine Ev.iastE e_X9_readsItem rfl rfl rfl (m := 24 + 4 * n + 1) (nI_add (24 + 4 * n) 1) (by omega) (w1 := wT (stA g1 3 (24 + 4 * n + 1) x2.1) tr t0 x2.2) (wT_3 _ _ _ _ _) ?_
  have hf2 : (stA g1 3 (24 + 4 * n + 1) x2.1) 1 = f := (stA_ne (by decide)).trans hf1
  have hn2 : (stA g1 3 (24 + 4 * n + 1) x2.1) 2 3 = nI n := by rw [stA_ne (by decide)]; exact hn1
  obtain ⟨g2, eg2⟩ : ∃ x, x = (stA g1 3 (24 + 4 * n + 1) x2.1) := ⟨_, rfl⟩
  rw [← eg2] at hf2 hn2 ⊢
  refine Ev.sn e_X9_readsItem 8 (i' := 75) (ls' := [_, _, _, _, _]) (st' := [_, _, _, _, _]) rfl ?_
  refine Ev.clV e_X9_readsItem rfl rfl (as := [_, _]) rfl rfl rfl kl_X9_number rfl rfl rfl (n_X9_number _ g2 _ _ hf2 ht hk hl hs2 hx3) rfl ?_
  refine Ev.iastE e_X9_readsItem rfl rfl rfl (m := 24 + 4 * n + 2) (nI_add (24 + 4 * n) 2) (by omega) (w1 := wT (stA g2 3 (24 + 4 * n + 2) x3.1) tr t0 x3.2) (wT_3 _ _ _ _ _) ?_
  have hf3 : (stA g2 3 (24 + 4 * n + 2) x3.1) 1 = f := (stA_ne (by decide)).trans hf2
  have hn3 : (stA g2 3 (24 + 4 * n + 2) x3.1) 2 3 = nI n := by rw [stA_ne (by decide)]; exact hn2
  obtain ⟨g3, eg3⟩ : ∃ x, x = (stA g2 3 (24 + 4 * n + 2) x3.1) := ⟨_, rfl⟩
  rw [← eg3] at hf3 hn3 ⊢
  refine Ev.sn e_X9_readsItem 8 (i' := 85) (ls' := [_, _, _, _, _]) (st' := [_, _, _, _, _]) rfl ?_
  refine Ev.clV e_X9_readsItem rfl rfl (as := [_, _]) rfl rfl rfl kl_X9_number rfl rfl rfl (n_X9_number _ g3 _ _ hf3 ht hk hl hs3 hx4) rfl ?_
  refine Ev.iastE e_X9_readsItem rfl rfl rfl (m := 24 + 4 * n + 3) (nI_add (24 + 4 * n) 3) (by omega) (w1 := wT (stA g3 3 (24 + 4 * n + 3) x4.1) tr t0 x4.2) (wT_3 _ _ _ _ _) ?_
  have hf4 : (stA g3 3 (24 + 4 * n + 3) x4.1) 1 = f := (stA_ne (by decide)).trans hf3
  have hn4 : (stA g3 3 (24 + 4 * n + 3) x4.1) 2 3 = nI n := by rw [stA_ne (by decide)]; exact hn3
  obtain ⟨g4, eg4⟩ : ∃ x, x = (stA g3 3 (24 + 4 * n + 3) x4.1) := ⟨_, rfl⟩
  rw [← eg4] at hf4 hn4 ⊢
  refine Ev.sn e_X9_readsItem 4 (i' := 91) (ls' := [_, _, _, _, _]) (st' := [_, _, _, _]) rfl ?_
  refine Ev.ialdE e_X9_readsItem rfl rfl rfl rfl (m := 3) rfl (by decide) ?_
  refine Ev.sn e_X9_readsItem 2 (i' := 94) (ls' := [_, _, _, _, _]) (st' := [_, _, _]) rfl ?_
  refine Ev.iastE e_X9_readsItem rfl rfl rfl (m := 3) rfl (by decide) (w1 := wT (stA g4 2 3 (g4 2 3 + 1)) tr t0 x4.2) (wT_2 _ _ _ _ _) ?_
  refine Ev.sn e_X9_readsItem 1 (i' := 198) (ls' := [_, _, _, _, _]) (st' := []) rfl ?_
  exact Ev.vret e_X9_readsItem rfl rfl (by rw [hn4, nI_1])
def rP9 (f : Nat → Int32) (k n : Nat) (g : RG) (s : TS) : RG × TS := (stA (stA (stA g 4 (10 + 2 * n) ((nm9 f k 1 48 s).1)) 4 (11 + 2 * n) ((nm9 f k 1 99 (nm9 f k 1 48 s).2).1)) 2 4 (nI (n + 1)), (nm9 f k 1 99 (nm9 f k 1 48 s).2).2)
set_option maxRecDepth 20000 in
set_option maxHeartbeats 200000 in
theorem c_X9_readsItem_p (d : Nat) (g : RG) (tr : Int64) (t0 : Nat → Int32) {f : Nat → Int32} (hf : g 1 = f) {k : Nat} (ht : t0 0 = nI k) (hk : k ≤ 200) (hl : ∀ i, i < k → ∃ m, m < 256 ∧ f i = nI m) {s : TS} (hs : s.1 ≤ k) {n : Nat} (hn : g 2 4 = nI n) (hn2 : n < 5) : Ev (d + 4) 130 0 [.ref 0, .int 112, .null, .null, .null] [] (wT g tr t0 s) none (wT (rP9 f k n g s).1 tr t0 (rP9 f k n g s).2) := by
  unfold rP9
  have hs1 := nm9_le (f := f) (k := k) (lo := 1) (hi := 48) (s := s) hs
  obtain ⟨x1, hx1⟩ : ∃ x, nm9 f k 1 48 s = x := ⟨_, rfl⟩
  rw [hx1] at hs1 ⊢
  have hs2 := nm9_le (f := f) (k := k) (lo := 1) (hi := 99) (s := x1.2) hs1
  obtain ⟨x2, hx2⟩ : ∃ x, nm9 f k 1 99 x1.2 = x := ⟨_, rfl⟩
  rw [hx2] at hs2 ⊢
  refine Ev.sn e_X9_readsItem 2 (i' := 2) (ls' := [_, _, _, _, _]) (st' := [_, _]) rfl ?_
  refine Ev.brF (i1 := 3) (i2 := 37) e_X9_readsItem rfl rfl ((by decide)) ?_
  refine Ev.sn e_X9_readsItem 2 (i' := 39) (ls' := [_, _, _, _, _]) (st' := [_, _]) rfl ?_
  refine Ev.brF (i1 := 40) (i2 := 96) e_X9_readsItem rfl rfl ((by decide)) ?_
  refine Ev.sn e_X9_readsItem 2 (i' := 98) (ls' := [_, _, _, _, _]) (st' := [_, _]) rfl ?_
  refine Ev.brT (i1 := 99) (i2 := 138) e_X9_readsItem rfl rfl (rfl) ?_
  refine Ev.sn e_X9_readsItem 7 (i' := 106) (ls' := [_, _, _, _, _]) (st' := [_, _, _, _, _]) rfl ?_
  refine Ev.ialdE e_X9_readsItem rfl rfl rfl rfl (m := 4) rfl (by decide) ?_
  refine Ev.sn e_X9_readsItem 5 (i' := 112) (ls' := [_, _, _, _, _]) (st' := [_, _, _, _, _]) rfl ?_
  refine Ev.clV e_X9_readsItem rfl rfl (as := [_, _]) rfl rfl rfl kl_X9_number rfl rfl rfl (n_X9_number _ g _ _ hf ht hk hl hs hx1) rfl ?_
  refine Ev.iastE e_X9_readsItem rfl rfl rfl (m := 10 + 2 * n) (show (10 : Int32) + 2 * g 2 4 = nI (10 + 2 * n) by rw [hn]; exact ixa 10 2 n) (by omega) (w1 := wT (stA g 4 (10 + 2 * n) x1.1) tr t0 x1.2) (wT_4 _ _ _ _ _) ?_
  have hf1 : (stA g 4 (10 + 2 * n) x1.1) 1 = f := (stA_ne (by decide)).trans hf
  have hn1 : (stA g 4 (10 + 2 * n) x1.1) 2 4 = nI n := by rw [stA_ne (by decide)]; exact hn
  obtain ⟨g1, eg1⟩ : ∃ x, x = (stA g 4 (10 + 2 * n) x1.1) := ⟨_, rfl⟩
  rw [← eg1] at hf1 hn1 ⊢
  refine Ev.sn e_X9_readsItem 7 (i' := 121) (ls' := [_, _, _, _, _]) (st' := [_, _, _, _, _]) rfl ?_
  refine Ev.ialdE e_X9_readsItem rfl rfl rfl rfl (m := 4) rfl (by decide) ?_
  refine Ev.sn e_X9_readsItem 5 (i' := 127) (ls' := [_, _, _, _, _]) (st' := [_, _, _, _, _]) rfl ?_
  refine Ev.clV e_X9_readsItem rfl rfl (as := [_, _]) rfl rfl rfl kl_X9_number rfl rfl rfl (n_X9_number _ g1 _ _ hf1 ht hk hl hs1 hx2) rfl ?_
  refine Ev.iastE e_X9_readsItem rfl rfl rfl (m := 11 + 2 * n) (show (11 : Int32) + 2 * g1 2 4 = nI (11 + 2 * n) by rw [hn1]; exact ixa 11 2 n) (by omega) (w1 := wT (stA g1 4 (11 + 2 * n) x2.1) tr t0 x2.2) (wT_4 _ _ _ _ _) ?_
  have hf2 : (stA g1 4 (11 + 2 * n) x2.1) 1 = f := (stA_ne (by decide)).trans hf1
  have hn2 : (stA g1 4 (11 + 2 * n) x2.1) 2 4 = nI n := by rw [stA_ne (by decide)]; exact hn1
  obtain ⟨g2, eg2⟩ : ∃ x, x = (stA g1 4 (11 + 2 * n) x2.1) := ⟨_, rfl⟩
  rw [← eg2] at hf2 hn2 ⊢
  refine Ev.sn e_X9_readsItem 4 (i' := 133) (ls' := [_, _, _, _, _]) (st' := [_, _, _, _]) rfl ?_
  refine Ev.ialdE e_X9_readsItem rfl rfl rfl rfl (m := 4) rfl (by decide) ?_
  refine Ev.sn e_X9_readsItem 2 (i' := 136) (ls' := [_, _, _, _, _]) (st' := [_, _, _]) rfl ?_
  refine Ev.iastE e_X9_readsItem rfl rfl rfl (m := 4) rfl (by decide) (w1 := wT (stA g2 2 4 (g2 2 4 + 1)) tr t0 x2.2) (wT_2 _ _ _ _ _) ?_
  refine Ev.sn e_X9_readsItem 1 (i' := 198) (ls' := [_, _, _, _, _]) (st' := []) rfl ?_
  exact Ev.vret e_X9_readsItem rfl rfl (by rw [hn2, nI_1])
def rD9 (f : Nat → Int32) (k n : Nat) (g : RG) (s : TS) : RG × TS := (stA (stA (stA (stA (stA g 5 (12 + 4 * n) ((nm9 f k 0 60 s).1)) 5 (12 + 4 * n + 1) ((nm9 f k ((nm9 f k 0 60 s).1 + 1) 99 (nm9 f k 0 60 s).2).1)) 5 (12 + 4 * n + 2) ((nm9 f k 1 48 (nm9 f k ((nm9 f k 0 60 s).1 + 1) 99 (nm9 f k 0 60 s).2).2).1)) 5 (12 + 4 * n + 3) ((nm9 f k 1 99 (nm9 f k 1 48 (nm9 f k ((nm9 f k 0 60 s).1 + 1) 99 (nm9 f k 0 60 s).2).2).2).1)) 2 5 (nI (n + 1)), (nm9 f k 1 99 (nm9 f k 1 48 (nm9 f k ((nm9 f k 0 60 s).1 + 1) 99 (nm9 f k 0 60 s).2).2).2).2)
set_option maxRecDepth 20000 in
set_option maxHeartbeats 200000 in
theorem c_X9_readsItem_d (d : Nat) (g : RG) (tr : Int64) (t0 : Nat → Int32) {f : Nat → Int32} (hf : g 1 = f) {k : Nat} (ht : t0 0 = nI k) (hk : k ≤ 200) (hl : ∀ i, i < k → ∃ m, m < 256 ∧ f i = nI m) {s : TS} (hs : s.1 ≤ k) {n : Nat} (hn : g 2 5 = nI n) (hn2 : n < 3) : Ev (d + 4) 130 0 [.ref 0, .int 100, .null, .null, .null] [] (wT g tr t0 s) none (wT (rD9 f k n g s).1 tr t0 (rD9 f k n g s).2) := by
  unfold rD9
  have hs1 := nm9_le (f := f) (k := k) (lo := 0) (hi := 60) (s := s) hs
  obtain ⟨x1, hx1⟩ : ∃ x, nm9 f k 0 60 s = x := ⟨_, rfl⟩
  rw [hx1] at hs1 ⊢
  have hs2 := nm9_le (f := f) (k := k) (lo := (x1.1 + 1)) (hi := 99) (s := x1.2) hs1
  obtain ⟨x2, hx2⟩ : ∃ x, nm9 f k (x1.1 + 1) 99 x1.2 = x := ⟨_, rfl⟩
  rw [hx2] at hs2 ⊢
  have hs3 := nm9_le (f := f) (k := k) (lo := 1) (hi := 48) (s := x2.2) hs2
  obtain ⟨x3, hx3⟩ : ∃ x, nm9 f k 1 48 x2.2 = x := ⟨_, rfl⟩
  rw [hx3] at hs3 ⊢
  have hs4 := nm9_le (f := f) (k := k) (lo := 1) (hi := 99) (s := x3.2) hs3
  obtain ⟨x4, hx4⟩ : ∃ x, nm9 f k 1 99 x3.2 = x := ⟨_, rfl⟩
  rw [hx4] at hs4 ⊢
  refine Ev.sn e_X9_readsItem 2 (i' := 2) (ls' := [_, _, _, _, _]) (st' := [_, _]) rfl ?_
  refine Ev.brF (i1 := 3) (i2 := 37) e_X9_readsItem rfl rfl ((by decide)) ?_
  refine Ev.sn e_X9_readsItem 2 (i' := 39) (ls' := [_, _, _, _, _]) (st' := [_, _]) rfl ?_
  refine Ev.brF (i1 := 40) (i2 := 96) e_X9_readsItem rfl rfl ((by decide)) ?_
  refine Ev.sn e_X9_readsItem 2 (i' := 98) (ls' := [_, _, _, _, _]) (st' := [_, _]) rfl ?_
  refine Ev.brF (i1 := 99) (i2 := 138) e_X9_readsItem rfl rfl ((by decide)) ?_
  refine Ev.sn e_X9_readsItem 5 (i' := 143) (ls' := [_, _, _, _, _]) (st' := [_, _, _, _]) rfl ?_
  refine Ev.ialdE e_X9_readsItem rfl rfl rfl rfl (m := 5) rfl (by decide) ?_
  refine Ev.sn e_X9_readsItem 3 (i' := 147) (ls' := [_, _, _, _, _]) (st' := []) rfl ?_
  rw [show (12 : Int32) + 4 * (va_up g 0 (tS (nI s.1) s.2.1 (nI s.2.2.1) s.2.2.2.1 s.2.2.2.2 t0)) 2 5 = nI (12 + 4 * n) by rw [show (va_up g 0 (tS (nI s.1) s.2.1 (nI s.2.2.1) s.2.2.2.1 s.2.2.2.2 t0)) 2 5 = nI n from hn]; exact ixa 12 4 n]
  refine Ev.sn e_X9_readsItem 6 (i' := 153) (ls' := [_, _, _, _, _]) (st' := [_, _, _, _, _]) rfl ?_
  refine Ev.clV e_X9_readsItem rfl rfl (as := [_, _]) rfl rfl rfl kl_X9_number rfl rfl rfl (n_X9_number _ g _ _ hf ht hk hl hs hx1) rfl ?_
  refine Ev.iastE e_X9_readsItem rfl rfl rfl (m := 12 + 4 * n) rfl (by omega) (w1 := wT (stA g 5 (12 + 4 * n) x1.1) tr t0 x1.2) (wT_5 _ _ _ _ _) ?_
  have hf1 : (stA g 5 (12 + 4 * n) x1.1) 1 = f := (stA_ne (by decide)).trans hf
  have hn1 : (stA g 5 (12 + 4 * n) x1.1) 2 5 = nI n := by rw [stA_ne (by decide)]; exact hn
  have h18 : (stA g 5 (12 + 4 * n) x1.1) 5 (12 + 4 * n) = x1.1 := stA_eq
  obtain ⟨g1, eg1⟩ : ∃ x, x = (stA g 5 (12 + 4 * n) x1.1) := ⟨_, rfl⟩
  rw [← eg1] at hf1 hn1 h18 ⊢
  refine Ev.sn e_X9_readsItem 9 (i' := 164) (ls' := [_, _, _, _, _]) (st' := [_, _, _, _, _]) rfl ?_
  refine Ev.ialdE e_X9_readsItem rfl rfl rfl rfl (m := 12 + 4 * n) rfl (by omega) ?_
  refine Ev.sn e_X9_readsItem 3 (i' := 168) (ls' := [_, _, _, _, _]) (st' := [_, _, _, _, _]) rfl ?_
  refine Ev.clV e_X9_readsItem rfl rfl (as := [_, _]) rfl rfl rfl kl_X9_number rfl rfl rfl (by rw [show (va_up g1 0 (tS (nI x1.2.1) x1.2.2.1 (nI x1.2.2.2.1) x1.2.2.2.2.1 x1.2.2.2.2.2 t0)) 5 (12 + 4 * n) = x1.1 from h18]; exact n_X9_number _ g1 _ _ hf1 ht hk hl hs1 hx2) rfl ?_
  refine Ev.iastE e_X9_readsItem rfl rfl rfl (m := 12 + 4 * n + 1) (nI_add (12 + 4 * n) 1) (by omega) (w1 := wT (stA g1 5 (12 + 4 * n + 1) x2.1) tr t0 x2.2) (wT_5 _ _ _ _ _) ?_
  have hf2 : (stA g1 5 (12 + 4 * n + 1) x2.1) 1 = f := (stA_ne (by decide)).trans hf1
  have hn2 : (stA g1 5 (12 + 4 * n + 1) x2.1) 2 5 = nI n := by rw [stA_ne (by decide)]; exact hn1
  obtain ⟨g2, eg2⟩ : ∃ x, x = (stA g1 5 (12 + 4 * n + 1) x2.1) := ⟨_, rfl⟩
  rw [← eg2] at hf2 hn2 ⊢
  refine Ev.sn e_X9_readsItem 8 (i' := 178) (ls' := [_, _, _, _, _]) (st' := [_, _, _, _, _]) rfl ?_
  refine Ev.clV e_X9_readsItem rfl rfl (as := [_, _]) rfl rfl rfl kl_X9_number rfl rfl rfl (n_X9_number _ g2 _ _ hf2 ht hk hl hs2 hx3) rfl ?_
  refine Ev.iastE e_X9_readsItem rfl rfl rfl (m := 12 + 4 * n + 2) (nI_add (12 + 4 * n) 2) (by omega) (w1 := wT (stA g2 5 (12 + 4 * n + 2) x3.1) tr t0 x3.2) (wT_5 _ _ _ _ _) ?_
  have hf3 : (stA g2 5 (12 + 4 * n + 2) x3.1) 1 = f := (stA_ne (by decide)).trans hf2
  have hn3 : (stA g2 5 (12 + 4 * n + 2) x3.1) 2 5 = nI n := by rw [stA_ne (by decide)]; exact hn2
  obtain ⟨g3, eg3⟩ : ∃ x, x = (stA g2 5 (12 + 4 * n + 2) x3.1) := ⟨_, rfl⟩
  rw [← eg3] at hf3 hn3 ⊢
  refine Ev.sn e_X9_readsItem 8 (i' := 188) (ls' := [_, _, _, _, _]) (st' := [_, _, _, _, _]) rfl ?_
  refine Ev.clV e_X9_readsItem rfl rfl (as := [_, _]) rfl rfl rfl kl_X9_number rfl rfl rfl (n_X9_number _ g3 _ _ hf3 ht hk hl hs3 hx4) rfl ?_
  refine Ev.iastE e_X9_readsItem rfl rfl rfl (m := 12 + 4 * n + 3) (nI_add (12 + 4 * n) 3) (by omega) (w1 := wT (stA g3 5 (12 + 4 * n + 3) x4.1) tr t0 x4.2) (wT_5 _ _ _ _ _) ?_
  have hf4 : (stA g3 5 (12 + 4 * n + 3) x4.1) 1 = f := (stA_ne (by decide)).trans hf3
  have hn4 : (stA g3 5 (12 + 4 * n + 3) x4.1) 2 5 = nI n := by rw [stA_ne (by decide)]; exact hn3
  obtain ⟨g4, eg4⟩ : ∃ x, x = (stA g3 5 (12 + 4 * n + 3) x4.1) := ⟨_, rfl⟩
  rw [← eg4] at hf4 hn4 ⊢
  refine Ev.sn e_X9_readsItem 4 (i' := 194) (ls' := [_, _, _, _, _]) (st' := [_, _, _, _]) rfl ?_
  refine Ev.ialdE e_X9_readsItem rfl rfl rfl rfl (m := 5) rfl (by decide) ?_
  refine Ev.sn e_X9_readsItem 2 (i' := 197) (ls' := [_, _, _, _, _]) (st' := [_, _, _]) rfl ?_
  refine Ev.iastE e_X9_readsItem rfl rfl rfl (m := 5) rfl (by decide) (w1 := wT (stA g4 2 5 (g4 2 5 + 1)) tr t0 x4.2) (wT_2 _ _ _ _ _) ?_
  exact Ev.vret e_X9_readsItem rfl rfl (by rw [hn4, nI_1])
