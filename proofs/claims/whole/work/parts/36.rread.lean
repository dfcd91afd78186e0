/-! the text: the reference reads its items -/
def ad9 (f : Nat → Int32) (k : Nat) (s : TS) : TS := ((tkG f k s.1 s.2.2.2.1).1, (tkG f k s.1 s.2.2.2.1).2.1, (tkG f k s.1 s.2.2.2.1).2.2.1, (tkG f k s.1 s.2.2.2.1).2.2.2, s.2.2.2.2)
def tk9 (f : Nat → Int32) (k : Nat) (b : Bool) (s : TS) : Int32 × TS := if 0 ≤ s.2.2.2.2 then (0, s) else if b = false then (0, (s.1, s.2.1, s.2.2.1, s.2.2.2.1, nI s.2.2.1)) else (s.2.2.2.1, ad9 f k s)
def nm9 (f : Nat → Int32) (k : Nat) (lo hi : Int32) (s : TS) : Int32 × TS := tk9 f k (decide (s.2.1 = 2) && (decide (lo ≤ s.2.2.2.1) && decide (s.2.2.2.1 ≤ hi))) s
theorem tkG_le (f : Nat → Int32) {k i : Nat} (h : i ≤ k) (vl : Int32) : i ≤ (tkG f k i vl).1 ∧ (tkG f k i vl).1 ≤ k := by
  have h1 := skp_le f (k - i) i
  have h2 := dgR_le f (k - skp f (k - i) i) (skp f (k - i) i) 0
  unfold tkG
  split
  · exact ⟨h1.1, by show skp f (k - i) i ≤ k; omega⟩
  · split
    · exact ⟨by show i ≤ (dgR _ _ _ _).1; omega, by show (dgR _ _ _ _).1 ≤ k; omega⟩
    · exact ⟨by show i ≤ skp f (k - i) i + 1; omega, by show skp f (k - i) i + 1 ≤ k; omega⟩
theorem tk9_le {f : Nat → Int32} {k : Nat} {b : Bool} {s : TS} (h : s.1 ≤ k) : (tk9 f k b s).2.1 ≤ k := by
  unfold tk9
  split
  · exact h
  · split
    · exact h
    · exact (tkG_le f h _).2
theorem nm9_le {f : Nat → Int32} {k : Nat} {lo hi : Int32} {s : TS} (h : s.1 ≤ k) : (nm9 f k lo hi s).2.1 ≤ k := tk9_le h
theorem nm9_in {f : Nat → Int32} {k b : Nat} {s : TS} (hb : b < 2000) : ∃ m, m ≤ b ∧ (nm9 f k 0 (nI b) s).1 = nI m := by
  unfold nm9 tk9
  split
  · exact ⟨0, by omega, rfl⟩
  · split
    · exact ⟨0, by omega, rfl⟩
    · rename_i h
      simp only [Bool.not_eq_false, Bool.and_eq_true, decide_eq_true_eq] at h
      obtain ⟨m, h1, h2⟩ := (rngB (x := s.2.2.2.1) (k := b) hb).mp (by simp only [Bool.and_eq_true, decide_eq_true_eq]; exact h.2)
      exact ⟨m, h1, h2⟩
set_option maxRecDepth 20000 in
set_option maxHeartbeats 200000 in
theorem c_X9_isWell (d : Nat) (g : RG) (tr : Int64) (t0 : Nat → Int32) (s : TS) : Ev d 126 0 [.ref 0] [] (wT g tr t0 s) (some (.int (bI (! decide (0 ≤ s.2.2.2.2))))) (wT g tr t0 s) := by
  refine Ev.sn e_X9_isWell 2 (i' := 2) (ls' := [_]) (st' := [_]) rfl ?_
  refine Ev.br (i1 := 5) (i2 := 3) e_X9_isWell rfl rfl (fun h0 => ?_) (fun h0 => ?_)
  · refine Ev.sn e_X9_isWell 1 (i' := 6) (ls' := [_]) (st' := [_]) rfl ?_
    refine Ev.iret e_X9_isWell rfl rfl rfl ?_ rfl
    have h0 : 0 ≤ s.2.2.2.2 := h0
    simp [bI, h0]
  · refine Ev.sn e_X9_isWell 2 (i' := 6) (ls' := [_]) (st' := [_]) rfl ?_
    refine Ev.iret e_X9_isWell rfl rfl rfl ?_ rfl
    have h0 : ¬ 0 ≤ s.2.2.2.2 := h0
    simp [bI, h0]
set_option maxRecDepth 20000 in
set_option maxHeartbeats 200000 in
theorem t_X9_advances (d : Nat) (g : RG) (tr : Int64) (t0 : Nat → Int32) {f : Nat → Int32} (hf : g 1 = f) {k : Nat} (ht : t0 0 = nI k) (hk : k ≤ 200) (hl : ∀ i, i < k → ∃ m, m < 256 ∧ f i = nI m) {s : TS} (hs : s.1 ≤ k) : Ev (d + 1) 125 0 [.ref 0, .null] [] (wT g tr t0 s) none (wT g tr t0 (ad9 f k s)) := by
  subst hf
  exact c_X9_advances _ _ _ _ ht hk hl hs _ _ _ _
set_option maxRecDepth 20000 in
set_option maxHeartbeats 200000 in
theorem c_X9_takes (d : Nat) (g : RG) (tr : Int64) (t0 : Nat → Int32) {f : Nat → Int32} (hf : g 1 = f) {k : Nat} (ht : t0 0 = nI k) (hk : k ≤ 200) (hl : ∀ i, i < k → ∃ m, m < 256 ∧ f i = nI m) {s : TS} (hs : s.1 ≤ k) (b : Bool) : Ev (d + 2) 127 0 [.ref 0, .int (bI b), .null] [] (wT g tr t0 s) (some (.int ((tk9 f k b s).1))) (wT g tr t0 (tk9 f k b s).2) := by
  unfold tk9
  refine Ev.sn e_X9_takes 1 (i' := 1) (ls' := [_, _, _]) (st' := [_]) rfl ?_
  refine Ev.clV e_X9_takes rfl rfl (as := []) rfl rfl rfl kl_X9_isWell rfl rfl rfl (c_X9_isWell _ _ _ _ _) rfl ?_
  refine Ev.brB (i1 := 3) (i2 := 5) e_X9_takes rfl rfl (fun hw => ?_) (fun hw => ?_)
  · have hw2 : 0 ≤ s.2.2.2.2 := by simpa using hw
    rw [if_pos hw2]
    refine Ev.sn e_X9_takes 1 (i' := 4) (ls' := [_, _, _]) (st' := [_]) rfl ?_
    refine Ev.iret e_X9_takes rfl rfl rfl ?_ rfl
    rfl
  · have hw2 : ¬ 0 ≤ s.2.2.2.2 := by simpa using hw
    rw [if_neg hw2]
    refine Ev.sn e_X9_takes 1 (i' := 6) (ls' := [_, _, _]) (st' := [_]) rfl ?_
    refine Ev.brB (i1 := 7) (i2 := 13) e_X9_takes rfl rfl (fun hb => ?_) (fun hb => ?_)
    · rw [if_pos hb]
      refine Ev.sn e_X9_takes 3 (i' := 10) (ls' := [_, _, _]) (st' := [_, _]) rfl ?_
      refine Ev.put e_X9_takes rfl rfl rfl rfl rfl rfl (w1 := wT g tr t0 (s.1, s.2.1, s.2.2.1, s.2.2.2.1, nI s.2.2.1)) rfl ?_
      refine Ev.sn e_X9_takes 1 (i' := 12) (ls' := [_, _, _]) (st' := [_]) rfl ?_
      refine Ev.iret e_X9_takes rfl rfl rfl ?_ rfl
      rfl
    · rw [if_neg (show ¬ b = false by rw [hb]; decide)]
      refine Ev.sn e_X9_takes 4 (i' := 17) (ls' := [_, _, _]) (st' := [_]) rfl ?_
      refine Ev.clV e_X9_takes rfl rfl (as := []) rfl rfl rfl kl_X9_advances rfl rfl rfl (t_X9_advances _ _ _ _ hf ht hk hl hs) rfl ?_
      refine Ev.sn e_X9_takes 1 (i' := 19) (ls' := [_, _, _]) (st' := [_]) rfl ?_
      refine Ev.iret e_X9_takes rfl rfl rfl ?_ rfl
      rfl
set_option maxRecDepth 20000 in
set_option maxHeartbeats 200000 in
theorem c_X9_number (d : Nat) (g : RG) (tr : Int64) (t0 : Nat → Int32) {f : Nat → Int32} (hf : g 1 = f) {k : Nat} (ht : t0 0 = nI k) (hk : k ≤ 200) (hl : ∀ i, i < k → ∃ m, m < 256 ∧ f i = nI m) {s : TS} (hs : s.1 ≤ k) (lo hi : Int32) : Ev (d + 3) 128 0 [.ref 0, .int lo, .int hi] [] (wT g tr t0 s) (some (.int ((nm9 f k lo hi s).1))) (wT g tr t0 (nm9 f k lo hi s).2) := by
  unfold nm9
  refine Ev.sn e_X9_number 4 (i' := 4) (ls' := [_, _, _]) (st' := [_, _, _]) rfl ?_
  refine Ev.br (i1 := 5) (i2 := 13) e_X9_number rfl rfl (fun h1 => ?_) (fun h1 => ?_)
  · refine Ev.sn e_X9_number 4 (i' := 9) (ls' := [_, _, _]) (st' := [_, _, _, _]) rfl ?_
    refine Ev.clS e_X9_number rfl rfl rfl (as := [_, _, _]) rfl rfl rfl rfl rfl (c_X9_in _ _ _ _ _) rfl ?_
    refine Ev.brB (i1 := 13) (i2 := 11) e_X9_number rfl rfl (fun h2 => ?_) (fun h2 => ?_)
    · have h2 : (decide (lo ≤ s.2.2.2.1) && decide (s.2.2.2.1 ≤ hi)) = false := h2
      rw [show (decide (s.2.1 = 2) && (decide (lo ≤ s.2.2.2.1) && decide (s.2.2.2.1 ≤ hi))) = false by rw [h2]; simp]
      refine Ev.sn e_X9_number 1 (i' := 14) (ls' := [_, _, _]) (st' := [_, _]) rfl ?_
      refine Ev.clV e_X9_number rfl rfl (as := [_]) rfl rfl rfl kl_X9_takes rfl rfl rfl (c_X9_takes _ _ _ _ hf ht hk hl hs false) rfl ?_
      refine Ev.iret e_X9_number rfl rfl rfl ?_ rfl
      rfl
    · have h1 : s.2.1 = 2 := h1
      have h2 : (decide (lo ≤ s.2.2.2.1) && decide (s.2.2.2.1 ≤ hi)) = true := h2
      rw [show (decide (s.2.1 = 2) && (decide (lo ≤ s.2.2.2.1) && decide (s.2.2.2.1 ≤ hi))) = true by rw [h2]; simp [h1]]
      refine Ev.sn e_X9_number 2 (i' := 14) (ls' := [_, _, _]) (st' := [_, _]) rfl ?_
      refine Ev.clV e_X9_number rfl rfl (as := [_]) rfl rfl rfl kl_X9_takes rfl rfl rfl (c_X9_takes _ _ _ _ hf ht hk hl hs true) rfl ?_
      refine Ev.iret e_X9_number rfl rfl rfl ?_ rfl
      rfl
  · have h1 : ¬ s.2.1 = 2 := h1
    rw [show (decide (s.2.1 = 2) && (decide (lo ≤ s.2.2.2.1) && decide (s.2.2.2.1 ≤ hi))) = false by simp [h1]]
    refine Ev.sn e_X9_number 1 (i' := 14) (ls' := [_, _, _]) (st' := [_, _]) rfl ?_
    refine Ev.clV e_X9_number rfl rfl (as := [_]) rfl rfl rfl kl_X9_takes rfl rfl rfl (c_X9_takes _ _ _ _ hf ht hk hl hs false) rfl ?_
    refine Ev.iret e_X9_number rfl rfl rfl ?_ rfl
    rfl
theorem n_X9_number (d : Nat) (g : RG) (tr : Int64) (t0 : Nat → Int32) {f : Nat → Int32} (hf : g 1 = f) {k : Nat} (ht : t0 0 = nI k) (hk : k ≤ 200) (hl : ∀ i, i < k → ∃ m, m < 256 ∧ f i = nI m) {s : TS} (hs : s.1 ≤ k) {lo hi : Int32} {x : Int32 × TS} (hx : nm9 f k lo hi s = x) : Ev (d + 3) 128 0 [.ref 0, .int lo, .int hi] [] (wT g tr t0 s) (some (.int x.1)) (wT g tr t0 x.2) := by
  subst hx
  exact c_X9_number _ _ _ _ hf ht hk hl hs _ _
def mbB (v a b c : Int32) : Bool := decide (v = 107) || (if v = 116 then ! decide (6 ≤ a) else if v = 112 then ! decide (5 ≤ b) else ! decide (3 ≤ c))
set_option maxRecDepth 20000 in
set_option maxHeartbeats 200000 in
theorem c_X9_mayBegin (d : Nat) (g : RG) (tr : Int64) (t0 : Nat → Int32) (s : TS) : Ev d 129 0 [.ref 0] [] (wT g tr t0 s) (some (.int (bI (mbB s.2.2.2.1 (g 2 3) (g 2 4) (g 2 5))))) (wT g tr t0 s) := by
  refine Ev.sn e_X9_mayBegin 3 (i' := 3) (ls' := [_]) (st' := [_, _]) rfl ?_
  refine Ev.br (i1 := 32) (i2 := 4) e_X9_mayBegin rfl rfl (fun h1 => ?_) (fun h1 => ?_)
  · refine Ev.sn e_X9_mayBegin 2 (i' := 35) (ls' := [_]) (st' := [_]) rfl ?_
    refine Ev.iret e_X9_mayBegin rfl rfl rfl ?_ rfl
    have h1 := show s.2.2.2.1 = 107 from h1
    simp [bI, mbB, h1]
  · refine Ev.sn e_X9_mayBegin 3 (i' := 7) (ls' := [_]) (st' := [_, _]) rfl ?_
    refine Ev.br (i1 := 8) (i2 := 15) e_X9_mayBegin rfl rfl (fun h2 => ?_) (fun h2 => ?_)
    · refine Ev.sn e_X9_mayBegin 3 (i' := 11) (ls' := [_]) (st' := [_, _]) rfl ?_
      refine Ev.ialdE e_X9_mayBegin rfl rfl rfl rfl (m := 3) rfl (by decide) ?_
      refine Ev.sn e_X9_mayBegin 1 (i' := 13) (ls' := [_]) (st' := [_, _]) rfl ?_
      refine Ev.br (i1 := 34) (i2 := 14) e_X9_mayBegin rfl rfl (fun h3 => ?_) (fun h3 => ?_)
      · refine Ev.sn e_X9_mayBegin 1 (i' := 35) (ls' := [_]) (st' := [_]) rfl ?_
        refine Ev.iret e_X9_mayBegin rfl rfl rfl ?_ rfl
        have h1 := show ¬ s.2.2.2.1 = 107 from h1
        have h2 := show s.2.2.2.1 = 116 from h2
        have h3 := show 6 ≤ g 2 3 from h3
        simp [bI, mbB, h1, h2, h3]
      · refine Ev.sn e_X9_mayBegin 3 (i' := 35) (ls' := [_]) (st' := [_]) rfl ?_
        refine Ev.iret e_X9_mayBegin rfl rfl rfl ?_ rfl
        have h1 := show ¬ s.2.2.2.1 = 107 from h1
        have h2 := show s.2.2.2.1 = 116 from h2
        have h3 := show ¬ 6 ≤ g 2 3 from h3
        simp [bI, mbB, h1, h2, h3]
    · refine Ev.sn e_X9_mayBegin 3 (i' := 18) (ls' := [_]) (st' := [_, _]) rfl ?_
      refine Ev.br (i1 := 19) (i2 := 26) e_X9_mayBegin rfl rfl (fun h4 => ?_) (fun h4 => ?_)
      · refine Ev.sn e_X9_mayBegin 3 (i' := 22) (ls' := [_]) (st' := [_, _]) rfl ?_
        refine Ev.ialdE e_X9_mayBegin rfl rfl rfl rfl (m := 4) rfl (by decide) ?_
        refine Ev.sn e_X9_mayBegin 1 (i' := 24) (ls' := [_]) (st' := [_, _]) rfl ?_
        refine Ev.br (i1 := 34) (i2 := 25) e_X9_mayBegin rfl rfl (fun h5 => ?_) (fun h5 => ?_)
        · refine Ev.sn e_X9_mayBegin 1 (i' := 35) (ls' := [_]) (st' := [_]) rfl ?_
          refine Ev.iret e_X9_mayBegin rfl rfl rfl ?_ rfl
          have h1 := show ¬ s.2.2.2.1 = 107 from h1
          have h2 := show ¬ s.2.2.2.1 = 116 from h2
          have h4 := show s.2.2.2.1 = 112 from h4
          have h5 := show 5 ≤ g 2 4 from h5
          simp [bI, mbB, h1, h2, h4, h5]
        · refine Ev.sn e_X9_mayBegin 3 (i' := 35) (ls' := [_]) (st' := [_]) rfl ?_
          refine Ev.iret e_X9_mayBegin rfl rfl rfl ?_ rfl
          have h1 := show ¬ s.2.2.2.1 = 107 from h1
          have h2 := show ¬ s.2.2.2.1 = 116 from h2
          have h4 := show s.2.2.2.1 = 112 from h4
          have h5 := show ¬ 5 ≤ g 2 4 from h5
          simp [bI, mbB, h1, h2, h4, h5]
      · refine Ev.sn e_X9_mayBegin 3 (i' := 29) (ls' := [_]) (st' := [_, _]) rfl ?_
        refine Ev.ialdE e_X9_mayBegin rfl rfl rfl rfl (m := 5) rfl (by decide) ?_
        refine Ev.sn e_X9_mayBegin 1 (i' := 31) (ls' := [_]) (st' := [_, _]) rfl ?_
        refine Ev.br (i1 := 34) (i2 := 32) e_X9_mayBegin rfl rfl (fun h6 => ?_) (fun h6 => ?_)
        · refine Ev.sn e_X9_mayBegin 1 (i' := 35) (ls' := [_]) (st' := [_]) rfl ?_
          refine Ev.iret e_X9_mayBegin rfl rfl rfl ?_ rfl
          have h1 := show ¬ s.2.2.2.1 = 107 from h1
          have h2 := show ¬ s.2.2.2.1 = 116 from h2
          have h4 := show ¬ s.2.2.2.1 = 112 from h4
          have h6 := show 3 ≤ g 2 5 from h6
          simp [bI, mbB, h1, h2, h4, h6]
        · refine Ev.sn e_X9_mayBegin 2 (i' := 35) (ls' := [_]) (st' := [_]) rfl ?_
          refine Ev.iret e_X9_mayBegin rfl rfl rfl ?_ rfl
          have h1 := show ¬ s.2.2.2.1 = 107 from h1
          have h2 := show ¬ s.2.2.2.1 = 116 from h2
          have h4 := show ¬ s.2.2.2.1 = 112 from h4
          have h6 := show ¬ 3 ≤ g 2 5 from h6
          simp [bI, mbB, h1, h2, h4, h6]
