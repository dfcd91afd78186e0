/-! both read the same items: what is told -/
theorem nm5_rg {f : Nat → Int32} {k : Nat} (hk : k ≤ 200) {s r : TS} {lo hi : Int32} (h : SYN f k s r) (h2 : (nm5 f k lo hi s).2.2.2.2.2 = -1) : lo ≤ (nm5 f k lo hi s).1 ∧ (nm5 f k lo hi s).1 ≤ hi := by
  have ha := syn_ahd h
  unfold nm5 at h2 ⊢
  by_cases hc : (tk5 f k s).2.1 = 48 ∧ lo ≤ (tk5 f k s).2.2.2.1 ∧ (tk5 f k s).2.2.2.1 ≤ hi
  · rw [if_pos hc]; exact hc.2
  · rw [if_neg hc] at h2
    exfalso
    have h3 : (tk5 f k s).2.2.2.2 = -1 := ha.2.2.2.1
    unfold rf5 at h2
    rw [if_pos h3] at h2
    exact nI_m1 (by rw [ha.2.1]; exact Nat.le_trans ha.2.2.2.2.2.2 hk) h2
theorem num_eqR {f : Nat → Int32} {k : Nat} (hk : k ≤ 200) {s r : TS} (lo hi : Int32) (h : SYN f k s r) : (SYN f k (nm5 f k lo hi s).2 (nm9 f k lo hi r).2 ∧ (nm9 f k lo hi r).1 = (nm5 f k lo hi s).1 ∧ lo ≤ (nm5 f k lo hi s).1 ∧ (nm5 f k lo hi s).1 ≤ hi) ∨ FLT k (nm5 f k lo hi s).2 (nm9 f k lo hi r).2 := by
  rcases num_eq hk lo hi h with ⟨h1, h2⟩ | h1
  · exact Or.inl ⟨h1, h2.symm, nm5_rg hk h h1.1⟩
  · exact Or.inr h1
theorem btw_of {a b : Nat} {x : Int32} (ha : a < 2000) (hb : b < 2000) (h1 : nI a ≤ x) (h2 : x ≤ nI b) : btw a b x := by
  obtain ⟨m, h3, h4⟩ := (rngB (x := x) (k := b) hb).mp (by simp only [Bool.and_eq_true, decide_eq_true_eq]; exact ⟨Int32.le_trans (nI_pos' (by omega)) h1, h2⟩)
  refine ⟨m, ?_, h3, h4⟩
  rw [h4] at h1
  exact (nI_leI (by omega) (by omega)).mp h1
def TEL (n q dn : Nat) (g h : RG) : Prop :=
  (g 22 0 = nI n ∧ h 2 3 = nI n ∧ n ≤ 6) ∧ (g 22 1 = nI q ∧ h 2 4 = nI q ∧ q ≤ 5) ∧ (g 22 2 = nI dn ∧ h 2 5 = nI dn ∧ dn ≤ 3) ∧
  (∀ u, u < 3 → g 10 u = h 6 (6 + 2 * u) ∧ g 11 u = h 6 (7 + 2 * u) ∧ btw 0 60 (g 10 u) ∧ btw 0 60 (g 11 u)) ∧
  (∀ t, t < n → (g 12 t = h 3 (24 + 4 * t) ∧ g 13 t = h 3 (24 + 4 * t + 1) ∧ g 14 t = h 3 (24 + 4 * t + 2) ∧ g 15 t = h 3 (24 + 4 * t + 3)) ∧ btw 0 2 (g 12 t) ∧ btw 1 48 (g 13 t) ∧ btw 1 99 (g 14 t) ∧ btw 1 9 (g 15 t)) ∧
  (∀ p, p < q → (g 16 p = h 4 (10 + 2 * p) ∧ g 17 p = h 4 (11 + 2 * p)) ∧ btw 1 48 (g 16 p) ∧ btw 1 99 (g 17 p)) ∧
  (∀ p, p < dn → (g 18 p = h 5 (12 + 4 * p) ∧ g 19 p = h 5 (12 + 4 * p + 1) ∧ g 20 p = h 5 (12 + 4 * p + 2) ∧ g 21 p = h 5 (12 + 4 * p + 3)) ∧ btw 0 60 (g 18 p) ∧ btw 0 99 (g 19 p) ∧ btw 1 48 (g 20 p) ∧ btw 1 99 (g 21 p))
theorem tel_L {n q dn : Nat} {g h : RG} (hT : TEL n q dn g h) {u : Nat} (hu : u < 3) {a b : Int32} (ha : btw 0 60 a) (hb : btw 0 60 b) : TEL n q dn (stA (stA g 10 u a) 11 u b) (stA (stA h 6 (6 + 2 * u) a) 6 (7 + 2 * u) b) := by
  refine ⟨hT.1, hT.2.1, hT.2.2.1, fun x hx => ?_, hT.2.2.2.2.1, hT.2.2.2.2.2.1, hT.2.2.2.2.2.2⟩
  show upd (g 10) u a x = upd (upd (h 6) (6 + 2 * u) a) (7 + 2 * u) b (6 + 2 * x) ∧ upd (g 11) u b x = upd (upd (h 6) (6 + 2 * u) a) (7 + 2 * u) b (7 + 2 * x) ∧ btw 0 60 (upd (g 10) u a x) ∧ btw 0 60 (upd (g 11) u b x)
  by_cases e : x = u
  · subst e
    rw [pk_us, pk_us, pk_us, pk_un (by omega), pk_us]
    exact ⟨rfl, rfl, ha, hb⟩
  · rw [pk_un e, pk_un e, pk_un (by omega), pk_un (by omega), pk_un (by omega), pk_un (by omega)]
    exact hT.2.2.2.1 x hx
theorem tel_T {n q dn : Nat} {g h : RG} (hT : TEL n q dn g h) (hn : n < 6) {a b c e : Int32} (ha : btw 0 2 a) (hb : btw 1 48 b) (hc : btw 1 99 c) (he : btw 1 9 e) : TEL (n + 1) q dn (stA (stA (stA (stA (stA g 12 n a) 13 n b) 14 n c) 15 n e) 22 0 (nI (n + 1))) (stA (stA (stA (stA (stA h 3 (24 + 4 * n) a) 3 (24 + 4 * n + 1) b) 3 (24 + 4 * n + 2) c) 3 (24 + 4 * n + 3) e) 2 3 (nI (n + 1))) := by
  refine ⟨⟨rfl, rfl, hn⟩, hT.2.1, hT.2.2.1, hT.2.2.2.1, fun x hx => ?_, hT.2.2.2.2.2.1, hT.2.2.2.2.2.2⟩
  show (upd (g 12) n a x = upd (upd (upd (upd (h 3) (24 + 4 * n) a) (24 + 4 * n + 1) b) (24 + 4 * n + 2) c) (24 + 4 * n + 3) e (24 + 4 * x) ∧ upd (g 13) n b x = upd (upd (upd (upd (h 3) (24 + 4 * n) a) (24 + 4 * n + 1) b) (24 + 4 * n + 2) c) (24 + 4 * n + 3) e (24 + 4 * x + 1) ∧ upd (g 14) n c x = upd (upd (upd (upd (h 3) (24 + 4 * n) a) (24 + 4 * n + 1) b) (24 + 4 * n + 2) c) (24 + 4 * n + 3) e (24 + 4 * x + 2) ∧ upd (g 15) n e x = upd (upd (upd (upd (h 3) (24 + 4 * n) a) (24 + 4 * n + 1) b) (24 + 4 * n + 2) c) (24 + 4 * n + 3) e (24 + 4 * x + 3)) ∧ btw 0 2 (upd (g 12) n a x) ∧ btw 1 48 (upd (g 13) n b x) ∧ btw 1 99 (upd (g 14) n c x) ∧ btw 1 9 (upd (g 15) n e x)
  by_cases e0 : x = n
  · subst e0
    refine ⟨⟨?_, ?_, ?_, ?_⟩, by rw [pk_us]; exact ha, by rw [pk_us]; exact hb, by rw [pk_us]; exact hc, by rw [pk_us]; exact he⟩
    · rw [pk_us, pk_un (by omega), pk_un (by omega), pk_un (by omega), pk_us]
    · rw [pk_us, pk_un (by omega), pk_un (by omega), pk_us]
    · rw [pk_us, pk_un (by omega), pk_us]
    · rw [pk_us, pk_us]
  · have hx2 : x < n := by omega
    rw [pk_un e0, pk_un e0, pk_un e0, pk_un e0]
    iterate 16 rw [pk_un (by omega)]
    exact hT.2.2.2.2.1 x hx2
theorem tel_P {n q dn : Nat} {g h : RG} (hT : TEL n q dn g h) (hn : q < 5) {a b : Int32} (ha : btw 1 48 a) (hb : btw 1 99 b) : TEL n (q + 1) dn (stA (stA (stA g 16 q a) 17 q b) 22 1 (nI (q + 1))) (stA (stA (stA h 4 (10 + 2 * q) a) 4 (11 + 2 * q) b) 2 4 (nI (q + 1))) := by
  refine ⟨hT.1, ⟨rfl, rfl, hn⟩, hT.2.2.1, hT.2.2.2.1, hT.2.2.2.2.1, fun x hx => ?_, hT.2.2.2.2.2.2⟩
  show (upd (g 16) q a x = upd (upd (h 4) (10 + 2 * q) a) (11 + 2 * q) b (10 + 2 * x) ∧ upd (g 17) q b x = upd (upd (h 4) (10 + 2 * q) a) (11 + 2 * q) b (11 + 2 * x)) ∧ btw 1 48 (upd (g 16) q a x) ∧ btw 1 99 (upd (g 17) q b x)
  by_cases e0 : x = q
  · subst e0
    refine ⟨⟨?_, ?_⟩, by rw [pk_us]; exact ha, by rw [pk_us]; exact hb⟩
    · rw [pk_us, pk_un (by omega), pk_us]
    · rw [pk_us, pk_us]
  · have hx2 : x < q := by omega
    rw [pk_un e0, pk_un e0]
    iterate 4 rw [pk_un (by omega)]
    exact hT.2.2.2.2.2.1 x hx2
theorem tel_D {n q dn : Nat} {g h : RG} (hT : TEL n q dn g h) (hn : dn < 3) {a b c e : Int32} (ha : btw 0 60 a) (hb : btw 0 99 b) (hc : btw 1 48 c) (he : btw 1 99 e) : TEL n q (dn + 1) (stA (stA (stA (stA (stA g 18 dn a) 19 dn b) 20 dn c) 21 dn e) 22 2 (nI (dn + 1))) (stA (stA (stA (stA (stA h 5 (12 + 4 * dn) a) 5 (12 + 4 * dn + 1) b) 5 (12 + 4 * dn + 2) c) 5 (12 + 4 * dn + 3) e) 2 5 (nI (dn + 1))) := by
  refine ⟨hT.1, hT.2.1, ⟨rfl, rfl, hn⟩, hT.2.2.2.1, hT.2.2.2.2.1, hT.2.2.2.2.2.1, fun x hx => ?_⟩
  show (upd (g 18) dn a x = upd (upd (upd (upd (h 5) (12 + 4 * dn) a) (12 + 4 * dn + 1) b) (12 + 4 * dn + 2) c) (12 + 4 * dn + 3) e (12 + 4 * x) ∧ upd (g 19) dn b x = upd (upd (upd (upd (h 5) (12 + 4 * dn) a) (12 + 4 * dn + 1) b) (12 + 4 * dn + 2) c) (12 + 4 * dn + 3) e (12 + 4 * x + 1) ∧ upd (g 20) dn c x = upd (upd (upd (upd (h 5) (12 + 4 * dn) a) (12 + 4 * dn + 1) b) (12 + 4 * dn + 2) c) (12 + 4 * dn + 3) e (12 + 4 * x + 2) ∧ upd (g 21) dn e x = upd (upd (upd (upd (h 5) (12 + 4 * dn) a) (12 + 4 * dn + 1) b) (12 + 4 * dn + 2) c) (12 + 4 * dn + 3) e (12 + 4 * x + 3)) ∧ btw 0 60 (upd (g 18) dn a x) ∧ btw 0 99 (upd (g 19) dn b x) ∧ btw 1 48 (upd (g 20) dn c x) ∧ btw 1 99 (upd (g 21) dn e x)
  by_cases e0 : x = dn
  · subst e0
    refine ⟨⟨?_, ?_, ?_, ?_⟩, by rw [pk_us]; exact ha, by rw [pk_us]; exact hb, by rw [pk_us]; exact hc, by rw [pk_us]; exact he⟩
    · rw [pk_us, pk_un (by omega), pk_un (by omega), pk_un (by omega), pk_us]
    · rw [pk_us, pk_un (by omega), pk_un (by omega), pk_us]
    · rw [pk_us, pk_un (by omega), pk_us]
    · rw [pk_us, pk_us]
  · have hx2 : x < dn := by omega
    rw [pk_un e0, pk_un e0, pk_un e0, pk_un e0]
    iterate 16 rw [pk_un (by omega)]
    exact hT.2.2.2.2.2.2 x hx2
section ITEMS
variable {f : Nat → Int32} {k : Nat} {n q dn : Nat} {g h : RG} {s r : TS}
def ITQ (f : Nat → Int32) (k : Nat) (a b : RG × TS) : Prop := (∃ n q dn, TEL n q dn a.1 b.1 ∧ SYN f k a.2 b.2) ∨ FLT k a.2 b.2
theorem itq_f {A B : RG} {a b : TS} (x : FLT k a b) : ITQ f k (A, a) (B, b) := Or.inr x
theorem itq_s {A B : RG} {a b : TS} {n q dn : Nat} (x : TEL n q dn A B) (y : SYN f k a b) : ITQ f k (A, a) (B, b) := Or.inl ⟨n, q, dn, x, y⟩
theorem it_L (hk : k ≤ 200) (hT : TEL n q dn g h) (hs : SYN f k s r) : ITQ f k (rdL f k g s) (rL9 f k h r) := by
  unfold rdL rL9
  rcases num_eqR hk 0 2 hs with ⟨h1, e1, a1, b1⟩ | h1
  · rw [e1]
    rcases num_eqR hk 0 60 h1 with ⟨h2, e2, a2, b2⟩ | h2
    · rw [e2]
      rcases num_eqR hk (nm5 f k 0 60 (nm5 f k 0 2 s).2).1 60 h2 with ⟨h3, e3, a3, b3⟩ | h3
      · rw [e3]
        refine itq_s (n := n) (q := q) (dn := dn) ?_ h3
        obtain ⟨u, -, u2, u3⟩ := btw_of (a := 0) (b := 2) (by omega) (by omega) a1 b1
        have hc : (nm5 f k 0 2 s).1.toNatClampNeg = u := by rw [u3]; exact nI_clamp (by omega)
        rw [hc]
        exact tel_L hT (by omega) (btw_of (a := 0) (b := 60) (by omega) (by omega) a2 b2) (btw_of (a := 0) (b := 60) (by omega) (by omega) (Int32.le_trans a2 a3) b3)
      · exact itq_f h3
    · exact itq_f (num_flt hk _ _ _ _ h2)
  · exact itq_f (num_flt hk _ _ _ _ (num_flt hk _ _ _ _ h1))
theorem it_T (hk : k ≤ 200) (hT : TEL n q dn g h) (hn : n < 6) (hs : SYN f k s r) : ITQ f k (rdT1 f k n g s) (rT9 f k n h r) := by
  unfold rdT1 rT9
  rcases num_eqR hk 0 2 hs with ⟨h1, e1, a1, b1⟩ | h1
  · rw [e1]
    rcases num_eqR hk 1 48 h1 with ⟨h2, e2, a2, b2⟩ | h2
    · rw [e2]
      rcases num_eqR hk 1 99 h2 with ⟨h3, e3, a3, b3⟩ | h3
      · rw [e3]
        rcases num_eqR hk 1 9 h3 with ⟨h4, e4, a4, b4⟩ | h4
        · rw [e4]
          refine itq_s (n := n + 1) (q := q) (dn := dn) ?_ h4
          exact tel_T hT hn (btw_of (a := 0) (b := 2) (by omega) (by omega) a1 b1) (btw_of (a := 1) (b := 48) (by omega) (by omega) a2 b2) (btw_of (a := 1) (b := 99) (by omega) (by omega) a3 b3) (btw_of (a := 1) (b := 9) (by omega) (by omega) a4 b4)
        · exact itq_f h4
      · exact itq_f (num_flt hk _ _ _ _ h3)
    · have h3 := num_flt (f := f) hk 1 99 1 99 h2
      have h4 := num_flt (f := f) hk 1 9 1 9 h3
      exact itq_f h4
  · have h2 := num_flt (f := f) hk 1 48 1 48 h1
    have h3 := num_flt (f := f) hk 1 99 1 99 h2
    have h4 := num_flt (f := f) hk 1 9 1 9 h3
    exact itq_f h4
theorem it_P (hk : k ≤ 200) (hT : TEL n q dn g h) (hn : q < 5) (hs : SYN f k s r) : ITQ f k (rdP1 f k q g s) (rP9 f k q h r) := by
  unfold rdP1 rP9
  rcases num_eqR hk 1 48 hs with ⟨h1, e1, a1, b1⟩ | h1
  · rw [e1]
    rcases num_eqR hk 1 99 h1 with ⟨h2, e2, a2, b2⟩ | h2
    · rw [e2]
      exact itq_s (tel_P hT hn (btw_of (a := 1) (b := 48) (by omega) (by omega) a1 b1) (btw_of (a := 1) (b := 99) (by omega) (by omega) a2 b2)) h2
    · exact itq_f h2
  · exact itq_f (num_flt hk _ _ _ _ h1)
theorem it_D (hk : k ≤ 200) (hT : TEL n q dn g h) (hn : dn < 3) (hs : SYN f k s r) : ITQ f k (rdD1 f k dn g s) (rD9 f k dn h r) := by
  unfold rdD1 rD9
  rcases num_eqR hk 0 60 hs with ⟨h1, e1, a1, b1⟩ | h1
  · rw [e1]
    rcases num_eqR hk ((nm5 f k 0 60 s).1 + 1) 99 h1 with ⟨h2, e2, a2, b2⟩ | h2
    · rw [e2]
      rcases num_eqR hk 1 48 h2 with ⟨h3, e3, a3, b3⟩ | h3
      · rw [e3]
        rcases num_eqR hk 1 99 h3 with ⟨h4, e4, a4, b4⟩ | h4
        · rw [e4]
          refine itq_s (n := n) (q := q) (dn := dn + 1) ?_ h4
          obtain ⟨m, -, m2, m3⟩ := btw_of (a := 0) (b := 60) (by omega) (by omega) a1 b1
          have hz : (0 : Int32) ≤ (nm5 f k 0 60 s).1 + 1 := by
            rw [m3, nI_1]
            exact nI_pos' (by omega)
          exact tel_D hT hn (btw_of (a := 0) (b := 60) (by omega) (by omega) a1 b1) (btw_of (a := 0) (b := 99) (by omega) (by omega) (Int32.le_trans hz a2) b2) (btw_of (a := 1) (b := 48) (by omega) (by omega) a3 b3) (btw_of (a := 1) (b := 99) (by omega) (by omega) a4 b4)
        · exact itq_f h4
      · exact itq_f (num_flt hk _ _ _ _ h3)
    · have h3 := num_flt (f := f) hk 1 48 1 48 h2
      have h4 := num_flt (f := f) hk 1 99 1 99 h3
      exact itq_f h4
  · have h2 := num_flt (f := f) hk ((nm5 f k 0 60 s).1 + 1) 99 ((nm9 f k 0 60 r).1 + 1) 99 h1
    have h3 := num_flt (f := f) hk 1 48 1 48 h2
    have h4 := num_flt (f := f) hk 1 99 1 99 h3
    exact itq_f h4
theorem ahd_bad (hk : k ≤ 200) (ha : AHD k s r) (hb : b1F h r = false) : FLT k (rf5 s) (z9 f k h r).2 := by
  obtain ⟨h1, h2, h3, h4, h5, h6, h7⟩ := ha
  have e : tk9 f k (b1F h r) r = (0, (r.1, r.2.1, r.2.2.1, r.2.2.2.1, nI r.2.2.1)) := by
    unfold tk9
    rw [if_neg (by rw [h5]; decide), if_pos hb]
  unfold z9
  rw [e]
  rw [if_pos (show (0 : Int32) ≤ nI r.2.2.1 from nI_pos' (by omega))]
  unfold rf5
  rw [if_pos h4]
  exact ⟨by show s.1 ≤ k; omega, r.2.2.1, h7, by show nI s.2.2.1 = _; rw [h2], rfl⟩
theorem ahd_good (ha : AHD k s r) (hb : b1F h r = true) : z9 f k h r = ri9 f k r.2.2.2.1 h (ad9 f k r) ∧ SYN f k s (ad9 f k r) := by
  have hs : SYN f k s (ad9 f k r) := ahd_syn ha
  refine ⟨?_, hs⟩
  obtain ⟨h1, h2, h3, h4, h5, h6, h7⟩ := ha
  have e : tk9 f k (b1F h r) r = (r.2.2.2.1, ad9 f k r) := by
    unfold tk9
    rw [if_neg (by rw [h5]; decide), if_neg (by rw [hb]; decide)]
  unfold z9
  rw [e]
  rw [if_neg (by rw [show (r.2.2.2.1, ad9 f k r).2.2.2.2.2 = -1 from hs.2.1]; decide)]
theorem item_eq (hk : k ≤ 200) (ha : AHD k s r) (hT : TEL n q dn g h) : ITQ f k (it5 f k g s) (z9 f k h r) := by
  have hkn := ha.2.2.1
  have bad : b1F h r = false → (it5 f k g s).2 = rf5 s → ITQ f k (it5 f k g s) (z9 f k h r) := fun hb e => Or.inr (by rw [e]; exact ahd_bad hk ha hb)
  have hb0 : ¬ r.2.1 = 1 → b1F h r = false := fun hx => by unfold b1F; rw [decide_eq_false hx]; rfl
  rcases hkn with ⟨a, b⟩ | ⟨a, b, _⟩ | ⟨a, b⟩ | ⟨a, b, c⟩ | ⟨a, b⟩
  · exact bad (hb0 (by rw [b]; decide)) (by unfold it5; rw [a]; rfl)
  · exact bad (hb0 (by rw [b]; decide)) (by unfold it5; rw [a]; rfl)
  · exact bad (hb0 (by rw [b]; decide)) (by unfold it5; rw [a]; rfl)
  · have hb1 : b1F h r = mbB r.2.2.2.1 (h 2 3) (h 2 4) (h 2 5) := by unfold b1F; rw [decide_eq_true b]; rfl
    rw [hT.1.2.1, hT.2.1.2.1, hT.2.2.1.2.1, ← a] at hb1
    rcases c with c | c | c | c
    · have hb2 : b1F h r = true := by rw [hb1, c]; rfl
      obtain ⟨e1, e2⟩ := ahd_good (f := f) ha hb2
      rw [e1, ← a, c]
      have e3 : it5 f k g s = rdL f k g s := by unfold it5; rw [c]; rfl
      rw [e3]
      exact it_L hk hT e2
    · by_cases hn : n < 6
      · have hb2 : b1F h r = true := by
          rw [hb1, c]
          show (!decide ((6 : Int32) ≤ nI n)) = true
          rw [decide_eq_false (show ¬ (6 : Int32) ≤ nI n from nI_ge (b := 6) hn (by omega))]
          rfl
        obtain ⟨e1, e2⟩ := ahd_good (f := f) ha hb2
        rw [e1, ← a, c]
        have e3 : it5 f k g s = rdT1 f k n g s := by
          unfold it5
          rw [c]
          show rdT f k g s = _
          unfold rdT
          rw [hT.1.1, if_neg (show ¬ (6 : Int32) ≤ nI n from nI_ge (b := 6) hn (by omega)), nI_clamp (by omega)]
        have e4 : ri9 f k 116 h (ad9 f k r) = rT9 f k n h (ad9 f k r) := by
          show rT9 f k (h 2 3).toNatClampNeg h (ad9 f k r) = _
          rw [hT.1.2.1, nI_clamp (by omega)]
        rw [e3, e4]
        exact it_T hk hT hn e2
      · have hge : (6 : Int32) ≤ nI n := nI_le (a := 6) (by omega) (by have := hT.1.2.2; omega)
        refine bad ?_ ?_
        · rw [hb1, c]
          show (!decide ((6 : Int32) ≤ nI n)) = false
          rw [decide_eq_true hge]
          rfl
        · unfold it5
          rw [c]
          show (rdT f k g s).2 = _
          unfold rdT
          rw [hT.1.1, if_pos hge]
    · by_cases hn : q < 5
      · have hb2 : b1F h r = true := by
          rw [hb1, c]
          show (!decide ((5 : Int32) ≤ nI q)) = true
          rw [decide_eq_false (show ¬ (5 : Int32) ≤ nI q from nI_ge (b := 5) hn (by omega))]
          rfl
        obtain ⟨e1, e2⟩ := ahd_good (f := f) ha hb2
        rw [e1, ← a, c]
        have e3 : it5 f k g s = rdP1 f k q g s := by
          unfold it5
          rw [c]
          show rdP f k g s = _
          unfold rdP
          rw [hT.2.1.1, if_neg (show ¬ (5 : Int32) ≤ nI q from nI_ge (b := 5) hn (by omega)), nI_clamp (by omega)]
        have e4 : ri9 f k 112 h (ad9 f k r) = rP9 f k q h (ad9 f k r) := by
          show rP9 f k (h 2 4).toNatClampNeg h (ad9 f k r) = _
          rw [hT.2.1.2.1, nI_clamp (by omega)]
        rw [e3, e4]
        exact it_P hk hT hn e2
      · have hge : (5 : Int32) ≤ nI q := nI_le (a := 5) (by omega) (by have := hT.2.1.2.2; omega)
        refine bad ?_ ?_
        · rw [hb1, c]
          show (!decide ((5 : Int32) ≤ nI q)) = false
          rw [decide_eq_true hge]
          rfl
        · unfold it5
          rw [c]
          show (rdP f k g s).2 = _
          unfold rdP
          rw [hT.2.1.1, if_pos hge]
    · by_cases hn : dn < 3
      · have hb2 : b1F h r = true := by
          rw [hb1, c]
          show (!decide ((3 : Int32) ≤ nI dn)) = true
          rw [decide_eq_false (show ¬ (3 : Int32) ≤ nI dn from nI_ge (b := 3) hn (by omega))]
          rfl
        obtain ⟨e1, e2⟩ := ahd_good (f := f) ha hb2
        rw [e1, ← a, c]
        have e3 : it5 f k g s = rdD1 f k dn g s := by
          unfold it5
          rw [c]
          show rdD f k g s = _
          unfold rdD
          rw [hT.2.2.1.1, if_neg (show ¬ (3 : Int32) ≤ nI dn from nI_ge (b := 3) hn (by omega)), nI_clamp (by omega)]
        have e4 : ri9 f k 100 h (ad9 f k r) = rD9 f k dn h (ad9 f k r) := by
          show rD9 f k (h 2 5).toNatClampNeg h (ad9 f k r) = _
          rw [hT.2.2.1.2.1, nI_clamp (by omega)]
        rw [e3, e4]
        exact it_D hk hT hn e2
      · have hge : (3 : Int32) ≤ nI dn := nI_le (a := 3) (by omega) (by have := hT.2.2.1.2.2; omega)
        refine bad ?_ ?_
        · rw [hb1, c]
          show (!decide ((3 : Int32) ≤ nI dn)) = false
          rw [decide_eq_true hge]
          rfl
        · unfold it5
          rw [c]
          show (rdD f k g s).2 = _
          unfold rdD
          rw [hT.2.2.1.1, if_pos hge]
  · exact bad (hb0 (by rw [b]; decide)) (by unfold it5; rw [a]; rfl)
end ITEMS
