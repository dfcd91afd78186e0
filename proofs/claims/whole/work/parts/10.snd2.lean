/-! the other steps that go on are the machine's -/
theorem ftyAll {ci : Nat} {C : String} {T : u_T} {N : Nat} (h : vwCl[ci]? = some (C, T, N)) : ∀ k, k < N → parseFieldDescriptor (T k).2.2.1 = some (fty ci k) := by
  match ci, h with
  | 0, h => cases h; exact tyX0_ok
  | 1, h => cases h; exact tyX1_ok
  | 2, h => cases h; exact tyX2_ok
  | 3, h => cases h; exact tyX3_ok
  | 4, h => cases h; exact tyX4_ok
  | 5, h => cases h; exact tyX5_ok
  | 6, h => cases h; exact tyX6_ok
  | 7, h => cases h; exact tyX7_ok
  | 8, h => cases h; exact tyX8_ok
  | 9, h => cases h; exact tyX9_ok
  | n + 10, h => simp [vwCl] at h
theorem nmAll {ci : Nat} {C : String} {T : u_T} {N : Nat} (h : vwCl[ci]? = some (C, T, N)) : ∀ a, a < N → ∀ b, b < N → a ≠ b → (T a).2.1 ≠ (T b).2.1 := by
  match ci, h with
  | 0, h => cases h; exact nmX0
  | 1, h => cases h; exact nmX1
  | 2, h => cases h; exact nmX2
  | 3, h => cases h; exact nmX3
  | 4, h => cases h; exact nmX4
  | 5, h => cases h; exact nmX5
  | 6, h => cases h; exact nmX6
  | 7, h => cases h; exact nmX7
  | 8, h => cases h; exact nmX8
  | 9, h => cases h; exact nmX9
  | n + 10, h => simp [vwCl] at h
theorem nar_cV {ρ : Nat → Nat} {ty : FieldType} {v : Value} (h : narrow ty v = v) : narrow ty (cV ρ v) = cV ρ v := by
  cases v <;> first | exact h | (cases ty <;> rfl)
theorem fits_cV {ρ : Nat → Nat} {ty : FieldType} {v : Value} (h : Jvm.fits ty v = true) : Jvm.fits ty (cV ρ v) = true := by
  cases v <;> first | exact h | (cases ty <;> first | exact h | rfl)
theorem cV_dflt (ρ : Nat → Nat) (ty : FieldType) : cV ρ (defaultValue ty) = defaultValue ty := by cases ty <;> rfl
def tysA (cI cZ cC cN : ClassId) : List (ClassId × FieldType) := [(cI, .int), (cZ, .boolean), (cC, .char), (cN, .object "TwoScales$Now")]
/-- the static arrays, as they are read -/
def STs (ρ : Nat → Nat) (A : Nat → Prop) (U : State) : Prop :=
  (va_Z "TwoScales$Tale" "LOW_AT_FIRST" "[I" (.ref (ρ 1000000)) A U U.heap ∧ va_X (ρ 1000000) 3 low0 U U.heap ∧ ρ 1000000 < U.heap.size ∧ ¬ A (ρ 1000000)) ∧
  (va_Z "TwoScales$Tale" "HIGH_AT_FIRST" "[I" (.ref (ρ 1000001)) A U U.heap ∧ va_X (ρ 1000001) 3 high0 U U.heap ∧ ρ 1000001 < U.heap.size ∧ ¬ A (ρ 1000001))
section SND2
variable {p : Program} {l : Launch} {e : Env} {R : Room} {s : State} {m : MethodId} {args : Array Value} {below : List Frame} {meth : Method} {c : Code} {H : Heap} {locs : List Loc} {cells slots : Nat} {Q : State → Prop} {g : JFrame}
theorem W.sized (hlow : s.heap.size + cells ≤ H.size) (k : H.size = s.heap.size + cells → W p l e R s m args below meth c H locs cells slots Q g) : W p l e R s m args below meth c H locs cells slots Q g := fun T hT X => k (by
  have h := X.heapSize
  rw [hT] at h
  omega) T hT X
variable {D : va_G} {cI cZ cC cN : ClassId} {ρ : Nat → Nat} {w w1 : AW} {y : MethodName} {bs : ByteArray} {mx : Nat} {cr : List Row} {A : Nat → Prop} {cc0 sl0 d : Nat}
/-- how large the heap is at least -/
theorem am_low {tys : List (ClassId × FieldType)} (hP : va_P D vwCl (cW ρ tys w) H) (hS : va_S A s.heap H locs) (hw : w.length ≤ 1000) (hF : ∀ k, cc0 ≤ k → k < 1000000 → ρ k = s.heap.size + (k - cc0)) : s.heap.size + (w.length - cc0) ≤ H.size := by
  by_cases h : cc0 < w.length
  · obtain ⟨x, hx⟩ : ∃ x, w[w.length - 1]? = some x := ⟨w[w.length - 1], by rw [List.getElem?_eq_getElem]⟩
    have h1 := (hP _ _ (cW_at hx)).lt
    have h2 := hF (w.length - 1) (by omega) (by omega)
    simp only at h1
    omega
  · have := hS.1
    omega
/-- a cell that is new stands where the next one must -/
theorem am_new {tys : List (ClassId × FieldType)} {q : Nat} {x : va_E} {H1 : Heap} (hA : ∀ q, A q → s.heap.size ≤ q ∨ ∃ k, k < cc0 ∧ q = ρ k) (hcc : cc0 ≤ w.length) (hw : w.length < 1000) (hF : ∀ k, cc0 ≤ k → k < 1000000 → ρ k = s.heap.size + (k - cc0))
    (hD : va_D A (cW ρ tys w ++ [(q, x)])) (hP : va_P D vwCl (cW ρ tys w ++ [(q, x)]) H1) (hz : H1.size ≤ s.heap.size + (w.length - cc0 + 1)) : q = ρ w.length := by
  have hlen : (cW ρ tys w).length = w.length := by simp [cW]
  have hq : (cW ρ tys w ++ [(q, x)])[w.length]? = some (q, x) := by
    rw [List.getElem?_append_right (by omega), hlen, Nat.sub_self]
    rfl
  have hne : ∀ k, k < w.length → q ≠ ρ k := by
    intro k hk hqk
    obtain ⟨y, hy⟩ : ∃ y, w[k]? = some y := ⟨w[k], by rw [List.getElem?_eq_getElem]⟩
    have h1 : (cW ρ tys w ++ [(q, x)])[k]? = some (ρ k, cE ρ tys y) := by
      rw [List.getElem?_append_left (by omega)]
      exact cW_at hy
    have := hD.1 k w.length _ _ h1 hq hqk.symm
    omega
  have hlt : q < H1.size := (hP _ _ hq).lt
  have hAq : A q := hD.2 _ _ hq
  have h3 := hF w.length hcc (by omega)
  rcases hA q hAq with h4 | ⟨k, h5, h6⟩
  · by_cases h7 : q = s.heap.size + (w.length - cc0)
    · omega
    · have h8 := hF (cc0 + (q - s.heap.size)) (by omega) (by omega)
      exact absurd (by omega) (hne (cc0 + (q - s.heap.size)) (by omega))
  · exact absurd h6 (hne k (by omega))
theorem am_tyAt {t : Nat} {ty : FieldType} (h : (tysA cI cZ cC cN)[t]?.map (fun q => q.2) = some ty) : (tysA cI cZ cC cN)[t]? = some (((tysA cI cZ cC cN).getD t (0, .int)).1, ty) := by
  match t, h with
  | 0, h => cases h; rfl
  | 1, h => cases h; rfl
  | 2, h => cases h; rfl
  | 3, h => cases h; rfl
  | n + 4, h => simp [tysA] at h
set_option maxHeartbeats 4000000 in
set_option maxRecDepth 100000 in
theorem snd2 (hx : p.tables.exec = Jvm.exec) (hb : c.code = bs) (hml : c.maxLocals = mx) (hown : s.vm.findClass y.cls = some m.cls) (hin2 : y.name = "<init>" → meth.name = "<init>") (hts : ∀ x ∈ AL, x.before args s = true) (hao : va_AO "TwoScales$Now" s) (hK : va_K D vwCl (tysA cI cZ cC cN) s) (hST : STs ρ A s)
    (hA : ∀ q, s.heap.size ≤ q → A q) (hA2 : ∀ q, A q → s.heap.size ≤ q ∨ ∃ k, k < cc0 ∧ q = ρ k) (hF : ∀ k, cc0 ≤ k → k < 1000000 → ρ k = s.heap.size + (k - cc0)) (hcc : cc0 ≤ w.length) (hsl : sl0 ≤ sl w) (hwl : w.length ≤ 1000)
    (hRf : R.frames = d) (hRl : R.locals = 64 * d) (hRc : w1.length - cc0 ≤ R.cells) (hRs : sl w1 - sl0 ≤ R.slots)
    (hP : va_P D vwCl (cW ρ (tysA cI cZ cC cN) w) H) (hD : va_D A (cW ρ (tysA cI cZ cC cN) w)) (hS : va_S A s.heap H locs) {row : Row} {i : Nat} (hrow : cr[i]? = some row) (hok : rowB y bs mx cr i row = true) {rt : Option FieldType} {st : List Value} {st' : List Value} (h : nx2 row rt d st w = some (.inl (st', w1))) {ls : List Value} {lc : Array Slot} (hL : LR ρ mx ls lc)
    (K : w1.length ≤ 1000 → ∀ (H1 : Heap) (locs1 : List Loc), va_P D vwCl (cW ρ (tysA cI cZ cC cN) w1) H1 → va_D A (cW ρ (tysA cI cZ cC cN) w1) → va_S A s.heap H1 locs1 → W p l e R s m args below meth c H1 locs1 (w1.length - cc0) (sl w1 - sl0) Q (F0 m (pcq cr (i + 1)) lc (st'.map (cV ρ)))) :
    W p l e R s m args below meth c H locs (w.length - cc0) (sl w - sl0) Q (F0 m (pcq cr i) lc (st.map (cV ρ))) := by
  have hpc : pcq cr i = row.1 := by simp [pcq, hrow]
  rw [hpc]
  obtain ⟨pc, ins, a, b, z, zl, sw, ps⟩ := row
  cases ins with
  | idiv =>
    simp only [rowB, Bool.and_eq_true, decide_eq_true_eq] at hok
    simp only [nx2] at h
    split at h
    · split at h
      · cases h
      · rename_i hne
        simp only [Option.some.injEq, Sum.inl.injEq, Prod.mk.injEq] at h
        obtain ⟨rfl, rfl⟩ := h
        obtain ⟨h1, h2⟩ := hok
        refine lv_idiv hx hb h1 hne ?_
        rw [← h2]
        exact K hwl H locs hP hD hS
    · cases h
  | irem =>
    simp only [rowB, Bool.and_eq_true, decide_eq_true_eq] at hok
    simp only [nx2] at h
    split at h
    · split at h
      · cases h
      · rename_i hne
        simp only [Option.some.injEq, Sum.inl.injEq, Prod.mk.injEq] at h
        obtain ⟨rfl, rfl⟩ := h
        obtain ⟨h1, h2⟩ := hok
        refine lv_irem hx hb h1 hne ?_
        rw [← h2]
        exact K hwl H locs hP hD hS
    · cases h
  | ldiv =>
    simp only [rowB, Bool.and_eq_true, decide_eq_true_eq] at hok
    simp only [nx2] at h
    split at h
    · split at h
      · cases h
      · rename_i hne
        simp only [Option.some.injEq, Sum.inl.injEq, Prod.mk.injEq] at h
        obtain ⟨rfl, rfl⟩ := h
        obtain ⟨h1, h2⟩ := hok
        refine lv_ldiv hx hb h1 hne ?_
        rw [← h2]
        exact K hwl H locs hP hD hS
    · cases h
  | lrem =>
    simp only [rowB, Bool.and_eq_true, decide_eq_true_eq] at hok
    simp only [nx2] at h
    split at h
    · split at h
      · cases h
      · rename_i hne
        simp only [Option.some.injEq, Sum.inl.injEq, Prod.mk.injEq] at h
        obtain ⟨rfl, rfl⟩ := h
        obtain ⟨h1, h2⟩ := hok
        refine lv_lrem hx hb h1 hne ?_
        rw [← h2]
        exact K hwl H locs hP hD hS
    · cases h
  | putfield k =>
    simp only [rowB, Bool.and_eq_true, decide_eq_true_eq] at hok
    obtain ⟨⟨h1, h2⟩, h3⟩ := hok
    simp only [nx2] at h
    split at h
    · rename_i v k0 st0
      split at h
      · rename_i ci fs hw
        split at h
        · rename_i hcond
          obtain ⟨hca, hbl, hn, hf⟩ := hcond
          subst hca
          simp only [Option.some.injEq, Sum.inl.injEq, Prod.mk.injEq] at h
          obtain ⟨rfl, rfl⟩ := h
          split at h3
          · rename_i C T N hc
            simp only [Bool.and_eq_true, decide_eq_true_eq, Bool.or_eq_true, Bool.not_eq_true'] at h3
            obtain ⟨h3, h4, h5⟩ := h3
            have key : ∀ (H1 : Heap) (locs1 : List Loc), va_P D vwCl ((cW ρ (tysA cI cZ cC cN) w).set k0 (ρ k0, .inr (ci, (fs.map (cV ρ)).set b (cV ρ v)))) H1 → va_D A ((cW ρ (tysA cI cZ cC cN) w).set k0 (ρ k0, .inr (ci, (fs.map (cV ρ)).set b (cV ρ v)))) → va_S A s.heap H1 locs1 → W p l e R s m args below meth c H1 locs1 (w.length - cc0) (sl w - sl0) Q (F0 m (pc + 3) lc (st0.map (cV ρ))) := by
              intro H1 locs1 hP1 hD1 hS1
              have e1 : (cW ρ (tysA cI cZ cC cN) w).set k0 (ρ k0, .inr (ci, (fs.map (cV ρ)).set b (cV ρ v))) = cW ρ (tysA cI cZ cC cN) (w.set k0 (.inr (ci, fs.set b v))) := by
                rw [cW_set]
                simp only [cE, List.map_set]
              rw [e1] at hP1 hD1
              have e2 : sl (w.set k0 (.inr (ci, fs.set b v))) = sl w := sl_set hw (by simp [sl1])
              have := K (by simpa using hwl) H1 locs1 hP1 hD1 hS1
              rw [e2, List.length_set, h2] at this
              exact this
            by_cases hfin : (T b).2.2.2 = true
            · have h6 := h5.resolve_left (by rw [hfin]; simp)
              exact va_putF hx hb hts (inAll hc) (fty ci) (ftyAll hc) (nmAll hc) hown hK hP hD hS k0 (cW_at hw) hc b h3 (hts _ (wd_in h4)) (fun _ q => q) hfin (hin2 h6.1) h6.2 (ftyAll hc b h3) (nar_cV hn) (fits_cV hf) (by simpa using hbl) h1 key
            · exact va_put hx hb hts (inAll hc) (fty ci) (ftyAll hc) (nmAll hc) hown hK hP hD hS k0 (cW_at hw) hc b h3 (hts _ (wd_in h4)) (fun _ q => q) (by simpa using hfin) (ftyAll hc b h3) (nar_cV hn) (fits_cV hf) (by simpa using hbl) h1 key
          · cases h3
        · cases h
      · cases h
    · cases h
  | getstatic k =>
    simp only [rowB, Bool.and_eq_true, decide_eq_true_eq] at hok
    obtain ⟨⟨h1, h2⟩, h3⟩ := hok
    simp only [nx2, Option.some.injEq, Sum.inl.injEq, Prod.mk.injEq] at h
    obtain ⟨rfl, rfl⟩ := h
    split at h3
    · rename_i ha
      subst ha
      refine va_gets hx hb hST.1.1 hS hown (hts _ (wd_in h3)) (fun _ q => q) h1 ?_
      rw [← h2]
      exact K hwl H locs hP hD hS
    · simp only [Bool.and_eq_true, decide_eq_true_eq] at h3
      obtain ⟨ha, h3⟩ := h3
      subst ha
      refine va_gets hx hb hST.2.1 hS hown (hts _ (wd_in h3)) (fun _ q => q) h1 ?_
      rw [← h2]
      exact K hwl H locs hP hD hS
  | iaload =>
    simp only [rowB, Bool.and_eq_true, decide_eq_true_eq] at hok
    obtain ⟨h1, h2⟩ := hok
    simp only [nx2] at h
    split at h
    · rename_i j k0 st0
      split at h
      · rename_i hk
        subst hk
        split at h
        · rename_i hj
          simp only [Option.some.injEq, Sum.inl.injEq, Prod.mk.injEq] at h
          obtain ⟨rfl, rfl⟩ := h
          refine va_sld hx hb hST.1.2.1 hST.1.2.2.1 hST.1.2.2.2 hS (vin_iff.mp hj) h1 ?_
          rw [← h2]
          exact K hwl H locs hP hD hS
        · cases h
      · split at h
        · rename_i hk
          subst hk
          split at h
          · rename_i hj
            simp only [Option.some.injEq, Sum.inl.injEq, Prod.mk.injEq] at h
            obtain ⟨rfl, rfl⟩ := h
            refine va_sld hx hb hST.2.2.1 hST.2.2.2.1 hST.2.2.2.2 hS (vin_iff.mp hj) h1 ?_
            rw [← h2]
            exact K hwl H locs hP hD hS
          · cases h
        · split at h
          · rename_i t n f hw
            split at h
            · rename_i hj
              obtain ⟨ht, hj⟩ := hj
              subst ht
              simp only [Option.some.injEq, Sum.inl.injEq, Prod.mk.injEq] at h
              obtain ⟨rfl, rfl⟩ := h
              refine va_iald hx hb hK hP k0 0 (cW_at hw) (am_tyAt rfl) (vin_iff.mp hj) h1 ?_
              rw [← h2]
              exact K hwl H locs hP hD hS
            · cases h
          · cases h
    · cases h
  | baload =>
    simp only [rowB, Bool.and_eq_true, decide_eq_true_eq] at hok
    obtain ⟨h1, h2⟩ := hok
    simp only [nx2] at h
    split at h
    · rename_i j k0 st0
      split at h
      · rename_i t n f hw
        split at h
        · rename_i hj
          obtain ⟨ht, hj⟩ := hj
          subst ht
          simp only [Option.some.injEq, Sum.inl.injEq, Prod.mk.injEq] at h
          obtain ⟨rfl, rfl⟩ := h
          refine va_zald hx hb hK hP k0 1 (cW_at hw) (am_tyAt rfl) (vin_iff.mp hj) h1 ?_
          rw [← h2]
          exact K hwl H locs hP hD hS
        · cases h
      · cases h
    · cases h
  | caload =>
    simp only [rowB, Bool.and_eq_true, decide_eq_true_eq] at hok
    obtain ⟨h1, h2⟩ := hok
    simp only [nx2] at h
    split at h
    · rename_i j k0 st0
      split at h
      · rename_i t n f hw
        split at h
        · rename_i hj
          obtain ⟨ht, hj⟩ := hj
          subst ht
          simp only [Option.some.injEq, Sum.inl.injEq, Prod.mk.injEq] at h
          obtain ⟨rfl, rfl⟩ := h
          refine va_cald hx hb hK hP k0 2 (cW_at hw) (am_tyAt rfl) (vin_iff.mp hj) h1 ?_
          rw [← h2]
          exact K hwl H locs hP hD hS
        · cases h
      · cases h
    · cases h
  | aaload =>
    simp only [rowB, Bool.and_eq_true, decide_eq_true_eq] at hok
    obtain ⟨h1, h2⟩ := hok
    simp only [nx2] at h
    split at h
    · rename_i j k0 st0
      split at h
      · rename_i t n f hw
        split at h
        · rename_i hj
          obtain ⟨ht, hj⟩ := hj
          subst ht
          split at h
          · rename_i q hq
            simp only [Option.some.injEq, Sum.inl.injEq, Prod.mk.injEq] at h
            obtain ⟨rfl, rfl⟩ := h
            refine va_aldq hx hb hK hP k0 3 (cW_at hw) (am_tyAt rfl) (vin_iff.mp hj) h1 ?_
            rw [← h2, hq]
            exact K hwl H locs hP hD hS
          · cases h
        · cases h
      · cases h
    · cases h
  | iastore =>
    simp only [rowB, Bool.and_eq_true, decide_eq_true_eq] at hok
    obtain ⟨h1, h2⟩ := hok
    simp only [nx2] at h
    split at h
    · rename_i x j k0 st0
      split at h
      · rename_i t n f hw
        split at h
        · rename_i hj
          obtain ⟨ht, hj⟩ := hj
          subst ht
          simp only [Option.some.injEq, Sum.inl.injEq, Prod.mk.injEq] at h
          obtain ⟨rfl, rfl⟩ := h
          refine va_iast hx hb hK hP hD hS k0 0 (cW_at hw) (am_tyAt rfl) (vin_iff.mp hj) h1 (fun H1 locs1 hP1 hD1 hS1 => ?_)
          have e1 : (cW ρ (tysA cI cZ cC cN) w).set k0 (ρ k0, .inl (((tysA cI cZ cC cN).getD 0 (0, .int)).1, n, .inl (upd f j.toNatClampNeg x))) = cW ρ (tysA cI cZ cC cN) (w.set k0 (.inl (0, n, .inl (upd f j.toNatClampNeg x)))) := by
            rw [cW_set]
            rfl
          rw [e1] at hP1 hD1
          have e2 : sl (w.set k0 (.inl (0, n, .inl (upd f j.toNatClampNeg x)))) = sl w := sl_set hw rfl
          have := K (by simpa using hwl) H1 locs1 hP1 hD1 hS1
          rw [e2, List.length_set, h2] at this
          exact this
        · cases h
      · cases h
    · cases h
  | bastore =>
    simp only [rowB, Bool.and_eq_true, decide_eq_true_eq] at hok
    obtain ⟨h1, h2⟩ := hok
    simp only [nx2] at h
    split at h
    · rename_i x j k0 st0
      split at h
      · rename_i t n f hw
        split at h
        · rename_i hj
          obtain ⟨ht, hj, hx01⟩ := hj
          subst ht
          simp only [Option.some.injEq, Sum.inl.injEq, Prod.mk.injEq] at h
          obtain ⟨rfl, rfl⟩ := h
          refine va_zast hx hb hK hP hD hS k0 1 (cW_at hw) (am_tyAt rfl) (vin_iff.mp hj) h1 (fun H1 locs1 hP1 hD1 hS1 => ?_)
          rw [show vp_nar .boolean x = x by rcases hx01 with rfl | rfl <;> rfl] at hP1 hD1
          have e1 : (cW ρ (tysA cI cZ cC cN) w).set k0 (ρ k0, .inl (((tysA cI cZ cC cN).getD 1 (0, .int)).1, n, .inl (upd f j.toNatClampNeg x))) = cW ρ (tysA cI cZ cC cN) (w.set k0 (.inl (1, n, .inl (upd f j.toNatClampNeg x)))) := by
            rw [cW_set]
            rfl
          rw [e1] at hP1 hD1
          have e2 : sl (w.set k0 (.inl (1, n, .inl (upd f j.toNatClampNeg x)))) = sl w := sl_set hw rfl
          have := K (by simpa using hwl) H1 locs1 hP1 hD1 hS1
          rw [e2, List.length_set, h2] at this
          exact this
        · cases h
      · cases h
    · cases h
  | castore =>
    simp only [rowB, Bool.and_eq_true, decide_eq_true_eq] at hok
    obtain ⟨h1, h2⟩ := hok
    simp only [nx2] at h
    split at h
    · rename_i x j k0 st0
      split at h
      · rename_i t n f hw
        split at h
        · rename_i hj
          obtain ⟨ht, hj, hx01⟩ := hj
          subst ht
          simp only [Option.some.injEq, Sum.inl.injEq, Prod.mk.injEq] at h
          obtain ⟨rfl, rfl⟩ := h
          refine va_cast hx hb hK hP hD hS k0 2 (cW_at hw) (am_tyAt rfl) (vin_iff.mp hj) h1 (fun H1 locs1 hP1 hD1 hS1 => ?_)
          rw [hx01] at hP1 hD1
          have e1 : (cW ρ (tysA cI cZ cC cN) w).set k0 (ρ k0, .inl (((tysA cI cZ cC cN).getD 2 (0, .int)).1, n, .inl (upd f j.toNatClampNeg x))) = cW ρ (tysA cI cZ cC cN) (w.set k0 (.inl (2, n, .inl (upd f j.toNatClampNeg x)))) := by
            rw [cW_set]
            rfl
          rw [e1] at hP1 hD1
          have e2 : sl (w.set k0 (.inl (2, n, .inl (upd f j.toNatClampNeg x)))) = sl w := sl_set hw rfl
          have := K (by simpa using hwl) H1 locs1 hP1 hD1 hS1
          rw [e2, List.length_set, h2] at this
          exact this
        · cases h
      · cases h
    · cases h
  | aastore =>
    simp only [rowB, Bool.and_eq_true, decide_eq_true_eq] at hok
    obtain ⟨h1, h2⟩ := hok
    simp only [nx2] at h
    split at h
    · rename_i v j k0 st0
      split at h
      · rename_i ci fs hv
        split at h
        · rename_i t n f hw
          split at h
          · rename_i hj
            obtain ⟨ht, hci, hj⟩ := hj
            subst ht
            subst hci
            simp only [Option.some.injEq, Sum.inl.injEq, Prod.mk.injEq] at h
            obtain ⟨rfl, rfl⟩ := h
            refine va_astq hx hb hK hP hD hS k0 3 v 4 (r := (RX4, TX4, 3)) (cW_at hw) (am_tyAt rfl) (cW_at hv) rfl (vin_iff.mp hj) h1 (fun H1 locs1 hP1 hD1 hS1 => ?_)
            have e0 : va_up (fun i => (f i).map ρ) j.toNatClampNeg (some (ρ v)) = fun i => (va_up f j.toNatClampNeg (some v) i).map ρ := by
              funext q
              by_cases hq : q = j.toNatClampNeg
              · simp [va_up, hq]
              · simp [va_up, hq]
            rw [e0] at hP1 hD1
            have e1 : (cW ρ (tysA cI cZ cC cN) w).set k0 (ρ k0, .inl (((tysA cI cZ cC cN).getD 3 (0, .int)).1, n, .inr (.inr (.inr (.inr (fun i => (va_up f j.toNatClampNeg (some v) i).map ρ)))))) = cW ρ (tysA cI cZ cC cN) (w.set k0 (.inl (3, n, .inr (.inr (.inr (.inr (va_up f j.toNatClampNeg (some v)))))))) := by
              rw [cW_set]
              rfl
            rw [e1] at hP1 hD1
            have e2 : sl (w.set k0 (.inl (3, n, .inr (.inr (.inr (.inr (va_up f j.toNatClampNeg (some v)))))))) = sl w := sl_set hw rfl
            have := K (by simpa using hwl) H1 locs1 hP1 hD1 hS1
            rw [e2, List.length_set, h2] at this
            exact this
          · cases h
        · cases h
      · cases h
    · cases h
  | arraylength =>
    simp only [rowB, Bool.and_eq_true, decide_eq_true_eq] at hok
    obtain ⟨h1, h2⟩ := hok
    simp only [nx2] at h
    split at h
    · rename_i k0 st0
      split at h
      · rename_i t n f hw
        split at h
        · rename_i hj
          obtain ⟨ht, hj⟩ := hj
          subst ht
          simp only [Option.some.injEq, Sum.inl.injEq, Prod.mk.injEq] at h
          obtain ⟨rfl, rfl⟩ := h
          refine va_alen hx hb hK hP k0 0 (cW_at hw) (am_tyAt (ty := .int) rfl) rfl h1 ?_
          rw [← h2]
          exact K hwl H locs hP hD hS
        · cases h
      · cases h
    · cases h
  | new k =>
    simp only [rowB, Bool.and_eq_true, decide_eq_true_eq] at hok
    obtain ⟨⟨h1, h2⟩, h3⟩ := hok
    simp only [nx2] at h
    split at h
    · rename_i hw1
      simp only [Option.some.injEq, Sum.inl.injEq, Prod.mk.injEq] at h
      obtain ⟨rfl, rfl⟩ := h
      split at h3
      · rename_i C T N hc
        simp only [Bool.and_eq_true, decide_eq_true_eq] at h3
        obtain ⟨h3, h4, h5, h6⟩ := h3
        subst h3
        have hsz : sl (w ++ [Sum.inr (a, fds a b)]) = sl w + b := by rw [sl_push]; simp [sl1, fds]
        have hln : (w ++ [(Sum.inr (a, fds a b) : AE)]).length = w.length + 1 := by simp
        rw [hsz] at hRs K
        rw [hln] at hRc K
        refine W.sized (am_low hP hS hwl hF) (fun hH => ?_)
        refine va_new (ci := a) (fs := (fds a b).map (cV ρ)) hx hb hts (inAll hc) (fty a) (ftyAll hc) hown (hts _ (wd_in h4)) (hts _ (wd_in h5)) (hts _ (wd_in h6)) hK hP hD hS hA hc (fun j hj => ?_) (by omega) (by omega) h1 (fun q H1 hP1 hD1 hS1 => ?_)
        · simp [vp_V, fds, hj, cV_dflt]
        · intro T hT X
          have hh := X.heapSize
          rw [hT] at hh
          have hq := am_new hA2 hcc hw1 hF hD1 hP1 hh
          subst hq
          have e1 : cW ρ (tysA cI cZ cC cN) w ++ [(ρ w.length, .inr (a, (fds a b).map (cV ρ)))] = cW ρ (tysA cI cZ cC cN) (w ++ [.inr (a, fds a b)]) := by rw [cW_push]; rfl
          rw [e1] at hP1 hD1
          have := K (by omega) H1 locs hP1 hD1 hS1
          rw [h2, show w.length + 1 - cc0 = w.length - cc0 + 1 by omega, show sl w + b - sl0 = sl w - sl0 + b by omega] at this
          exact this T hT X
      · cases h3
    · cases h
  | newarray t =>
    simp only [rowB, Bool.and_eq_true, decide_eq_true_eq] at hok
    obtain ⟨⟨h1, h2⟩, h3, h4, h5⟩ := hok
    simp only [nx2] at h
    split at h
    · rename_i n st0
      split at h
      · rename_i hw1
        obtain ⟨hn, hn2, hw1⟩ := hw1
        simp only [Option.some.injEq, Sum.inl.injEq, Prod.mk.injEq] at h
        obtain ⟨rfl, rfl⟩ := h
        have hsz : sl (w ++ [(Sum.inl (a, n.toNatClampNeg, .inl (fun _ => 0)) : AE)]) = sl w + n.toNatClampNeg := by rw [sl_push]; rfl
        have hln : (w ++ [(Sum.inl (a, n.toNatClampNeg, .inl (fun _ => 0)) : AE)]).length = w.length + 1 := by simp
        rw [hsz] at hRs K
        rw [hln] at hRc K
        generalize hty : newarray.typeOf t = ty at h4 h5
        have hdv : ∀ cA : ClassId, vp_cell cA (n.toNatClampNeg, .inl (fun _ => 0)) = arrV cA n.toNatClampNeg (fun _ => defaultValue ty) := by
          intro cA
          match a, h4 with
          | 0, h4 => cases h4; rfl
          | 1, h4 => cases h4; rfl
          | 2, h4 => cases h4; rfl
        have hcb : n.toNatClampNeg * componentBytes ty ≤ 536870912 := by
          have : componentBytes ty ≤ 8 := by cases ty <;> simp [componentBytes]
          calc n.toNatClampNeg * componentBytes ty ≤ 1000 * 8 := Nat.mul_le_mul hn2 this
            _ ≤ 536870912 := by omega
        have hat : (tysA cI cZ cC cN)[a]? = some (((tysA cI cZ cC cN).getD a (0, .int)).1, ty) := by
          match a, h4 with
          | 0, h4 => cases h4; rfl
          | 1, h4 => cases h4; rfl
          | 2, h4 => cases h4; rfl
        refine W.sized (am_low hP hS hwl hF) (fun hH => ?_)
        refine va_newa hx hb (by rw [hty]; exact hts _ (wd_in h5)) hty hK hP hD hS hA (a0 := (n.toNatClampNeg, .inl (fun _ => 0))) hdv hn rfl hcb (by omega) (by omega) h1 (fun q cA H1 hK1 hP1 hD1 hS1 => ?_)
        have hcA : ((tysA cI cZ cC cN).getD a (0, .int)).1 = cA := by
          have g1 := (hK.2 a _ hat).2
          have g2 := (hK1.2 4 (cA, ty) rfl).2
          match a, h4 with
          | 0, h4 => cases h4; exact Option.some.inj (g1.symm.trans g2)
          | 1, h4 => cases h4; exact Option.some.inj (g1.symm.trans g2)
          | 2, h4 => cases h4; exact Option.some.inj (g1.symm.trans g2)
        intro T hT X
        have hh := X.heapSize
        rw [hT] at hh
        have hq := am_new hA2 hcc hw1 hF hD1 hP1 hh
        subst hq
        have e1 : cW ρ (tysA cI cZ cC cN) w ++ [(ρ w.length, .inl (cA, n.toNatClampNeg, .inl (fun _ => 0)))] = cW ρ (tysA cI cZ cC cN) (w ++ [.inl (a, n.toNatClampNeg, .inl (fun _ => 0))]) := by
          rw [cW_push, ← hcA]
          rfl
        rw [e1] at hP1 hD1
        have := K (by omega) H1 locs hP1 hD1 hS1
        rw [h2, show w.length + 1 - cc0 = w.length - cc0 + 1 by omega, show sl w + n.toNatClampNeg - sl0 = sl w - sl0 + n.toNatClampNeg by omega] at this
        exact this T hT X
      · cases h
    · cases h
  | anewarray k =>
    simp only [rowB, Bool.and_eq_true, decide_eq_true_eq] at hok
    obtain ⟨⟨h1, h2⟩, h3⟩ := hok
    simp only [nx2] at h
    split at h
    · rename_i n st0
      split at h
      · rename_i hw1
        obtain ⟨hn, hn2, hw1⟩ := hw1
        simp only [Option.some.injEq, Sum.inl.injEq, Prod.mk.injEq] at h
        obtain ⟨rfl, rfl⟩ := h
        have hsz : sl (w ++ [(Sum.inl (3, n.toNatClampNeg, .inr (.inr (.inr (.inr (fun _ => none))))) : AE)]) = sl w + n.toNatClampNeg := by rw [sl_push]; rfl
        have hln : (w ++ [(Sum.inl (3, n.toNatClampNeg, .inr (.inr (.inr (.inr (fun _ => none))))) : AE)]).length = w.length + 1 := by simp
        rw [hsz] at hRs K
        rw [hln] at hRc K
        refine W.sized (am_low hP hS hwl hF) (fun hH => ?_)
        refine va_newq hx hb hown (hts _ (wd_in h3)) hao hK hP hD hS hA hn rfl (by omega) (by omega) (by omega) h1 (fun q cA H1 hK1 hP1 hD1 hS1 => ?_)
        have hcA : ((tysA cI cZ cC cN).getD 3 (0, .int)).1 = cA := by
          obtain ⟨_, _, _, _, _, g1⟩ := (hK.2 3 (cN, .object "TwoScales$Now") rfl).2
          obtain ⟨_, _, _, _, _, g2⟩ := (hK1.2 4 (cA, .object "TwoScales$Now") rfl).2
          exact Option.some.inj (g1.symm.trans g2)
        intro T hT X
        have hh := X.heapSize
        rw [hT] at hh
        have hq := am_new hA2 hcc hw1 hF hD1 hP1 hh
        subst hq
        have e1 : cW ρ (tysA cI cZ cC cN) w ++ [(ρ w.length, .inl (cA, n.toNatClampNeg, .inr (.inr (.inr (.inr (fun _ => none))))))] = cW ρ (tysA cI cZ cC cN) (w ++ [.inl (3, n.toNatClampNeg, .inr (.inr (.inr (.inr (fun _ => none)))))]) := by
          rw [cW_push, ← hcA]
          rfl
        rw [e1] at hP1 hD1
        have := K (by omega) H1 locs hP1 hD1 hS1
        rw [h2, show w.length + 1 - cc0 = w.length - cc0 + 1 by omega, show sl w + n.toNatClampNeg - sl0 = sl w - sl0 + n.toNatClampNeg by omega] at this
        exact this T hT X
      · cases h
    · cases h
  | invokestatic k =>
    simp only [rowB, Bool.and_eq_true, decide_eq_true_eq] at hok
    obtain ⟨⟨h1, h2⟩, h3⟩ := hok
    simp only [nx2] at h
    split at h
    · rename_i ha
      rw [if_pos ha] at h3
      simp only [Bool.and_eq_true] at h3
      obtain ⟨h3, h4, h5, h6⟩ := h3
      split at h
      · rename_i n dp k1 sp k0 st0
        split at h
        · rename_i t0 n0 f t1 n1 g hw0 hw1
          split at h
          · rename_i hcond
            obtain ⟨ht0, ht1, hd, hcat, c1, c2, c3, c4, c5⟩ := hcond
            subst ht0
            subst ht1
            simp only [Option.some.injEq, Sum.inl.injEq, Prod.mk.injEq] at h
            obtain ⟨rfl, rfl⟩ := h
            refine va_copyi hx hb (by rw [hml]; exact hL.1.symm) hown (hts _ (wd_in h3)) (hts _ (wd_in h4)) (hts _ (wd_in h5)) (hts _ (wd_in h6)) hK hP hD hS k0 k1 0 0 (cW_at hw0) (cW_at hw1) (am_tyAt rfl) (am_tyAt rfl) rfl c1 c2 c3 c4 c5 (fun _ _ => rfl) (by omega) ?_ h1 (fun H1 locs1 hP1 hD1 hS1 => ?_)
            · rw [cats]
              have : nativeFrameWords "java/lang/System" "arraycopy" 5 = 7 := by decide +kernel
              omega
            · have e1 : (cW ρ (tysA cI cZ cC cN) w).set k1 (ρ k1, .inl (((tysA cI cZ cC cN).getD 0 (0, .int)).1, n1, .inl (va_cpy f g sp.toNatClampNeg dp.toNatClampNeg n.toNatClampNeg))) = cW ρ (tysA cI cZ cC cN) (w.set k1 (.inl (0, n1, .inl (va_cpy f g sp.toNatClampNeg dp.toNatClampNeg n.toNatClampNeg)))) := by
                rw [cW_set]
                rfl
              rw [e1] at hP1 hD1
              have e2 : sl (w.set k1 (.inl (0, n1, .inl (va_cpy f g sp.toNatClampNeg dp.toNatClampNeg n.toNatClampNeg)))) = sl w := sl_set hw1 rfl
              have := K (by simpa using hwl) H1 locs1 hP1 hD1 hS1
              rw [e2, List.length_set, h2] at this
              exact this
          · cases h
        · cases h
      · cases h
    · split at h
      · cases h
      · split at h
        · simp at h
        · cases h
  | invokevirtual k =>
    simp only [nx2] at h
    split at h
    · cases h
    · split at h
      · split at h
        · split at h
          · simp at h
          · cases h
        · cases h
      · cases h
  | invokespecial k =>
    simp only [rowB, Bool.and_eq_true, decide_eq_true_eq] at hok
    obtain ⟨⟨h1, h2⟩, h3⟩ := hok
    simp only [nx2] at h
    split at h
    · cases h
    · split at h
      · rename_i ha
        rw [if_pos ha] at h3
        simp only [Bool.and_eq_true] at h3
        obtain ⟨h3, h4, h5⟩ := h3
        split at h
        · rename_i k0 rest
          split at h
          · rename_i hcat
            simp only [Option.some.injEq, Sum.inl.injEq, Prod.mk.injEq] at h
            obtain ⟨rfl, rfl⟩ := h
            refine W.objInit hx hb hown (hts _ (wd_in h3)) (hts _ (wd_in h4)) (hts _ (wd_in h5)) rfl (by rw [hml]; exact hL.1) rfl h1 (by omega) ?_ ?_
            · show 2 * 0 + (((rest.map (cV ρ)).map fun v => v.category).sum) + 12 ≤ R.locals
              rw [cats]
              omega
            · have := K hwl H locs hP hD hS
              rw [h2] at this
              exact this
          · cases h
        · cases h
      · split at h
        · split at h
          · simp at h
          · cases h
        · cases h
  | ireturn =>
    simp only [nx2] at h
    split at h
    · split at h
      · simp at h
      · cases h
    · cases h
  | lreturn =>
    simp only [nx2] at h
    split at h
    · split at h
      · simp at h
      · cases h
    · cases h
  | areturn =>
    simp only [nx2] at h
    split at h
    · split at h
      · simp at h
      · cases h
    · cases h
  | return_ =>
    simp only [nx2] at h
    split at h
    · split at h
      · simp at h
      · cases h
    · cases h
  | _ => simp [nx2] at h
end SND2
