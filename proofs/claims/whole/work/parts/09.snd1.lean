/-! the simple steps are the machine's -/
theorem inAll {ci : Nat} {C : String} {T : u_T} {N : Nat} (h : vwCl[ci]? = some (C, T, N)) : ∀ x ∈ u_ws C T N, x ∈ AL := by
  match ci, h with
  | 0, h => cases h; exact inAX0
  | 1, h => cases h; exact inAX1
  | 2, h => cases h; exact inAX2
  | 3, h => cases h; exact inAX3
  | 4, h => cases h; exact inAX4
  | 5, h => cases h; exact inAX5
  | 6, h => cases h; exact inAX6
  | 7, h => cases h; exact inAX7
  | 8, h => cases h; exact inAX8
  | 9, h => cases h; exact inAX9
  | n + 10, h => simp [vwCl] at h
section SND1
variable {p : Program} {l : Launch} {e : Env} {R : Room} {s : State} {m : MethodId} {args : Array Value} {below : List Frame} {meth : Method} {c : Code} {H : Heap} {locs : List Loc} {cells slots : Nat} {Q : State → Prop}
variable {D : va_G} {tys : List (ClassId × FieldType)} {ρ : Nat → Nat} {w : AW} {y : MethodName} {bs : ByteArray} {mx : Nat} {cr : List Row}
theorem wd_in {i : Nat} {x : Cond} (h : wd i x = true) : x ∈ AL := by
  simp only [wd, Bool.and_eq_true, decide_eq_true_eq] at h
  exact AL_of (List.mem_of_getElem? h.1) h.2
theorem swT_ok {pc : Nat} {lo : Int} {df : Nat} {x : Int32} : ∀ (sw : List (Int32 × Nat)) (os : List Int) (j : Nat), swT cr pc lo j sw os = true → ((∃ k, k < sw.length ∧ x.toInt = lo + j + k ∧ ∃ o, os[k]? = some o ∧ (pc : Int) + o = (pcq cr (swl x df sw) : Int)) ∨ ((∀ k : Nat, k < sw.length → x.toInt ≠ lo + j + k) ∧ swl x df sw = df))
  | [], os, j, h => Or.inr ⟨fun k hk => absurd hk (Nat.not_lt_zero k), rfl⟩
  | (q, t) :: r, [], j, h => by simp [swT] at h
  | (q, t) :: r, o :: os, j, h => by
    simp only [swT, Bool.and_eq_true, decide_eq_true_eq] at h
    obtain ⟨h1, h2, h3⟩ := h
    by_cases hx : x = q
    · refine Or.inl ⟨0, Nat.succ_pos _, by rw [hx, h1]; omega, o, rfl, ?_⟩
      rw [swl, if_pos hx]
      exact h2
    · rw [swl, if_neg hx]
      have hne : x.toInt ≠ lo + j := fun e => hx (Int32.toInt_inj.mp (by rw [e, h1]))
      rcases swT_ok r os (j + 1) h3 with ⟨k, k1, k2, o2, k3, k4⟩ | ⟨k1, k2⟩
      · refine Or.inl ⟨k + 1, by simp only [List.length_cons]; omega, by rw [k2]; omega, o2, by simpa using k3, k4⟩
      · refine Or.inr ⟨fun k hk => ?_, k2⟩
        cases k with
        | zero => simpa using hne
        | succ k =>
          have := k1 k (by simp only [List.length_cons] at hk; omega)
          omega
theorem swL_ok {pc : Nat} {df : Nat} {dfo : Int} {x : Int32} (hd : (pc : Int) + dfo = (pcq cr df : Int)) : ∀ (sw : List (Int32 × Nat)) (os : List (Int × Int)), swL cr pc sw os = true → (pc : Int) + Op.lookupswitch.offset os dfo x.toInt = (pcq cr (swl x df sw) : Int)
  | [], [], h => hd
  | [], _ :: _, h => by simp [swL] at h
  | (q, t) :: r, [], h => by simp [swL] at h
  | (q, t) :: r, (k, o) :: os, h => by
    simp only [swL, Bool.and_eq_true, decide_eq_true_eq] at h
    obtain ⟨h1, h2, h3⟩ := h
    rw [Op.lookupswitch.offset_cons, swl]
    by_cases hx : x = q
    · rw [if_pos hx, if_pos (by rw [hx, h1])]
      exact h2
    · rw [if_neg hx, if_neg (fun e => hx (Int32.toInt_inj.mp (by rw [h1, e])))]
      exact swL_ok hd r os h3
set_option maxHeartbeats 4000000 in
set_option maxRecDepth 100000 in
theorem snd1 (hx : p.tables.exec = Jvm.exec) (hb : c.code = bs) (hown : s.vm.findClass y.cls = some m.cls) (hts : ∀ x ∈ AL, x.before args s = true) (hK : va_K D vwCl tys s) (hP : va_P D vwCl (cW ρ tys w) H) {row : Row} {i : Nat} (hrow : cr[i]? = some row) (hok : rowB y bs mx cr i row = true) {ls st : List Value} {i' : Nat} {ls' st' : List Value} (h : nx1 row i ls st w = some (i', ls', st')) {lc : Array Slot} (hL : LR ρ mx ls lc)
    (K : ∀ lc', LR ρ mx ls' lc' → W p l e R s m args below meth c H locs cells slots Q (F0 m (pcq cr i') lc' (st'.map (cV ρ)))) : W p l e R s m args below meth c H locs cells slots Q (F0 m (pcq cr i) lc (st.map (cV ρ))) := by
  have hpc : pcq cr i = row.1 := by simp [pcq, hrow]
  rw [hpc]
  obtain ⟨pc, ins, a, b, z, zl, sw, ps⟩ := row
  cases ins with
  | iconst n =>
    simp only [rowB, Bool.and_eq_true, decide_eq_true_eq] at hok
    simp only [nx1, Option.some.injEq, Prod.mk.injEq] at h
    obtain ⟨rfl, rfl, rfl⟩ := h
    obtain ⟨⟨h1, h2⟩, h3⟩ := hok
    refine lv_iconst hx hb h1 h3 ?_
    rw [← h2]
    exact K lc hL
  | bipush n =>
    simp only [rowB, Bool.and_eq_true, decide_eq_true_eq] at hok
    simp only [nx1, Option.some.injEq, Prod.mk.injEq] at h
    obtain ⟨rfl, rfl, rfl⟩ := h
    obtain ⟨⟨h1, h2⟩, h3⟩ := hok
    refine lv_bipush hx hb h1 h3 ?_
    rw [← h2]
    exact K lc hL
  | sipush n =>
    simp only [rowB, Bool.and_eq_true, decide_eq_true_eq] at hok
    simp only [nx1, Option.some.injEq, Prod.mk.injEq] at h
    obtain ⟨rfl, rfl, rfl⟩ := h
    obtain ⟨⟨h1, h2⟩, h3⟩ := hok
    refine lv_sipush hx hb h1 h3 ?_
    rw [← h2]
    exact K lc hL
  | ldc k =>
    simp only [rowB, Bool.and_eq_true, decide_eq_true_eq] at hok
    simp only [nx1, Option.some.injEq, Prod.mk.injEq] at h
    obtain ⟨rfl, rfl, rfl⟩ := h
    obtain ⟨⟨h1, h2⟩, h3⟩ := hok
    refine lv_ldc hx hb hown (hts _ (wd_in h3)) h1 ?_
    rw [← h2]
    exact K lc hL
  | ldc_w k =>
    simp only [rowB, Bool.and_eq_true, decide_eq_true_eq] at hok
    simp only [nx1, Option.some.injEq, Prod.mk.injEq] at h
    obtain ⟨rfl, rfl, rfl⟩ := h
    obtain ⟨⟨h1, h2⟩, h3⟩ := hok
    refine lv_ldcw hx hb hown (hts _ (wd_in h3)) h1 ?_
    rw [← h2]
    exact K lc hL
  | lconst n =>
    simp only [rowB, Bool.and_eq_true, decide_eq_true_eq] at hok
    simp only [nx1, Option.some.injEq, Prod.mk.injEq] at h
    obtain ⟨rfl, rfl, rfl⟩ := h
    obtain ⟨⟨h1, h2⟩, h3⟩ := hok
    refine lv_lconst hx hb h1 h3 ?_
    rw [← h2]
    exact K lc hL
  | ldc2_w k =>
    simp only [rowB, Bool.and_eq_true, decide_eq_true_eq] at hok
    simp only [nx1, Option.some.injEq, Prod.mk.injEq] at h
    obtain ⟨rfl, rfl, rfl⟩ := h
    obtain ⟨⟨h1, h2⟩, h3⟩ := hok
    refine lv_ldc2 hx hb hown (hts _ (wd_in h3)) h1 ?_
    rw [← h2]
    exact K lc hL
  | iload k =>
    simp only [rowB, Bool.and_eq_true, decide_eq_true_eq] at hok
    simp only [nx1] at h
    split at h
    · rename_i x hx2
      simp only [Option.some.injEq, Prod.mk.injEq] at h
      obtain ⟨rfl, rfl, rfl⟩ := h
      obtain ⟨⟨h1, h2⟩, h3⟩ := hok
      subst h3
      refine lv_iload hx hb h1 (hL.at hx2 (by simp)) ?_
      rw [← h2]
      exact K lc hL
    · cases h
  | iload_n k =>
    simp only [rowB, Bool.and_eq_true, decide_eq_true_eq] at hok
    simp only [nx1] at h
    split at h
    · rename_i x hx2
      simp only [Option.some.injEq, Prod.mk.injEq] at h
      obtain ⟨rfl, rfl, rfl⟩ := h
      obtain ⟨⟨h1, h2⟩, h3⟩ := hok
      refine lv_iload_n hx hb h1 h3 (hL.at hx2 (by simp)) ?_
      rw [← h2]
      exact K lc hL
    · cases h
  | lload k =>
    simp only [rowB, Bool.and_eq_true, decide_eq_true_eq] at hok
    simp only [nx1] at h
    split at h
    · rename_i x hx2
      simp only [Option.some.injEq, Prod.mk.injEq] at h
      obtain ⟨rfl, rfl, rfl⟩ := h
      obtain ⟨⟨h1, h2⟩, h3⟩ := hok
      subst h3
      refine lv_lload hx hb h1 (hL.at hx2 (by simp)) ?_
      rw [← h2]
      exact K lc hL
    · cases h
  | lload_n k =>
    simp only [rowB, Bool.and_eq_true, decide_eq_true_eq] at hok
    simp only [nx1] at h
    split at h
    · rename_i x hx2
      simp only [Option.some.injEq, Prod.mk.injEq] at h
      obtain ⟨rfl, rfl, rfl⟩ := h
      obtain ⟨⟨h1, h2⟩, h3⟩ := hok
      refine lv_lload_n hx hb h1 h3 (hL.at hx2 (by simp)) ?_
      rw [← h2]
      exact K lc hL
    · cases h
  | aload k =>
    simp only [rowB, Bool.and_eq_true, decide_eq_true_eq] at hok
    simp only [nx1] at h
    split at h
    · rename_i x hx2
      simp only [Option.some.injEq, Prod.mk.injEq] at h
      obtain ⟨rfl, rfl, rfl⟩ := h
      obtain ⟨⟨h1, h2⟩, h3⟩ := hok
      subst h3
      refine lv_aload hx hb h1 (hL.at hx2 (by simp)) ?_
      rw [← h2]
      exact K lc hL
    · cases h
  | aload_n k =>
    simp only [rowB, Bool.and_eq_true, decide_eq_true_eq] at hok
    simp only [nx1] at h
    split at h
    · rename_i x hx2
      simp only [Option.some.injEq, Prod.mk.injEq] at h
      obtain ⟨rfl, rfl, rfl⟩ := h
      obtain ⟨⟨h1, h2⟩, h3⟩ := hok
      refine lv_aload_n hx hb h1 h3 (hL.at hx2 (by simp)) ?_
      rw [← h2]
      exact K lc hL
    · cases h
  | istore k =>
    simp only [rowB, Bool.and_eq_true, decide_eq_true_eq] at hok
    simp only [nx1] at h
    split at h
    · simp only [Option.some.injEq, Prod.mk.injEq] at h
      obtain ⟨rfl, rfl, rfl⟩ := h
      obtain ⟨⟨h1, h2⟩, h3, h4⟩ := hok
      subst h3
      refine lv_istore hx hb h1 hL.has h4 rfl (fun lc' hl' => ?_)
      rw [← h2]
      exact K lc' (hL.store1 h4 hl')
    · cases h
  | istore_n k =>
    simp only [rowB, Bool.and_eq_true, decide_eq_true_eq] at hok
    simp only [nx1] at h
    split at h
    · simp only [Option.some.injEq, Prod.mk.injEq] at h
      obtain ⟨rfl, rfl, rfl⟩ := h
      obtain ⟨⟨h1, h2⟩, h3, h4⟩ := hok
      refine lv_istore_n hx hb h1 h3 hL.has h4 rfl (fun lc' hl' => ?_)
      rw [← h2]
      exact K lc' (hL.store1 h4 hl')
    · cases h
  | astore k =>
    simp only [rowB, Bool.and_eq_true, decide_eq_true_eq] at hok
    simp only [nx1] at h
    split at h
    · simp only [Option.some.injEq, Prod.mk.injEq] at h
      obtain ⟨rfl, rfl, rfl⟩ := h
      obtain ⟨⟨h1, h2⟩, h3, h4⟩ := hok
      subst h3
      refine lv_astore hx hb h1 hL.has h4 rfl (fun lc' hl' => ?_)
      rw [← h2]
      exact K lc' (hL.store1 h4 hl')
    · cases h
  | astore_n k =>
    simp only [rowB, Bool.and_eq_true, decide_eq_true_eq] at hok
    simp only [nx1] at h
    split at h
    · simp only [Option.some.injEq, Prod.mk.injEq] at h
      obtain ⟨rfl, rfl, rfl⟩ := h
      obtain ⟨⟨h1, h2⟩, h3, h4⟩ := hok
      refine lv_astore_n hx hb h1 h3 hL.has h4 rfl (fun lc' hl' => ?_)
      rw [← h2]
      exact K lc' (hL.store1 h4 hl')
    · cases h
  | lstore k =>
    simp only [rowB, Bool.and_eq_true, decide_eq_true_eq] at hok
    simp only [nx1] at h
    split at h
    · simp only [Option.some.injEq, Prod.mk.injEq] at h
      obtain ⟨rfl, rfl, rfl⟩ := h
      obtain ⟨⟨h1, h2⟩, h3, h4⟩ := hok
      subst h3
      refine lv_lstore hx hb h1 hL.has h4 rfl (fun lc' hl' => ?_)
      rw [← h2]
      exact K lc' (hL.store2 h4 hl')
    · cases h
  | lstore_n k =>
    simp only [rowB, Bool.and_eq_true, decide_eq_true_eq] at hok
    simp only [nx1] at h
    split at h
    · simp only [Option.some.injEq, Prod.mk.injEq] at h
      obtain ⟨rfl, rfl, rfl⟩ := h
      obtain ⟨⟨h1, h2⟩, h3, h4⟩ := hok
      refine lv_lstore_n hx hb h1 h3 hL.has h4 rfl (fun lc' hl' => ?_)
      rw [← h2]
      exact K lc' (hL.store2 h4 hl')
    · cases h
  | iinc k n =>
    simp only [rowB, Bool.and_eq_true, decide_eq_true_eq] at hok
    simp only [nx1] at h
    split at h
    · rename_i x hx2
      simp only [Option.some.injEq, Prod.mk.injEq] at h
      obtain ⟨rfl, rfl, rfl⟩ := h
      obtain ⟨⟨h1, h2⟩, h3, h4, h5⟩ := hok
      subst h3
      subst h5
      obtain ⟨q, hq⟩ := List.getElem?_of_mem (lvl_mem (ρ := ρ) (ls := ls) (q := (k, .int x)) |>.mpr ⟨_, hx2, by simp, rfl⟩)
      refine lv_iinc hx hb h1 hL.has hq rfl h4 rfl (fun lc' hl' => ?_)
      rw [← h2]
      exact K lc' (hL.store1 (v := .int (x + Int32.ofInt n)) h4 hl')
    · cases h
  | iadd =>
    simp only [rowB, Bool.and_eq_true, decide_eq_true_eq] at hok
    simp only [nx1] at h
    split at h
    · simp only [Option.some.injEq, Prod.mk.injEq] at h
      obtain ⟨rfl, rfl, rfl⟩ := h
      obtain ⟨h1, h2⟩ := hok
      refine lv_iadd hx hb h1 ?_
      rw [← h2]
      exact K lc hL
    · cases h
  | isub =>
    simp only [rowB, Bool.and_eq_true, decide_eq_true_eq] at hok
    simp only [nx1] at h
    split at h
    · simp only [Option.some.injEq, Prod.mk.injEq] at h
      obtain ⟨rfl, rfl, rfl⟩ := h
      obtain ⟨h1, h2⟩ := hok
      refine lv_isub hx hb h1 ?_
      rw [← h2]
      exact K lc hL
    · cases h
  | imul =>
    simp only [rowB, Bool.and_eq_true, decide_eq_true_eq] at hok
    simp only [nx1] at h
    split at h
    · simp only [Option.some.injEq, Prod.mk.injEq] at h
      obtain ⟨rfl, rfl, rfl⟩ := h
      obtain ⟨h1, h2⟩ := hok
      refine lv_imul hx hb h1 ?_
      rw [← h2]
      exact K lc hL
    · cases h
  | iand =>
    simp only [rowB, Bool.and_eq_true, decide_eq_true_eq] at hok
    simp only [nx1] at h
    split at h
    · simp only [Option.some.injEq, Prod.mk.injEq] at h
      obtain ⟨rfl, rfl, rfl⟩ := h
      obtain ⟨h1, h2⟩ := hok
      refine lv_iand hx hb h1 ?_
      rw [← h2]
      exact K lc hL
    · cases h
  | ior =>
    simp only [rowB, Bool.and_eq_true, decide_eq_true_eq] at hok
    simp only [nx1] at h
    split at h
    · simp only [Option.some.injEq, Prod.mk.injEq] at h
      obtain ⟨rfl, rfl, rfl⟩ := h
      obtain ⟨h1, h2⟩ := hok
      refine lv_ior hx hb h1 ?_
      rw [← h2]
      exact K lc hL
    · cases h
  | ixor =>
    simp only [rowB, Bool.and_eq_true, decide_eq_true_eq] at hok
    simp only [nx1] at h
    split at h
    · simp only [Option.some.injEq, Prod.mk.injEq] at h
      obtain ⟨rfl, rfl, rfl⟩ := h
      obtain ⟨h1, h2⟩ := hok
      refine lv_ixor hx hb h1 ?_
      rw [← h2]
      exact K lc hL
    · cases h
  | ishl =>
    simp only [rowB, Bool.and_eq_true, decide_eq_true_eq] at hok
    simp only [nx1] at h
    split at h
    · simp only [Option.some.injEq, Prod.mk.injEq] at h
      obtain ⟨rfl, rfl, rfl⟩ := h
      obtain ⟨h1, h2⟩ := hok
      refine lv_ishl hx hb h1 ?_
      rw [← h2]
      exact K lc hL
    · cases h
  | ishr =>
    simp only [rowB, Bool.and_eq_true, decide_eq_true_eq] at hok
    simp only [nx1] at h
    split at h
    · simp only [Option.some.injEq, Prod.mk.injEq] at h
      obtain ⟨rfl, rfl, rfl⟩ := h
      obtain ⟨h1, h2⟩ := hok
      refine lv_ishr hx hb h1 ?_
      rw [← h2]
      exact K lc hL
    · cases h
  | ladd =>
    simp only [rowB, Bool.and_eq_true, decide_eq_true_eq] at hok
    simp only [nx1] at h
    split at h
    · simp only [Option.some.injEq, Prod.mk.injEq] at h
      obtain ⟨rfl, rfl, rfl⟩ := h
      obtain ⟨h1, h2⟩ := hok
      refine lv_ladd hx hb h1 ?_
      rw [← h2]
      exact K lc hL
    · cases h
  | lmul =>
    simp only [rowB, Bool.and_eq_true, decide_eq_true_eq] at hok
    simp only [nx1] at h
    split at h
    · simp only [Option.some.injEq, Prod.mk.injEq] at h
      obtain ⟨rfl, rfl, rfl⟩ := h
      obtain ⟨h1, h2⟩ := hok
      refine lv_lmul hx hb h1 ?_
      rw [← h2]
      exact K lc hL
    · cases h
  | iushr =>
    simp only [rowB, Bool.and_eq_true, decide_eq_true_eq] at hok
    simp only [nx1] at h
    split at h
    · simp only [Option.some.injEq, Prod.mk.injEq] at h
      obtain ⟨rfl, rfl, rfl⟩ := h
      obtain ⟨h1, h2⟩ := hok
      refine lv_iushr hx hb h1 rfl ?_
      rw [← h2]
      exact K lc hL
    · cases h
  | i2l =>
    simp only [rowB, Bool.and_eq_true, decide_eq_true_eq] at hok
    simp only [nx1] at h
    split at h
    · simp only [Option.some.injEq, Prod.mk.injEq] at h
      obtain ⟨rfl, rfl, rfl⟩ := h
      obtain ⟨h1, h2⟩ := hok
      refine lv_i2l hx hb h1 rfl ?_
      rw [← h2]
      exact K lc hL
    · cases h
  | l2i =>
    simp only [rowB, Bool.and_eq_true, decide_eq_true_eq] at hok
    simp only [nx1] at h
    split at h
    · simp only [Option.some.injEq, Prod.mk.injEq] at h
      obtain ⟨rfl, rfl, rfl⟩ := h
      obtain ⟨h1, h2⟩ := hok
      refine lv_l2i hx hb h1 rfl ?_
      rw [← h2]
      exact K lc hL
    · cases h
  | i2c =>
    simp only [rowB, Bool.and_eq_true, decide_eq_true_eq] at hok
    simp only [nx1] at h
    split at h
    · simp only [Option.some.injEq, Prod.mk.injEq] at h
      obtain ⟨rfl, rfl, rfl⟩ := h
      obtain ⟨h1, h2⟩ := hok
      refine lv_i2c hx hb h1 rfl ?_
      rw [← h2]
      exact K lc hL
    · cases h
  | lcmp =>
    simp only [rowB, Bool.and_eq_true, decide_eq_true_eq] at hok
    simp only [nx1] at h
    split at h
    · simp only [Option.some.injEq, Prod.mk.injEq] at h
      obtain ⟨rfl, rfl, rfl⟩ := h
      obtain ⟨h1, h2⟩ := hok
      refine W.lcmp hx hb h1 ?_
      rw [← h2]
      exact K lc hL
    · cases h
  | dup =>
    simp only [rowB, Bool.and_eq_true, decide_eq_true_eq] at hok
    simp only [nx1] at h
    obtain ⟨h1, h2⟩ := hok
    split at h
    · simp only [Option.some.injEq, Prod.mk.injEq] at h
      obtain ⟨rfl, rfl, rfl⟩ := h
      refine lv_dup hx hb h1 rfl ?_
      rw [← h2]
      exact K lc hL
    · simp only [Option.some.injEq, Prod.mk.injEq] at h
      obtain ⟨rfl, rfl, rfl⟩ := h
      refine lv_dup hx hb h1 rfl ?_
      rw [← h2]
      exact K lc hL
    · cases h
  | dup2 =>
    simp only [rowB, Bool.and_eq_true, decide_eq_true_eq] at hok
    simp only [nx1] at h
    obtain ⟨h1, h2⟩ := hok
    split at h
    · simp only [Option.some.injEq, Prod.mk.injEq] at h
      obtain ⟨rfl, rfl, rfl⟩ := h
      refine lv_dup2_11 hx hb h1 rfl rfl ?_
      rw [← h2]
      exact K lc hL
    · cases h
  | pop =>
    simp only [rowB, Bool.and_eq_true, decide_eq_true_eq] at hok
    simp only [nx1] at h
    obtain ⟨h1, h2⟩ := hok
    split at h
    · simp only [Option.some.injEq, Prod.mk.injEq] at h
      obtain ⟨rfl, rfl, rfl⟩ := h
      refine lv_pop hx hb h1 rfl ?_
      rw [← h2]
      exact K lc hL
    · cases h
  | goto off =>
    simp only [rowB, Bool.and_eq_true, decide_eq_true_eq] at hok
    simp only [nx1, Option.some.injEq, Prod.mk.injEq] at h
    obtain ⟨rfl, rfl, rfl⟩ := h
    obtain ⟨h1, h2⟩ := hok
    exact lv_goto hx hb h1 h2 (K lc hL)
  | ifCond cnd off =>
    simp only [rowB, Bool.and_eq_true, decide_eq_true_eq] at hok
    obtain ⟨⟨h1, h2⟩, h3⟩ := hok
    cases cnd with
    | eq =>
      simp only [nx1] at h
      split at h
      · simp only [Option.some.injEq, Prod.mk.injEq] at h
        obtain ⟨rfl, rfl, rfl⟩ := h
        refine lv_if_eq hx hb h1 h3 (fun q => ?_) (fun q => ?_)
        · have := K lc hL
          rw [if_pos q] at this
          exact this
        · have := K lc hL
          rw [if_neg q, h2] at this
          exact this
      · cases h
    | ne =>
      simp only [nx1] at h
      split at h
      · simp only [Option.some.injEq, Prod.mk.injEq] at h
        obtain ⟨rfl, rfl, rfl⟩ := h
        refine lv_if_ne hx hb h1 h3 (fun q => ?_) (fun q => ?_)
        · have := K lc hL
          rw [if_neg q] at this
          exact this
        · have := K lc hL
          rw [if_pos q, h2] at this
          exact this
      · cases h
    | lt =>
      simp only [nx1] at h
      split at h
      · simp only [Option.some.injEq, Prod.mk.injEq] at h
        obtain ⟨rfl, rfl, rfl⟩ := h
        refine lv_if_lt hx hb h1 h3 (fun q => ?_) (fun q => ?_)
        · have := K lc hL
          rw [if_pos q] at this
          exact this
        · have := K lc hL
          rw [if_neg q, h2] at this
          exact this
      · cases h
    | ge =>
      simp only [nx1] at h
      split at h
      · simp only [Option.some.injEq, Prod.mk.injEq] at h
        obtain ⟨rfl, rfl, rfl⟩ := h
        refine lv_if_ge hx hb h1 h3 (fun q => ?_) (fun q => ?_)
        · have := K lc hL
          rw [if_pos q] at this
          exact this
        · have := K lc hL
          rw [if_neg q, h2] at this
          exact this
      · cases h
    | gt =>
      simp only [nx1] at h
      split at h
      · simp only [Option.some.injEq, Prod.mk.injEq] at h
        obtain ⟨rfl, rfl, rfl⟩ := h
        refine lv_if_gt hx hb h1 h3 (fun q => ?_) (fun q => ?_)
        · have := K lc hL
          rw [if_pos q] at this
          exact this
        · have := K lc hL
          rw [if_neg q, h2] at this
          exact this
      · cases h
    | le =>
      simp only [nx1] at h
      split at h
      · simp only [Option.some.injEq, Prod.mk.injEq] at h
        obtain ⟨rfl, rfl, rfl⟩ := h
        refine lv_if_le hx hb h1 h3 (fun q => ?_) (fun q => ?_)
        · have := K lc hL
          rw [if_pos q] at this
          exact this
        · have := K lc hL
          rw [if_neg q, h2] at this
          exact this
      · cases h
  | if_icmp cnd off =>
    simp only [rowB, Bool.and_eq_true, decide_eq_true_eq] at hok
    obtain ⟨⟨h1, h2⟩, h3⟩ := hok
    cases cnd with
    | eq =>
      simp only [nx1] at h
      split at h
      · simp only [Option.some.injEq, Prod.mk.injEq] at h
        obtain ⟨rfl, rfl, rfl⟩ := h
        refine lv_icmp_eq hx hb h1 h3 (fun q => ?_) (fun q => ?_)
        · have := K lc hL
          rw [if_pos q] at this
          exact this
        · have := K lc hL
          rw [if_neg q, h2] at this
          exact this
      · cases h
    | ne =>
      simp only [nx1] at h
      split at h
      · simp only [Option.some.injEq, Prod.mk.injEq] at h
        obtain ⟨rfl, rfl, rfl⟩ := h
        refine lv_icmp_ne hx hb h1 h3 (fun q => ?_) (fun q => ?_)
        · have := K lc hL
          rw [if_neg q] at this
          exact this
        · have := K lc hL
          rw [if_pos q, h2] at this
          exact this
      · cases h
    | lt =>
      simp only [nx1] at h
      split at h
      · simp only [Option.some.injEq, Prod.mk.injEq] at h
        obtain ⟨rfl, rfl, rfl⟩ := h
        refine lv_icmp_lt hx hb h1 h3 (fun q => ?_) (fun q => ?_)
        · have := K lc hL
          rw [if_pos q] at this
          exact this
        · have := K lc hL
          rw [if_neg q, h2] at this
          exact this
      · cases h
    | ge =>
      simp only [nx1] at h
      split at h
      · simp only [Option.some.injEq, Prod.mk.injEq] at h
        obtain ⟨rfl, rfl, rfl⟩ := h
        refine lv_icmp_ge hx hb h1 h3 (fun q => ?_) (fun q => ?_)
        · have := K lc hL
          rw [if_pos q] at this
          exact this
        · have := K lc hL
          rw [if_neg q, h2] at this
          exact this
      · cases h
    | gt =>
      simp only [nx1] at h
      split at h
      · simp only [Option.some.injEq, Prod.mk.injEq] at h
        obtain ⟨rfl, rfl, rfl⟩ := h
        refine lv_icmp_gt hx hb h1 h3 (fun q => ?_) (fun q => ?_)
        · have := K lc hL
          rw [if_pos q] at this
          exact this
        · have := K lc hL
          rw [if_neg q, h2] at this
          exact this
      · cases h
    | le =>
      simp only [nx1] at h
      split at h
      · simp only [Option.some.injEq, Prod.mk.injEq] at h
        obtain ⟨rfl, rfl, rfl⟩ := h
        refine lv_icmp_le hx hb h1 h3 (fun q => ?_) (fun q => ?_)
        · have := K lc hL
          rw [if_pos q] at this
          exact this
        · have := K lc hL
          rw [if_neg q, h2] at this
          exact this
      · cases h
  | tableswitch df lo hi offs =>
    simp only [rowB, Bool.and_eq_true, decide_eq_true_eq] at hok
    simp only [nx1] at h
    split at h
    · rename_i x st0
      simp only [Option.some.injEq, Prod.mk.injEq] at h
      obtain ⟨rfl, rfl, rfl⟩ := h
      obtain ⟨h1, h2, h3, h4⟩ := hok
      rcases swT_ok (x := x) (df := a) sw offs.toList 0 h3 with ⟨k, k1, k2, o, k3, k4⟩ | ⟨k1, k2⟩
      · refine lv_tableIn hx hb h1 (by omega) (by omega) (off := o) ?_ k4 (K lc hL)
        rw [show (x.toInt - lo).toNat = k by omega, ← Array.getElem?_toList]
        exact k3
      · have hK2 := K lc hL
        rw [k2] at hK2
        refine lv_tableOut hx hb h1 ?_ h2 hK2
        rcases Int.lt_or_le x.toInt lo with q | q
        · exact Or.inl q
        · refine Or.inr ?_
          rcases Int.lt_or_le hi x.toInt with q2 | q2
          · exact q2
          · exact absurd (show x.toInt = lo + ((0 : Nat) : Int) + ((x.toInt - lo).toNat : Int) by omega) (k1 (x.toInt - lo).toNat (by omega))
    · cases h
  | lookupswitch df prs =>
    simp only [rowB, Bool.and_eq_true, decide_eq_true_eq] at hok
    simp only [nx1] at h
    split at h
    · rename_i x st0
      simp only [Option.some.injEq, Prod.mk.injEq] at h
      obtain ⟨rfl, rfl, rfl⟩ := h
      obtain ⟨h1, h2, h3, h4⟩ := hok
      exact lv_lookup hx hb h1 h4 rfl (swL_ok h2 sw prs.toList h3) (K lc hL)
    · cases h
  | getfield k =>
    simp only [rowB, Bool.and_eq_true, decide_eq_true_eq] at hok
    obtain ⟨⟨h1, h2⟩, h3⟩ := hok
    simp only [nx1] at h
    split at h
    · rename_i k0 st0
      split at h
      · rename_i ci fs hw
        split at h
        · rename_i hbq
          have hca := Nat.eq_of_beq_eq_true hbq
          subst hca
          split at h
          · rename_i v hv
            simp only [Option.some.injEq, Prod.mk.injEq] at h
            obtain ⟨rfl, rfl, rfl⟩ := h
            split at h3
            · rename_i C T N hc
              simp only [Bool.and_eq_true, decide_eq_true_eq] at h3
              have hin := inAll hc
              refine va_get hx hb hts hin hown hK hP k0 (cW_at hw) hc b h3.1 (hts _ (wd_in h3.2)) (fun _ q => q) (v := cV ρ v) (by rw [List.getElem?_map, hv]; rfl) h1 ?_
              rw [← h2]
              exact K lc hL
            · cases h3
          · cases h
        · cases h
      · cases h
    · cases h
  | _ => simp [nx1] at h
end SND1
