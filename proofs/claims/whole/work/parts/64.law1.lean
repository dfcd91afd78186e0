/-! THE LAW: what it stands on (R_law .. lw_At: the skeleton's words) -/
def R_law : String := "TwoScalesLaw"
def lw_P (b : Addr) (xs : List Int32) (args : Array Value) (s : State) : Prop := args = #[.ref b] ∧ s.IntsAt b xs ∧ xs.length ≤ 2048 ∧ (Jvm.Cond.and given_1 narrow_1).before args s = true
def lw_Q (_ : Array Value) (s : State) (o : Outcome) (t : State) : Prop := o = .returned (some (.int 1)) ∧ Framed s o t [] 600000 7302250
def lw_Z (below : List Frame) (a : Array Value) (s : State) : State → Prop := fun t => ∃ o, t.status = .running ∧ Ended t below o ∧ lw_Q a s o t
/-- the law's own end, with 1 on the stack, nothing written that was there before, its room as the claim has it -/
theorem lw_ret {p : Program} {l : Launch} {e : Env} {s : State} {m : MethodId} {below : List Frame} {meth : Method} {c : Code} {b : Nat} (hx : p.tables.exec = Jvm.exec) (hb : c.code = code) (hr : meth.sig.returnType = ret) (hlocks : meth.locks = false) {pc : Nat} {H : Heap} {ls : Array Slot} (hdg : decode code pc = .ok (.ireturn, 1)) : W p l e room_1 s m #[Value.ref b] below meth c H [] 600000 7302250 (lw_Z below #[Value.ref b] s) (F0 m pc ls [.int 1]) := by
  intro T hT X
  obtain ⟨fs, hret, hrun, hended, hW, hframe⟩ := X.leave (v := some (.int 1)) (hlocks := hlocks) (fun h => by rw [hr] at h; cases h)
  have hmeth' : T.vm.method? m = some meth := X.method'
  refine ⟨T.setFrames fs, ?_, .returned (some (.int 1)), hrun, hended, rfl, ⟨_, rfl⟩, hW, hframe⟩
  jvm_step X.here [X.here.top, hx, hb, hdg, hmeth', hr, ret, narrow_b1]
  (try refine ⟨rfl, ?_⟩); (try refine ⟨rfl, ?_⟩)
  first | (intro acts; rw [hret _ acts rfl rfl rfl]) | rw [hret _ _ rfl rfl rfl]
  exact Steps.refl _
/-- what holds at the law's entry: the machine, the code, the tables' words, the script of L ints xs at the cell b, what the Statement gives of the start -/
def lw_At (p : Program) (s : State) (m : MethodId) (meth : Method) (c : Code) (b L : Nat) (xs : Nat → Int32) : Prop :=
  p.tables.exec = Jvm.exec ∧ c.code = code ∧ meth.sig.returnType = ret ∧ c.maxLocals = 4 ∧ s.vm.findClass R_law = some m.cls ∧ (∀ w ∈ lw_tbl, w.before #[Value.ref b] s = true) ∧ va_X b L xs s s.heap ∧ b < s.heap.size ∧ meth.locks = false ∧ (Jvm.Cond.and given_1 narrow_1).before #[Value.ref b] s = true
/-! what a run answers is of the method's kind -/
theorem nx2_ret {row : Row} {rt : Option FieldType} {d : Nat} {st : List Value} {w : AW} {r : Option Value} (h : nx2 row rt d st w = some (.inr (.inl r))) : (rt = some .int → ∃ v, r = some (.int v)) ∧ (rt = some .long → ∃ v, r = some (.long v)) := by
  obtain ⟨pc, ins, a, b, z, zl, sw, ps⟩ := row
  cases ins <;> simp only [nx2] at h
  all_goals first
    | (simp at h; done)
    | (repeat' split at h)
  all_goals first
    | (cases h; done)
    | (simp at h; done)
    | (simp only [Option.some.injEq, Sum.inr.injEq, Sum.inl.injEq] at h
       subst h
       refine ⟨fun e => ?_, fun e => ?_⟩ <;> first
         | exact ⟨_, rfl⟩
         | (rename_i hn; rw [e] at hn; exact absurd hn (by decide))
         | (rename_i hn; rw [e] at hn; cases hn)
         | (rename_i hn; subst e; simp [rNar] at hn))
theorem run_ret : ∀ (n d M i : Nat) (ls st : List Value) (w : AW) (r : Option Value) (w' : AW), run n d M i ls st w = some (r, w') → (mR M = some .int → ∃ v, r = some (.int v)) ∧ (mR M = some .long → ∃ v, r = some (.long v)) := by
  intro n
  induction n with
  | zero => intro d M i ls st w r w' h; simp [run] at h
  | succ n ih =>
    intro d M i ls st w r w' h
    rw [run] at h
    cases hr : (mP M)[i]? with
    | none => rw [hr] at h; simp at h
    | some row =>
      rw [hr] at h
      simp only at h
      cases h1 : nx1 row i ls st w with
      | some q => obtain ⟨i', ls', st'⟩ := q; rw [h1] at h; simp only at h; exact ih _ _ _ _ _ _ _ _ h
      | none =>
        rw [h1] at h
        simp only at h
        cases h2 : nx2 row (mR M) d st w with
        | none => rw [h2] at h; simp at h
        | some q =>
          rw [h2] at h
          match q, h, h2 with
          | .inl (st', w1), h, h2 => simp only at h; exact ih _ _ _ _ _ _ _ _ h
          | .inr (.inl r0), h, h2 => simp at h; rw [← h.1]; exact nx2_ret h2
          | .inr (.inr (d', M', args, rest)), h, h2 =>
            simp only at h
            cases h3 : run n d' M' 0 (ent (mL M') args) [] w with
            | none => rw [h3] at h; simp at h
            | some q =>
              rw [h3] at h
              obtain ⟨r1, w1⟩ := q
              simp only at h
              exact ih _ _ _ _ _ _ _ _ h
theorem Ev.int {d M : Nat} {ls : List Value} {w w' : AW} {r : Value} (h : Ev d M 0 ls [] w (some r) w') (hr : mR M = some .int) : ∃ v, r = .int v := by
  obtain ⟨n, hn⟩ := h
  obtain ⟨v, hv⟩ := (run_ret _ _ _ _ _ _ _ _ _ hn).1 hr
  exact ⟨v, by cases hv; rfl⟩
theorem Ev.long {d M : Nat} {ls : List Value} {w w' : AW} {r : Value} (h : Ev d M 0 ls [] w (some r) w') (hr : mR M = some .long) : ∃ v, r = .long v := by
  obtain ⟨n, hn⟩ := h
  obtain ⟨v, hv⟩ := (run_ret _ _ _ _ _ _ _ _ _ hn).2 hr
  exact ⟨v, by cases hv; rfl⟩
/-! the two worlds in one heap -/
def RHO (ρ : Nat → Nat) (lo n Z bl bh : Nat) : Prop := (∀ k, k < n → lo ≤ ρ k ∧ ρ k < lo + n) ∧ (∀ i j, i < n → j < n → ρ i = ρ j → i = j) ∧ (∀ k, n ≤ k → k < 1000000 → ρ k = Z + (k - n)) ∧ ρ 1000000 = bl ∧ ρ 1000001 = bh
def STq (bl bh : Nat) (s : State) : Prop := (va_Z "TwoScales$Tale" "LOW_AT_FIRST" "[I" (.ref bl) (fun q => s.heap.size ≤ q) s s.heap ∧ va_X bl 3 low0 s s.heap ∧ bl < s.heap.size) ∧ (va_Z "TwoScales$Tale" "HIGH_AT_FIRST" "[I" (.ref bh) (fun q => s.heap.size ≤ q) s s.heap ∧ va_X bh 3 high0 s s.heap ∧ bh < s.heap.size)
theorem cW_D {ρ : Nat → Nat} {tys : List (ClassId × FieldType)} {w : AW} {A : Nat → Prop} (hi : ∀ i j, i < w.length → j < w.length → ρ i = ρ j → i = j) (hA : ∀ k, k < w.length → A (ρ k)) : va_D A (cW ρ tys w) := by
  refine ⟨fun i j p q h1 h2 h3 => ?_, fun k q h => ?_⟩
  · obtain ⟨e1, a1, b1⟩ := cW_of h1
    obtain ⟨e2, a2, b2⟩ := cW_of h2
    subst b1
    subst b2
    exact hi i j (List.getElem?_eq_some_iff.mp a1).1 (List.getElem?_eq_some_iff.mp a2).1 h3
  · obtain ⟨e1, a1, b1⟩ := cW_of h
    subst b1
    exact hA k (List.getElem?_eq_some_iff.mp a1).1
theorem cW_A {ρ : Nat → Nat} {tys : List (ClassId × FieldType)} {w : AW} {sz q : Nat} (h : va_A (cW ρ tys w) sz q) : (∃ k, k < w.length ∧ q = ρ k) ∨ sz ≤ q := by
  rcases h with ⟨k, x, h⟩ | h
  · obtain ⟨e, a1, b1⟩ := cW_of h
    exact Or.inl ⟨k, (List.getElem?_eq_some_iff.mp a1).1, congrArg Prod.fst b1⟩
  · exact Or.inr h
def lawB (M k b p0 p1 p2 p3 p4 : Nat) : Bool := wd p0 (.methodLink R_law k (mY M)) && (wd p1 (.instanceMethod (mY M)) && (wd p2 (.selects (mY M).cls (mY M) (mY M)) && (wd p3 (.initialized (mY M).cls) && clB M b p4)))
def LC (p : Program) (s : State) (m : MethodId) (meth : Method) (c : Code) (b L : Nat) (xs : Nat → Int32) (D : va_G) (cI cZ cC cN : ClassId) (bl bh : Nat) : Prop := lw_At p s m meth c b L xs ∧ L ≤ 2048 ∧ va_K D vwCl (tysA cI cZ cC cN) s ∧ NW s ∧ va_AO "TwoScales$Now" s ∧ STq bl bh s
section LAW1
variable {p : Program} {l : Launch} {e : Env} {s : State} {m : MethodId} {below : List Frame} {meth : Method} {c : Code} {H : Heap} {locs : List Loc} {Q : State → Prop} {b L : Nat} {xs : Nat → Int32} {D : va_G} {cI cZ cC cN : ClassId} {bl bh : Nat}
/-- what a callee of the law starts with -/
theorem lw_pc {ρ : Nat → Nat} {lo n : Nat} {w : AW} {as : List Value} (C : LC p s m meth c b L xs D cI cZ cC cN bl bh) (hw : w.length = n) (hρ : RHO ρ lo n H.size bl bh) (hlo : s.heap.size ≤ lo) (hP : va_P D vwCl (cW ρ (tysA cI cZ cC cN) w) H) (hS : va_S (fun q => s.heap.size ≤ q) s.heap H locs) :
    ∀ U : State, U.heap = H → s.WarmedH U.vm → PcA D cI cZ cC cN ρ as w H.size (as.map (cV ρ)).toArray U := by
  intro U hU hW
  obtain ⟨-, -, hK, hNW, hao, hST⟩ := C
  have hfree : ∀ q, va_A (cW ρ (tysA cI cZ cC cN) w) H.size q → s.heap.size ≤ q := by
    intro q h
    rcases cW_A h with ⟨k, hk, rfl⟩ | h
    · have := (hρ.1 k (by omega)).1
      omega
    · exact Nat.le_trans hS.1 h
  have keep : ∀ q : Nat, q < s.heap.size → ¬ s.heap.size ≤ q → H[q]? = s.heap[q]? := hS.2.1
  refine ⟨rfl, by rw [hU], by rw [hU]; exact hP, va_K.moved hW.alike hK, cW_D (by rw [hw]; exact hρ.2.1) (fun _ _ => trivial), fun k h1 h2 => by rw [hw] at h1 ⊢; exact hρ.2.2.1 k h1 h2, fun a i x h hm => va_Nw.warmM hW (hNW a i x h hm), va_AO.moved hW.alike hao, ?_⟩
  have one : ∀ {nm : String} {b : Nat} {f : Nat → Int32}, (va_Z "TwoScales$Tale" nm "[I" (.ref b) (fun q => s.heap.size ≤ q) s s.heap ∧ va_X b 3 f s s.heap ∧ b < s.heap.size) → (va_Z "TwoScales$Tale" nm "[I" (.ref b) (va_A (cW ρ (tysA cI cZ cC cN) w) H.size) U U.heap ∧ va_X b 3 f U U.heap ∧ b < U.heap.size ∧ ¬ va_A (cW ρ (tysA cI cZ cC cN) w) H.size b) := by
    intro nm b f h
    obtain ⟨h1, h2, h3⟩ := h
    rw [hU]
    refine ⟨(va_Z.moved hW.alike (h1.kept keep)).narrow hfree, va_X.moved hW.alike (h2.kept (keep b h3 (by omega))), Nat.lt_of_lt_of_le h3 hS.1, fun q => ?_⟩
    have := hfree b q
    omega
  unfold STs
  rw [hρ.2.2.2.1, hρ.2.2.2.2]
  exact ⟨one hST.1, one hST.2⟩
/-- a call out of the law: on with its answer, its world as the abstract machine has it, all else as it was -/
theorem lw_call {ρ : Nat → Nat} {lo n : Nat} {w w' : AW} {r : Value} {as rest : List Value} {M k dd pc ci p0 p1 p2 p3 p4 : Nat} {fs : List Value} {ls : Array Slot} (C : LC p s m meth c b L xs D cI cZ cC cN bl bh) (hM : M < 188) (hB : lawB M k as.length p0 p1 p2 p3 p4 = true) (hdec : decode code pc = .ok (.invokevirtual k, 3)) (hdd : dd ≤ 100) (hev : Ev dd M 0 (ent (mL M) (.ref 0 :: as)) [] w (some r) w') (hw : w.length = n) (hw' : w'.length = n) (hsl : sl w' = sl w) (hn : n ≤ 1000)
    (hw0 : w[0]? = some (.inr (ci, fs))) (hcls : (vwCl[ci]?).map (fun q => q.1) = some (mY M).cls) (hsp : (spr (.ref 0 :: as)).length ≤ mL M) (hmL : mL M ≤ 40) (hρ : RHO ρ lo n (s.heap.size + 111) bl bh) (hlo : s.heap.size ≤ lo) (hlow : s.heap.size + 111 ≤ H.size) (hP : va_P D vwCl (cW ρ (tysA cI cZ cC cN) w) H) (hS : va_S (fun q => s.heap.size ≤ q) s.heap H locs) (hls : ls.size = 4) (hrest : (rest.map Value.category).sum ≤ 8)
    (K : ∀ (H1 : Heap) (locs1 : List Loc), va_P D vwCl (cW ρ (tysA cI cZ cC cN) w') H1 → H.size ≤ H1.size → (∀ q, q < H.size → (∀ k, k < n → q ≠ ρ k) → H1[q]? = H[q]?) → va_S (fun q => s.heap.size ≤ q) s.heap H1 locs1 → W p l e room_1 s m #[Value.ref b] below meth c H1 locs1 111 1429 Q (F0 m (pc + 3) ls (cV ρ r :: rest))) :
    W p l e room_1 s m #[Value.ref b] below meth c H locs 111 1429 Q (F0 m pc ls ((as.map (cV ρ)).reverse ++ .ref (ρ 0) :: rest)) := by
  have C' := C
  obtain ⟨⟨hx, hb, hr, hml, hown, hts, hX, hbl, hlocks, hgv⟩, hL, hK, hNW, hao, hST⟩ := C
  have htsA : ∀ x ∈ AL, x.before #[Value.ref b] s = true := fun x hx => hts x (List.mem_filter.mp hx).1
  refine W.sized hlow (fun hH => ?_)
  rw [← hH] at hρ
  obtain ⟨n0, hrun⟩ := hev
  have hmet := met_of (snd mok_all n0) (mok_all M hM) hM hrun hsp (by omega) l D cI cZ cC cN ρ H.size
  rw [show w'.length - w.length = 0 by omega, hsl, Nat.sub_self] at hmet
  simp only [lawB, Bool.and_eq_true] at hB
  obtain ⟨q3, q4, q5, q6, q7⟩ := hB
  obtain ⟨f1, f2, f3, f4⟩ := clB_facts q7
  have hfree : ∀ q, va_A (cW ρ (tysA cI cZ cC cN) w) H.size q → s.heap.size ≤ q := by
    intro q h
    rcases cW_A h with ⟨k, hk, rfl⟩ | h
    · have := (hρ.1 k (by omega)).1
      omega
    · exact Nat.le_trans hS.1 h
  have hpcU := lw_pc (as := .ref 0 :: as) C' hw hρ hlo hP hS
  obtain ⟨qC, hqC, hqn⟩ := Option.map_eq_some_iff.mp hcls
  have hrec := va_recv hK hP hqC (cW_at hw0)
  rw [hqn] at hrec
  have S0 : CallFix p m c code 4 s #[Value.ref b] AL R_law := ⟨hx, hb, hml, hown, htsA⟩
  refine am_call (va_runV (As := as.map (cV ρ)) (rest := rest) S0 hmet ⟨callB_of as.length htsA (AL_cons f1) rfl rfl rfl (htsA _ (wd_in q6)) (htsA _ (wd_in q3)) f2 ⟨?_, ?_⟩, htsA _ (wd_in q4), htsA _ (wd_in q5)⟩ ⟨PcA_blind, hrec, hpcU⟩ rfl (by simp) hls rfl (lv_room hrest) hdec ⟨Nat.le_of_ble_eq_true rfl, Nat.le_of_ble_eq_true rfl⟩) (fun v st₀ t L h0 hLf hvm hq => ?_)
  · show dd + 1 ≤ 2048
    omega
  · show 8 + (mL M + 11) + 64 * dd ≤ 84000
    omega
  · obtain ⟨hv, hP1, hD1, hF1⟩ := hq
    have hv2 : v = some (cV ρ r) := by cases hv; rfl
    subst hv2
    have hz1 : H.size ≤ t.heap.size := by rw [← h0]; exact hF1.1
    have hk1 : ∀ q : Nat, q < H.size → ¬ va_A (cW ρ (tysA cI cZ cC cN) w) H.size q → t.heap[q]? = H[q]? := by
      intro q q1 q2
      rw [hF1.2 q (by rw [h0]; exact q1) q2, h0]
    refine K t.heap (locs ++ L) hP1 hz1 (fun q h1 h2 => hk1 q h1 (fun z => ?_)) ⟨Nat.le_trans hS.1 hz1, fun q q1 q2 => ?_, fun q hq => ?_⟩
    · rcases cW_A z with ⟨k, hk, hk2⟩ | z
      · exact h2 k (by omega) hk2
      · omega
    · rw [hk1 q (Nat.lt_of_lt_of_le q1 hS.1) (fun z => q2 (hfree q z))]
      exact hS.2.1 q q1 q2
    · rcases List.mem_append.mp hq with z | z
      · exact hS.2.2 q z
      · exact hfree _ (hLf q z)
/-- the law reads its script: three figures on from i -/
theorem lw_arg {A : Nat → Prop} {cells slots : Nat} {pc i aN : Nat} {a : Int} {ls : Array Slot} {st : List Value} {q1 q2 : Nat} (hx : p.tables.exec = Jvm.exec) (hb : c.code = code) (hX : va_X b L xs s s.heap) (hbl : b < s.heap.size) (hbA : ¬ A b) (hS : va_S A s.heap H locs) (hL : L ≤ 2048)
    (d0 : decode code pc = .ok (.aload_n 0, 1)) (d1 : decode code (pc + 1) = .ok (.iload_n 3, 1)) (d2 : decode code (pc + 2) = .ok (.iconst a, 1)) (d3 : decode code (pc + 3) = .ok (.iadd, 1)) (d4 : decode code (pc + 4) = .ok (.iaload, 1)) (ha : Int32.ofInt a = nI aN) (hi : i + aN < L) (hl : lv_has ls 4 [(0, .ref b), (1, .ref q1), (2, .ref q2), (3, .int (nI i))])
    (K : W p l e room_1 s m #[Value.ref b] below meth c H locs cells slots Q (F0 m (pc + 5) ls (.int (xs (i + aN)) :: st))) : W p l e room_1 s m #[Value.ref b] below meth c H locs cells slots Q (F0 m pc ls st) := by
  refine lv_aload_n hx hb d0 rfl (lv_at hl 0 rfl) ?_
  refine lv_iload_n hx hb d1 rfl (lv_at hl 3 rfl) ?_
  refine lv_iconst (v := nI aN) hx hb d2 ha ?_
  refine lv_iadd hx hb d3 ?_
  rw [nI_add]
  refine va_sld hx hb hX hbl hbA hS (vp_in_nI hi (by omega)) d4 ?_
  rw [nI_clamp (by omega)]
  exact K
end LAW1
theorem rl_0 : RL gC0 (FL0 (fun _ => z0)) := by
  refine ⟨0, 0, 0, 0, 0, 0, 0, ⟨⟨by omega, by omega, by omega⟩, ⟨rfl, rfl, rfl⟩, ⟨rfl, rfl, rfl⟩, fun t ht => absurd ht (by omega), fun t ht => absurd ht (by omega), fun u hu => ?_, fun t ht => absurd ht (by omega)⟩, ⟨fun t ht => absurd ht (by omega), fun t ht => absurd ht (by omega)⟩, ⟨by omega, rfl, rfl, rfl, fun t ht => absurd ht (by omega)⟩, ⟨by omega, by omega, rfl, rfl, rfl, fun t ht => absurd ht (by omega)⟩, fun i hi => ?_, ⟨by omega, rfl, rfl, fun t ht => absurd ht (by omega)⟩⟩
  · match u, hu with
    | 0, _ => exact ⟨⟨rfl, rfl⟩, ⟨4, by omega, by omega, rfl⟩, ⟨6, by omega, by omega, rfl⟩⟩
    | 1, _ => exact ⟨⟨rfl, rfl⟩, ⟨20, by omega, by omega, rfl⟩, ⟨24, by omega, by omega, rfl⟩⟩
    | 2, _ => exact ⟨⟨rfl, rfl⟩, ⟨21, by omega, by omega, rfl⟩, ⟨40, by omega, by omega, rfl⟩⟩
  · match i, hi with
    | 0, _ => exact Or.inl ⟨rfl, rfl⟩
    | 1, _ => exact Or.inl ⟨rfl, rfl⟩
