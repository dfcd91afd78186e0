/-! SOUNDNESS: what the abstract machine answers, the machine does -/
theorem mok_row {M i : Nat} {row : Row} (h : mokB M = true) (hr : (mP M)[i]? = some row) : rowB (mY M) (mB M) (mL M) (mP M) i row = true := by
  simp only [mokB, Bool.and_eq_true] at h
  have h1 := List.all_eq_true.mp h.1 (row, i) (by
    rw [List.mem_iff_getElem?]
    exact ⟨i, by simp [List.getElem?_zipIdx, hr]⟩)
  exact h1
def NW (U : State) : Prop := ∀ (a : String) (i : Nat) (x : MethodName) (h : String), Cond.methodLinkNest a i x h ∈ lw_tbl → va_Nw (.methodLinkNest a i x h) U
def PcA (D : va_G) (cI cZ cC cN : ClassId) (ρ : Nat → Nat) (as : List Value) (w : AW) (sz : Nat) : Array Value → State → Prop := fun v U =>
  v = (as.map (cV ρ)).toArray ∧ U.heap.size = sz ∧ va_P D vwCl (cW ρ (tysA cI cZ cC cN) w) U.heap ∧ va_K D vwCl (tysA cI cZ cC cN) U ∧ va_D (fun _ => True) (cW ρ (tysA cI cZ cC cN) w) ∧ (∀ k, w.length ≤ k → k < 1000000 → ρ k = sz + (k - w.length)) ∧ NW U ∧ va_AO "TwoScales$Now" U ∧ STs ρ (va_A (cW ρ (tysA cI cZ cC cN) w) sz) U
def QcA (D : va_G) (cI cZ cC cN : ClassId) (ρ : Nat → Nat) (r : Option Value) (w w' : AW) (sz : Nat) : Array Value → State → Outcome → State → Prop := fun _ st oc t =>
  oc = .returned (r.map (cV ρ)) ∧ va_P D vwCl (cW ρ (tysA cI cZ cC cN) w') t.heap ∧ va_D (va_A (cW ρ (tysA cI cZ cC cN) w) sz) (cW ρ (tysA cI cZ cC cN) w') ∧ va_F (va_A (cW ρ (tysA cI cZ cC cN) w) sz) st t
theorem PcA_blind {D : va_G} {cI cZ cC cN : ClassId} {ρ : Nat → Nat} {as : List Value} {w : AW} {sz : Nat} : FrameBlind (PcA D cI cZ cC cN ρ as w sz) := by
  intro a U g mk q
  obtain ⟨q0, q1, qP, qK, qD, qF, qN, qO, qS⟩ := q
  refine ⟨q0, q1, qP, va_K.moved (u := U) (U := U.calling g mk a) (Vm.Alike.refl U.vm) qK, qD, qF, fun a1 i x h hm => va_Nw.same (u := U) rfl rfl (qN a1 i x h hm), va_AO.moved (u := U) (Vm.Alike.refl U.vm) qO, ?_⟩
  exact ⟨⟨va_Z.moved (u := U) (Vm.Alike.refl U.vm) qS.1.1, va_X.moved (u := U) (Vm.Alike.refl U.vm) qS.1.2.1, qS.1.2.2⟩, ⟨va_Z.moved (u := U) (Vm.Alike.refl U.vm) qS.2.1, va_X.moved (u := U) (Vm.Alike.refl U.vm) qS.2.2.1, qS.2.2.2⟩⟩
set_option maxHeartbeats 4000000 in
theorem nx2_grow {row : Row} {rt : Option FieldType} {d : Nat} {st st' : List Value} {w w1 : AW} (h : nx2 row rt d st w = some (.inl (st', w1))) : w.length ≤ w1.length ∧ sl w ≤ sl w1 := by
  obtain ⟨pc, ins, a, b, z, zl, sw, ps⟩ := row
  cases ins <;> simp only [nx2] at h
  all_goals first
    | (simp at h; done)
    | (repeat' split at h)
  all_goals first
    | (cases h; done)
    | (simp at h; done)
    | (simp only [Option.some.injEq, Sum.inl.injEq, Prod.mk.injEq] at h
       obtain ⟨rfl, rfl⟩ := h
       first
         | exact ⟨Nat.le_refl _, Nat.le_refl _⟩
         | exact ⟨by simp, Nat.le_of_eq (sl_set (by assumption) (by simp [sl1])).symm⟩
         | exact ⟨by simp, by rw [sl_push]; omega⟩)
theorem run_grow : ∀ (n d M i : Nat) (ls st : List Value) (w : AW) (r : Option Value) (w' : AW), run n d M i ls st w = some (r, w') → w.length ≤ w'.length ∧ sl w ≤ sl w' := by
  intro n
  induction n with
  | zero => intro d M i ls st w r w' h; simp [run] at h
  | succ n ih =>
    intro d M i ls st w r w' h
    rw [run] at h
    cases hr : (mP M)[i]? with
    | none => rw [hr] at h; simp at h
    | some row =>
      rw [hr] at h
      simp only at h
      cases h1 : nx1 row i ls st w with
      | some q => obtain ⟨i', ls', st'⟩ := q; rw [h1] at h; simp only at h; exact ih _ _ _ _ _ _ _ _ h
      | none =>
        rw [h1] at h
        simp only at h
        cases h2 : nx2 row (mR M) d st w with
        | none => rw [h2] at h; simp at h
        | some q =>
          rw [h2] at h
          match q, h, h2 with
          | .inl (st', w1), h, h2 =>
            simp only at h
            have a1 := nx2_grow h2
            have a2 := ih _ _ _ _ _ _ _ _ h
            exact ⟨Nat.le_trans a1.1 a2.1, Nat.le_trans a1.2 a2.2⟩
          | .inr (.inl r), h, h2 => simp at h; rw [h.2]; exact ⟨Nat.le_refl _, Nat.le_refl _⟩
          | .inr (.inr (d', M', args, rest)), h, h2 =>
            simp only at h
            cases h3 : run n d' M' 0 (ent (mL M') args) [] w with
            | none => rw [h3] at h; simp at h
            | some q =>
              rw [h3] at h
              obtain ⟨r1, w1⟩ := q
              simp only at h
              have a1 := ih _ _ _ _ _ _ _ _ h3
              have a2 := ih _ _ _ _ _ _ _ _ h
              exact ⟨Nat.le_trans a1.1 a2.1, Nat.le_trans a1.2 a2.2⟩
section SND
variable {p : Program} {l : Launch} {e : Env} {R : Room} {s : State} {m : MethodId} {args : Array Value} {below : List Frame} {meth : Method} {c : Code} {H : Heap} {locs : List Loc} {cells slots : Nat} {Q : State → Prop}
/-- behind a call, whatever it answers -/
theorem am_call {pc : Nat} {lc : Array Slot} {st0 rest : List Value} {Qa : State → Outcome → State → Prop} {free : Addr → Prop} {mc ms : Nat} (hr : va_Run p l e R s m args below meth c H locs cells slots mc ms (F0 m pc lc st0) rest Qa free)
    (kk : ∀ (v : Option Value) (st₀ t : State) (L : List Loc), st₀.heap = H → (∀ q ∈ L, free q.base) → s.vm.Alike t.vm → Qa st₀ (.returned v) t → W p l e R s m args below meth c t.heap (locs ++ L) (cells + mc) (slots + ms) Q (F0 m (pc + 3) lc (v.toList ++ rest))) : W p l e R s m args below meth c H locs cells slots Q (F0 m pc lc st0) := by
  intro T hT X
  obtain ⟨v, st₀, t, T', L, h0, X', hL, e1, e2, hq, st⟩ := hr T hT X
  obtain ⟨t2, a1, b1⟩ := kk v st₀ t L h0 hL (by rw [← e2]; exact X'.warmed.alike) hq T' e1 X'
  exact ⟨t2, st t2 a1, b1⟩
variable {D : va_G} {cI cZ cC cN : ClassId} {ρ : Nat → Nat} {w : AW} {A : Nat → Prop} {cc0 sl0 d : Nat}
theorem am_free (hA : ∀ q, s.heap.size ≤ q → A q) (hD : va_D A (cW ρ (tysA cI cZ cC cN) w)) (hS : va_S A s.heap H locs) : ∀ q, va_A (cW ρ (tysA cI cZ cC cN) w) H.size q → A q := by
  intro q h
  rcases h with ⟨k, x, h⟩ | h
  · exact hD.2 k (q, x) h
  · exact hA q (Nat.le_trans hS.1 h)
/-- what a callee starts with -/
theorem am_pc {as : List Value} (hNW : NW s) (hao : va_AO "TwoScales$Now" s) (hK : va_K D vwCl (tysA cI cZ cC cN) s) (hST : STs ρ A s) (hA : ∀ q, s.heap.size ≤ q → A q) (hF : ∀ k, cc0 ≤ k → k < 1000000 → ρ k = s.heap.size + (k - cc0)) (hcc : cc0 ≤ w.length) (hP : va_P D vwCl (cW ρ (tysA cI cZ cC cN) w) H) (hD : va_D A (cW ρ (tysA cI cZ cC cN) w)) (hS : va_S A s.heap H locs) (hH : H.size = s.heap.size + (w.length - cc0)) :
    ∀ U : State, U.heap = H → s.WarmedH U.vm → PcA D cI cZ cC cN ρ as w H.size (as.map (cV ρ)).toArray U := by
  intro U hU hW
  have hfree := am_free hA hD hS
  have keep : ∀ q : Nat, q < s.heap.size → ¬ A q → H[q]? = s.heap[q]? := hS.2.1
  refine ⟨rfl, by rw [hU], by rw [hU]; exact hP, va_K.moved hW.alike hK, hD.weaken (fun _ _ _ _ => trivial), fun k h1 h2 => ?_, fun a i x h hm => va_Nw.warmM hW (hNW a i x h hm), va_AO.moved hW.alike hao, ?_⟩
  · rw [hF k (by omega) h2, hH]
    omega
  · have one : ∀ {n : String} {b : Nat} {f : Nat → Int32}, (va_Z "TwoScales$Tale" n "[I" (.ref b) A s s.heap ∧ va_X b 3 f s s.heap ∧ b < s.heap.size ∧ ¬ A b) → (va_Z "TwoScales$Tale" n "[I" (.ref b) (va_A (cW ρ (tysA cI cZ cC cN) w) H.size) U U.heap ∧ va_X b 3 f U U.heap ∧ b < U.heap.size ∧ ¬ va_A (cW ρ (tysA cI cZ cC cN) w) H.size b) := by
      intro n b f h
      obtain ⟨h1, h2, h3, h4⟩ := h
      rw [hU]
      refine ⟨(va_Z.moved hW.alike (h1.kept keep)).narrow hfree, va_X.moved hW.alike (h2.kept (keep b h3 h4)), Nat.lt_of_lt_of_le h3 hS.1, fun q => h4 (hfree b q)⟩
    exact ⟨one hST.1, one hST.2⟩
end SND
