section SNDR
variable {p : Program} {l : Launch} {e : Env} {R : Room} {s : State} {m : MethodId} {args : Array Value} {below : List Frame} {meth : Method} {c : Code} {H : Heap} {locs : List Loc} {cells slots : Nat}
variable {ρ : Nat → Nat} {w : AW} {y : MethodName} {bs : ByteArray} {mx : Nat} {cr : List Row} {A : Nat → Prop} {d : Nat}
set_option maxHeartbeats 4000000 in
/-- returns -/
theorem snd2r (hx : p.tables.exec = Jvm.exec) (hb : c.code = bs) {rt : Option FieldType} (hr : meth.sig.returnType = rt) (hlocks : meth.locks = false) {row : Row} {i : Nat} (hrow : cr[i]? = some row) (hok : rowB y bs mx cr i row = true) {st : List Value} {r : Option Value} (h : nx2 row rt d st w = some (.inr (.inl r))) {lc : Array Slot} {Qc : Array Value → State → Outcome → State → Prop} (hl : ∀ q ∈ locs, A q.base)
    (hQ : ∀ t : State, t.heap = H → s.WarmedH t.vm → Qc args s (.returned (r.map (cV ρ))) t) : W p l e R s m args below meth c H locs cells slots (MQ below Qc args s cells slots A) (F0 m (pcq cr i) lc (st.map (cV ρ))) := by
  have hpc : pcq cr i = row.1 := by simp [pcq, hrow]
  rw [hpc]
  obtain ⟨pc, ins, a, b, z, zl, sw, ps⟩ := row
  cases ins with
  | ireturn =>
    simp only [rowB, decide_eq_true_eq] at hok
    simp only [nx2] at h
    split at h
    · rename_i v
      split at h
      · rename_i hn
        simp only [Option.some.injEq, Sum.inr.injEq, Sum.inl.injEq] at h
        subst h
        unfold rNar at hn
        split at hn
        · simp only [decide_eq_true_eq] at hn
          exact W.zret (ty := .boolean) hx hb hr (by rcases hn with rfl | rfl <;> rfl) hQ hl hok hlocks
        · exact W.zret (ty := .int) hx hb hr rfl hQ hl hok hlocks
        · cases hn
      · cases h
    · cases h
  | lreturn =>
    simp only [rowB, decide_eq_true_eq] at hok
    simp only [nx2] at h
    split at h
    · split at h
      · rename_i hn
        simp only [Option.some.injEq, Sum.inr.injEq, Sum.inl.injEq] at h
        subst h
        exact W.lret hx hb (hr.trans hn) hQ hl hok hlocks
      · cases h
    · cases h
  | areturn =>
    simp only [rowB, decide_eq_true_eq] at hok
    simp only [nx2] at h
    split at h
    · split at h
      · rename_i hn
        simp only [Option.some.injEq, Sum.inr.injEq, Sum.inl.injEq] at h
        subst h
        exact W.aret hx hb (hr.trans hn) (Or.inl ⟨_, rfl⟩) (Or.inr ⟨_, rfl⟩) hQ hl hok hlocks
      · cases h
    · cases h
  | return_ =>
    simp only [rowB, decide_eq_true_eq] at hok
    simp only [nx2] at h
    split at h
    · split at h
      · rename_i hn
        simp only [Option.some.injEq, Sum.inr.injEq, Sum.inl.injEq] at h
        subst h
        exact W.vret hx hb (hr.trans hn) hQ hl hok hlocks
      · cases h
    · cases h
  | _ =>
    simp only [nx2] at h
    first
      | (simp at h; done)
      | (repeat' split at h)
    all_goals first
      | (cases h; done)
      | (simp at h; done)
end SNDR
/-- a contract of every method, out of the abstract machine's run -/
def Bdy (n : Nat) : Prop := ∀ (d M i : Nat) (ls st : List Value) (w : AW) (r : Option Value) (w' : AW), run n d M i ls st w = some (r, w') → M < 188 →
  ∀ (p : Program) (l : Launch) (e : Env) (s : State) (m : MethodId) (args : Array Value) (below : List Frame) (meth : Method) (c : Code) (H : Heap) (locs : List Loc) (D : va_G) (cI cZ cC cN : ClassId) (ρ : Nat → Nat) (A : Nat → Prop) (cc0 sl0 : Nat) (lc : Array Slot) (Qc : Array Value → State → Outcome → State → Prop),
  p.tables.exec = Jvm.exec → c.code = mB M → c.maxLocals = mL M → meth.sig.returnType = mR M → meth.locks = false → s.vm.findClass (mY M).cls = some m.cls → ((mY M).name = "<init>" → meth.name = "<init>") → (∀ x ∈ AL, x.before args s = true) → NW s → va_AO "TwoScales$Now" s → va_K D vwCl (tysA cI cZ cC cN) s → STs ρ A s →
  (∀ q, s.heap.size ≤ q → A q) → (∀ q, A q → s.heap.size ≤ q ∨ ∃ k, k < cc0 ∧ q = ρ k) → (∀ k, cc0 ≤ k → k < 1000000 → ρ k = s.heap.size + (k - cc0)) → cc0 ≤ w.length → sl0 ≤ sl w → w.length ≤ 1000 →
  va_P D vwCl (cW ρ (tysA cI cZ cC cN) w) H → va_D A (cW ρ (tysA cI cZ cC cN) w) → va_S A s.heap H locs → LR ρ (mL M) ls lc →
  (∀ t : State, va_P D vwCl (cW ρ (tysA cI cZ cC cN) w') t.heap → va_D A (cW ρ (tysA cI cZ cC cN) w') → va_F A s t → Qc args s (.returned (r.map (cV ρ))) t) →
  W p l e { frames := d, cells := w'.length - cc0, slots := sl w' - sl0, locals := 64 * d } s m args below meth c H locs (w.length - cc0) (sl w - sl0) (MQ below Qc args s (w'.length - cc0) (sl w' - sl0) A) (F0 m (pcq (mP M) i) lc (st.map (cV ρ)))
theorem met_of {n : Nat} (ih : Bdy n) {d M : Nat} (hmok : mokB M = true) (hM : M < 188) {as : List Value} {w w1 : AW} {r : Option Value} (hrun : run n d M 0 (ent (mL M) as) [] w = some (r, w1)) (hsp : (spr as).length ≤ mL M) (hwl : w.length ≤ 1000) (l : Launch) (D : va_G) (cI cZ cC cN : ClassId) (ρ : Nat → Nat) (sz : Nat) :
    Met l (mY M) (.code (mY M) (mB M) (mL M) (mR M) :: AL) { frames := d, cells := w1.length - w.length, slots := sl w1 - sl w, locals := 64 * d } (PcA D cI cZ cC cN ρ as w sz) (QcA D cI cZ cC cN ρ r w w1 sz) (w1.length - w.length) (sl w1 - sl w) (va_A (cW ρ (tysA cI cZ cC cN) w) sz) := by
  simp only [mokB, Bool.and_eq_true, decide_eq_true_eq] at hmok
  obtain ⟨-, hpl, hpc0, hcw⟩ := hmok
  refine va_MetF (cc := mB M) (maxL := mL M) (ret := mR M) hpl rfl ?_
  intro p e s m args below meth c s₁ B hml hv
  obtain ⟨rfl, hsz, hP, hK, hD0, hF, hNW, hao, hST⟩ := hv
  subst hsz
  have hts := atoms_spec (ws := .code (mY M) (mB M) (mL M) (mR M) :: AL) B.pre
  have hnm := name_of_methodNamed B.named B.method
  rw [lg_entry_eq]
  have hD := hD0.self (sz := s.heap.size)
  have key := ih d M 0 (ent (mL M) as) [] w r w1 hrun hM p l e s m (as.map (cV ρ)).toArray below meth c s.heap [] D cI cZ cC cN ρ (va_A (cW ρ (tysA cI cZ cC cN) w) s.heap.size) w.length (sl w) _ (QcA D cI cZ cC cN ρ r w w1 s.heap.size)
    B.exec B.bytes hml B.returns B.notSynchronized (findClass_of_methodNamed B.named) (fun q => by rw [hnm.1]; exact q) (fun x hx => hts x (List.mem_cons_of_mem _ hx)) hNW hao hK hST (fun q h => Or.inr h) (fun q h => by
      rcases h with ⟨k, x, h⟩ | h
      · obtain ⟨y, h1, h2⟩ := cW_of h
        have h3 : q = ρ k := congrArg Prod.fst h2
        exact Or.inr ⟨k, (List.getElem?_eq_some_iff.mp h1).1, h3⟩
      · exact Or.inl h) hF (Nat.le_refl _) (Nat.le_refl _) hwl hP hD va_S.rf (LR.entry hsp) (fun t h1 h2 h3 => ⟨rfl, h1, h2, h3⟩)
  rw [Nat.sub_self, Nat.sub_self, hpc0] at key
  exact key
set_option maxHeartbeats 4000000 in
theorem nx2_small {row : Row} {rt : Option FieldType} {d : Nat} {st st' : List Value} {w w1 : AW} (h : nx2 row rt d st w = some (.inl (st', w1))) (hw : w.length ≤ 1000) : w1.length ≤ 1000 := by
  obtain ⟨pc, ins, a, b, z, zl, sw, ps⟩ := row
  cases ins <;> simp only [nx2] at h
  all_goals first
    | (simp at h; done)
    | (repeat' split at h)
  all_goals first
    | (cases h; done)
    | (simp at h; done)
    | (simp only [Option.some.injEq, Sum.inl.injEq, Prod.mk.injEq] at h
       obtain ⟨rfl, rfl⟩ := h
       first
         | exact hw
         | (simp only [List.length_set]; exact hw)
         | (simp only [List.length_append, List.length_cons, List.length_nil]; omega))
theorem run_small : ∀ (n d M i : Nat) (ls st : List Value) (w : AW) (r : Option Value) (w' : AW), run n d M i ls st w = some (r, w') → w.length ≤ 1000 → w'.length ≤ 1000 := by
  intro n
  induction n with
  | zero => intro d M i ls st w r w' h; simp [run] at h
  | succ n ih =>
    intro d M i ls st w r w' h hw
    rw [run] at h
    cases hr : (mP M)[i]? with
    | none => rw [hr] at h; simp at h
    | some row =>
      rw [hr] at h
      simp only at h
      cases h1 : nx1 row i ls st w with
      | some q => obtain ⟨i', ls', st'⟩ := q; rw [h1] at h; simp only at h; exact ih _ _ _ _ _ _ _ _ h hw
      | none =>
        rw [h1] at h
        simp only at h
        cases h2 : nx2 row (mR M) d st w with
        | none => rw [h2] at h; simp at h
        | some q =>
          rw [h2] at h
          match q, h, h2 with
          | .inl (st', w1), h, h2 => simp only at h; exact ih _ _ _ _ _ _ _ _ h (nx2_small h2 hw)
          | .inr (.inl r), h, h2 => simp at h; rw [← h.2]; exact hw
          | .inr (.inr (d', M', args, rest)), h, h2 =>
            simp only at h
            cases h3 : run n d' M' 0 (ent (mL M') args) [] w with
            | none => rw [h3] at h; simp at h
            | some q =>
              rw [h3] at h
              obtain ⟨r1, w1⟩ := q
              simp only at h
              exact ih _ _ _ _ _ _ _ _ h (ih _ _ _ _ _ _ _ _ h3 hw)
theorem clB_facts {a b q : Nat} (h : clB a b q = true) : Cond.code (mY a) (mB a) (mL a) (mR a) ∈ AL ∧ ((mY a).cls ≠ "java/lang/invoke/MethodHandle" ∧ (mY a).cls ≠ "java/lang/invoke/VarHandle" ∧ (parseMethodDescriptor (mY a).desc).map (fun d => d.parameters.length) = some b) ∧ mL a ≤ 40 ∧ a < 188 := by
  simp only [clB, Bool.and_eq_true, decide_eq_true_eq] at h
  obtain ⟨h1, h2, h3, h4, h5, h6⟩ := h
  exact ⟨wd_in h1, ⟨h2, h3, h4⟩, Nat.ble_eq.mp h5, Nat.blt_eq.mp h6⟩
theorem AL_cons {x : Cond} (h : x ∈ AL) : GoodIn AL (x :: AL) := fun w hw => AL_self w ((List.mem_cons.mp hw).elim (fun e => e ▸ h) id)
theorem am_stk {ρ : Nat → Nat} {st : List Value} (b : Nat) : st.map (cV ρ) = (((st.take b).reverse).map (cV ρ)).reverse ++ (st.drop b).map (cV ρ) := by
  rw [← List.map_reverse, List.reverse_reverse, ← List.map_append, List.take_append_drop]
set_option maxHeartbeats 4000000 in
set_option maxRecDepth 100000 in
theorem snd (hmok : ∀ M, M < 188 → mokB M = true) : ∀ n, Bdy n := by
  intro n
  induction n with
  | zero => intro d M i ls st w r w' h; simp [run] at h
  | succ n ih =>
    intro d M i ls st w r w' h hM p l e s m args below meth c H locs D cI cZ cC cN ρ A cc0 sl0 lc Qc hx hb hml hr hlocks hown hin2 hts hNW hao hK hST hA hA2 hF hcc hsl hwl hP hD hS hL hQ
    have hg := run_grow _ _ _ _ _ _ _ _ _ h
    rw [run] at h
    cases hrow : (mP M)[i]? with
    | none => rw [hrow] at h; simp at h
    | some row =>
      have hok := mok_row (hmok M hM) hrow
      rw [hrow] at h
      simp only at h
      cases h1 : nx1 row i ls st w with
      | some q =>
        obtain ⟨i', ls', st'⟩ := q
        rw [h1] at h
        simp only at h
        exact snd1 hx hb hown hts hK hP hrow hok h1 hL (fun lc' hL' => ih d M i' ls' st' w r w' h hM p l e s m args below meth c H locs D cI cZ cC cN ρ A cc0 sl0 lc' Qc hx hb hml hr hlocks hown hin2 hts hNW hao hK hST hA hA2 hF hcc hsl hwl hP hD hS hL' hQ)
      | none =>
        rw [h1] at h
        simp only at h
        cases h2 : nx2 row (mR M) d st w with
        | none => rw [h2] at h; simp at h
        | some q =>
          rw [h2] at h
          match q, h, h2 with
          | .inl (st', w1), h, h2 =>
            simp only at h
            have g2 := run_grow _ _ _ _ _ _ _ _ _ h
            have g1 := nx2_grow h2
            refine snd2 (d := d) hx hb hml hown hin2 hts hao hK hST hA hA2 hF hcc hsl hwl rfl rfl (by show _ ≤ w'.length - cc0; omega) (by show _ ≤ sl w' - sl0; omega) hP hD hS hrow hok h2 hL (fun hwl1 H1 locs1 hP1 hD1 hS1 => ?_)
            exact ih d M (i + 1) ls st' w1 r w' h hM p l e s m args below meth c H1 locs1 D cI cZ cC cN ρ A cc0 sl0 lc Qc hx hb hml hr hlocks hown hin2 hts hNW hao hK hST hA hA2 hF (by omega) (by omega) hwl1 hP1 hD1 hS1 hL hQ
          | .inr (.inl r0), h, h2 =>
            simp only [Option.some.injEq, Prod.mk.injEq] at h
            obtain ⟨rfl, rfl⟩ := h
            exact snd2r hx hb hr hlocks hrow hok h2 hS.2.2 (fun t ht hW => hQ t (by rw [ht]; exact hP) hD (hS.F ht))
          | .inr (.inr (d', M', as, rest)), h, h2 =>
            simp only at h
            cases h3 : run n d' M' 0 (ent (mL M') as) [] w with
            | none => rw [h3] at h; simp at h
            | some q =>
              rw [h3] at h
              obtain ⟨r1, w1⟩ := q
              simp only at h
              have g1 := run_grow _ _ _ _ _ _ _ _ _ h3
              have g2 := run_grow _ _ _ _ _ _ _ _ _ h
              refine W.sized (am_low hP hS hwl hF) (fun hH => ?_)
              have hpcU := am_pc (as := as) hNW hao hK hST hA hF hcc hP hD hS hH
              have hfree := am_free hA hD hS
              have hwl1 := run_small _ _ _ _ _ _ _ _ _ h3 hwl
              suffices hR : (mokB M' = true → M' < 188 → (spr as).length ≤ mL M' → va_Run p l e { frames := d, cells := w'.length - cc0, slots := sl w' - sl0, locals := 64 * d } s m args below meth c H locs (w.length - cc0) (sl w - sl0) (w1.length - w.length) (sl w1 - sl w) (F0 m (pcq (mP M) i) lc (st.map (cV ρ))) (rest.map (cV ρ)) (QcA D cI cZ cC cN ρ r1 w w1 H.size (as.map (cV ρ)).toArray) (va_A (cW ρ (tysA cI cZ cC cN) w) H.size)) ∧ pcq (mP M) (i + 1) = pcq (mP M) i + 3 ∧ M' < 188 ∧ (spr as).length ≤ mL M' by
                obtain ⟨hR, hpc, hM', hsp⟩ := hR
                refine am_call (hR (hmok M' hM') hM' hsp) (fun v st₀ t L h0 hLf hvm hq => ?_)
                obtain ⟨hv, hP1, hD1, hF1⟩ := hq
                have hv2 : v = r1.map (cV ρ) := by cases hv; rfl
                subst hv2
                have hz1 : H.size ≤ t.heap.size := by rw [← h0]; exact hF1.1
                have hk1 : ∀ q : Nat, q < H.size → ¬ va_A (cW ρ (tysA cI cZ cC cN) w) H.size q → t.heap[q]? = H[q]? := by
                  intro q q1 q2
                  rw [hF1.2 q (by rw [h0]; exact q1) q2, h0]
                have hS1 : va_S A s.heap t.heap (locs ++ L) := by
                  refine ⟨Nat.le_trans hS.1 hz1, fun q q1 q2 => ?_, fun q hq => ?_⟩
                  · rw [hk1 q (Nat.lt_of_lt_of_le q1 hS.1) (fun z => q2 (hfree q z))]
                    exact hS.2.1 q q1 q2
                  · rcases List.mem_append.mp hq with z | z
                    · exact hS.2.2 q z
                    · exact hfree _ (hLf q z)
                have key := ih d M (i + 1) ls (r1.toList ++ rest) w1 r w' h hM p l e s m args below meth c t.heap (locs ++ L) D cI cZ cC cN ρ A cc0 sl0 lc Qc hx hb hml hr hlocks hown hin2 hts hNW hao hK hST hA hA2 hF (by omega) (by omega) hwl1 hP1 (hD1.weaken (fun _ q _ z => hfree _ z)) hS1 hL hQ
                rw [hpc, show w1.length - cc0 = w.length - cc0 + (w1.length - w.length) by omega, show sl w1 - sl0 = sl w - sl0 + (sl w1 - sl w) by omega, List.map_append] at key
                have e0 : (r1.map (cV ρ)).toList = r1.toList.map (cV ρ) := by cases r1 <;> rfl
                rw [e0]
                exact key
              have hroom : w.length - cc0 + (w1.length - w.length) ≤ w'.length - cc0 ∧ sl w - sl0 + (sl w1 - sl w) ≤ sl w' - sl0 := by constructor <;> omega
              have hpc0 : pcq (mP M) i = row.1 := by simp [pcq, hrow]
              obtain ⟨pc, ins, a, b, z, zl, sw, ps⟩ := row
              have S0 : CallFix p m c (mB M) (mL M) s args AL (mY M).cls := ⟨hx, hb, hml, hown, hts⟩
              cases ins with
              | invokestatic k =>
                simp only [rowB, Bool.and_eq_true, decide_eq_true_eq] at hok
                obtain ⟨⟨q1, q2⟩, q3⟩ := hok
                simp only [nx2] at h2
                split at h2
                · repeat' split at h2
                  all_goals first
                    | (cases h2; done)
                    | (simp at h2; done)
                · rename_i ha
                  rw [if_neg ha] at q3
                  simp only [Bool.and_eq_true] at q3
                  obtain ⟨q3, q4, q5, q6⟩ := q3
                  obtain ⟨f1, f2, f3, f4⟩ := clB_facts q6
                  split at h2
                  · cases h2
                  · skip
                    split at h2
                    · rename_i hcond
                      obtain ⟨c1, c2, c3⟩ := hcond
                      simp only [Option.some.injEq, Sum.inr.injEq, Prod.mk.injEq] at h2
                      obtain ⟨rfl, rfl, rfl, rfl⟩ := h2
                      refine ⟨fun hm1 hm2 hm3 => ?_, by rw [q2, hpc0], f4, c3⟩
                      rw [hpc0]
                      exact va_runS S0 (met_of ih hm1 hm2 h3 hm3 hwl l D cI cZ cC cN ρ H.size) ⟨callB_of b hts (AL_cons f1) rfl rfl rfl (hts _ (wd_in q5)) (hts _ (wd_in q3)) f2 ⟨Nat.le_refl _, by show 8 + (mL a + 11) + 64 * _ ≤ 64 * (_ + 1); omega⟩, hts _ (wd_in q4)⟩ ⟨PcA_blind, hpcU⟩ rfl (by simp [c1]) hL.1 (am_stk b) (lv_room (by rw [cats]; exact c2)) q1 hroom
                    · cases h2
              | invokevirtual k =>
                simp only [rowB, Bool.and_eq_true, decide_eq_true_eq] at hok
                obtain ⟨⟨q1, q2⟩, q3, q4, q5, q6, q7⟩ := hok
                obtain ⟨f1, f2, f3, f4⟩ := clB_facts q7
                simp only [nx2] at h2
                split at h2
                · cases h2
                · skip
                  split at h2
                  · rename_i k0 rest0 hdrop
                    split at h2
                    · rename_i ci fs hw
                      split at h2
                      · rename_i hcond
                        obtain ⟨c1, c2, c3, c4⟩ := hcond
                        simp only [Option.some.injEq, Sum.inr.injEq, Prod.mk.injEq] at h2
                        obtain ⟨rfl, rfl, rfl, rfl⟩ := h2
                        obtain ⟨qC, hqC, hqn⟩ := Option.map_eq_some_iff.mp c2
                        refine ⟨fun hm1 hm2 hm3 => ?_, by rw [q2, hpc0], f4, c4⟩
                        rw [hpc0]
                        have hrec := va_recv hK hP hqC (cW_at hw)
                        rw [hqn] at hrec
                        exact va_runV S0 (met_of ih hm1 hm2 h3 hm3 hwl l D cI cZ cC cN ρ H.size) ⟨callB_of b hts (AL_cons f1) rfl rfl rfl (hts _ (wd_in q6)) (hts _ (wd_in q3)) f2 ⟨Nat.le_refl _, by show 8 + (mL a + 11) + 64 * _ ≤ 64 * (_ + 1); omega⟩, hts _ (wd_in q4), hts _ (wd_in q5)⟩ ⟨PcA_blind, hrec, hpcU⟩ rfl (by simp [c1]) hL.1 (by rw [am_stk b, hdrop]; rfl) (lv_room (by rw [cats]; exact c3)) q1 hroom
                      · cases h2
                    · cases h2
                  · cases h2
              | invokespecial k =>
                simp only [rowB, Bool.and_eq_true, decide_eq_true_eq] at hok
                obtain ⟨⟨q1, q2⟩, q3⟩ := hok
                simp only [nx2] at h2
                split at h2
                · cases h2
                · skip
                  split at h2
                  · repeat' split at h2
                    all_goals first
                      | (cases h2; done)
                      | (simp at h2; done)
                  · rename_i ha
                    rw [if_neg ha] at q3
                    simp only [Bool.and_eq_true, decide_eq_true_eq] at q3
                    obtain ⟨q3, q4, q5, q6, q7, q8⟩ := q3
                    obtain ⟨f1, f2, f3, f4⟩ := clB_facts q8
                    split at h2
                    · rename_i k0 rest0 hdrop
                      split at h2
                      · rename_i hcond
                        obtain ⟨c1, c2, c3⟩ := hcond
                        simp only [Option.some.injEq, Sum.inr.injEq, Prod.mk.injEq] at h2
                        obtain ⟨rfl, rfl, rfl, rfl⟩ := h2
                        refine ⟨fun hm1 hm2 hm3 => ?_, by rw [q2, hpc0], f4, c3⟩
                        rw [hpc0]
                        have hmet := met_of ih hm1 hm2 h3 hm3 hwl l D cI cZ cC cN ρ H.size
                        rw [q7] at hmet f1
                        split at q3
                        · simp only [wdN, decide_eq_true_eq] at q3
                          exact va_runIN S0 hmet ⟨va_cnB b hts (AL_cons f1) rfl rfl rfl (hNW _ _ _ _ (List.mem_of_getElem? q3)) (hts _ (wd_in q5)) f2 ⟨Nat.le_refl _, by show 8 + (mL a + 11) + 64 * _ ≤ 64 * (_ + 1); omega⟩, q6, hts _ (wd_in q4)⟩ ⟨PcA_blind, hpcU⟩ rfl (by simp [c1]) hL.1 (by rw [am_stk b, hdrop]; rfl) (lv_room (by rw [cats]; exact c2)) q1 hroom
                        · exact va_runI S0 hmet ⟨callB_of b hts (AL_cons f1) rfl rfl rfl (hts _ (wd_in q5)) (hts _ (wd_in q3)) f2 ⟨Nat.le_refl _, by show 8 + (mL a + 11) + 64 * _ ≤ 64 * (_ + 1); omega⟩, q6, hts _ (wd_in q4)⟩ ⟨PcA_blind, hpcU⟩ rfl (by simp [c1]) hL.1 (by rw [am_stk b, hdrop]; rfl) (lv_room (by rw [cats]; exact c2)) q1 hroom
                      · cases h2
                    · cases h2
              | _ =>
                simp only [nx2] at h2
                first
                  | (simp at h2; done)
                  | (repeat' split at h2)
                all_goals first
                  | (cases h2; done)
                  | (simp at h2; done)
