theorem k_X2_fitsPerson : (vwCl[2]?).map (fun q => q.1) = some (mY 16).cls := rfl
theorem t_hasThing (d : Nat) (g : Nat → Nat → Int32) (tr : Int64) (t : Int32) : Ev d 14 0 [.ref 16, .int t] [] (wC g tr) (some (.int (if 0 ≤ t ∧ t < g 42 0 then 1 else 0))) (wC g tr) := by
  refine Ev.sn e_X2_hasThing 1 (i' := 1) (st' := [_]) rfl ?_
  refine Ev.br e_X2_hasThing rfl rfl (fun h0 => ?_) (fun h0 => ?_)
  · refine Ev.sn e_X2_hasThing 1 (i' := 10) (st' := [_]) rfl ?_
    refine Ev.iret e_X2_hasThing rfl rfl rfl ?_ rfl
    rw [if_neg]
    intro h
    exact absurd h.1 (Int32.not_le.mpr h0)
  · refine Ev.sn e_X2_hasThing 4 (i' := 6) (st' := [_, _]) rfl ?_
    refine Ev.br e_X2_hasThing rfl rfl (fun h1 => ?_) (fun h1 => ?_)
    · refine Ev.sn e_X2_hasThing 1 (i' := 10) (st' := [_]) rfl ?_
      refine Ev.iret e_X2_hasThing rfl rfl rfl ?_ rfl
      sorry
    · refine Ev.sn e_X2_hasThing 2 (i' := 10) (st' := [_]) rfl ?_
      refine Ev.iret e_X2_hasThing rfl rfl rfl ?_ rfl
      sorry
