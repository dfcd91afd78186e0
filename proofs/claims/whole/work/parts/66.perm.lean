/-! the two tales change places: the same heap, its cells numbered otherwise -/
def piX (k : Nat) : Nat := if 3 ≤ k ∧ k ≤ 15 then k + 14 else if 17 ≤ k ∧ k ≤ 29 then k - 14 else k
theorem piX_lt {k : Nat} (h : k < 95) : piX k < 95 := by unfold piX; split; omega; split <;> omega
theorem piX_ge {k : Nat} (h : 30 ≤ k) : piX k = k := by unfold piX; rw [if_neg (by omega), if_neg (by omega)]
theorem piX_pi (k : Nat) : piX (piX k) = k := by
  unfold piX
  by_cases h1 : 3 ≤ k ∧ k ≤ 15
  · rw [if_pos h1, if_neg (by omega), if_pos (by omega)]; omega
  · rw [if_neg h1]
    by_cases h2 : 17 ≤ k ∧ k ≤ 29
    · rw [if_pos h2, if_pos (by omega)]; omega
    · rw [if_neg h2, if_neg h1, if_neg h2]
theorem rows_pi (ρ : Nat → Nat) : (fun j => (rowsC j).map (fun x => ρ (piX x))) = fun j => (rowsC j).map ρ := by
  funext j
  unfold rowsC
  by_cases h : j < 10
  · rw [if_pos h]
    show some (ρ (piX (36 + 4 * j))) = some (ρ (36 + 4 * j))
    rw [piX_ge (by omega)]
  · rw [if_neg h]; rfl
theorem imgs_pi (ρ : Nat → Nat) : (fun j => (imgsC j).map (fun x => ρ (piX x))) = fun j => (imgsC j).map ρ := by
  funext j
  unfold imgsC
  by_cases h : j < 2
  · rw [if_pos h]
    show some (ρ (piX (87 + 4 * j))) = some (ρ (87 + 4 * j))
    rw [piX_ge (by omega)]
  · rw [if_neg h]; rfl
theorem perm_one {ρ : Nat → Nat} {tys : List (ClassId × FieldType)} {w1 w2 : AW} {k k2 : Nat} {e1 e2 : AE} (h1 : w1[k]? = some e1) (h2 : w2[k2]? = some e2) (hk : piX k = k2) (he : cE (fun x => ρ (piX x)) tys e1 = cE ρ tys e2) : (cW (fun x => ρ (piX x)) tys w1)[k]? = (cW ρ tys w2)[piX k]? := by
  rw [cW_at h1, hk, cW_at h2, he, ← hk]
set_option maxRecDepth 20000 in
theorem perm_at (ρ : Nat → Nat) (tys : List (ClassId × FieldType)) (G : RG) (tr : Int64) : ∀ k, k < 95 → (cW (fun x => ρ (piX x)) tys (wC (swp G) tr))[k]? = (cW ρ tys (wX 17 3 G tr))[piX k]?
  | 0, _ => perm_one (k2 := 0) rfl rfl rfl rfl
  | 1, _ => perm_one (k2 := 1) rfl rfl rfl rfl
  | 2, _ => perm_one (k2 := 2) rfl rfl rfl rfl
  | 3, _ => perm_one (k2 := 17) rfl rfl rfl rfl
  | 4, _ => perm_one (k2 := 18) rfl rfl rfl rfl
  | 5, _ => perm_one (k2 := 19) rfl rfl rfl rfl
  | 6, _ => perm_one (k2 := 20) rfl rfl rfl rfl
  | 7, _ => perm_one (k2 := 21) rfl rfl rfl rfl
  | 8, _ => perm_one (k2 := 22) rfl rfl rfl rfl
  | 9, _ => perm_one (k2 := 23) rfl rfl rfl rfl
  | 10, _ => perm_one (k2 := 24) rfl rfl rfl rfl
  | 11, _ => perm_one (k2 := 25) rfl rfl rfl rfl
  | 12, _ => perm_one (k2 := 26) rfl rfl rfl rfl
  | 13, _ => perm_one (k2 := 27) rfl rfl rfl rfl
  | 14, _ => perm_one (k2 := 28) rfl rfl rfl rfl
  | 15, _ => perm_one (k2 := 29) rfl rfl rfl rfl
  | 16, _ => perm_one (k2 := 16) rfl rfl rfl rfl
  | 17, _ => perm_one (k2 := 3) rfl rfl rfl rfl
  | 18, _ => perm_one (k2 := 4) rfl rfl rfl rfl
  | 19, _ => perm_one (k2 := 5) rfl rfl rfl rfl
  | 20, _ => perm_one (k2 := 6) rfl rfl rfl rfl
  | 21, _ => perm_one (k2 := 7) rfl rfl rfl rfl
  | 22, _ => perm_one (k2 := 8) rfl rfl rfl rfl
  | 23, _ => perm_one (k2 := 9) rfl rfl rfl rfl
  | 24, _ => perm_one (k2 := 10) rfl rfl rfl rfl
  | 25, _ => perm_one (k2 := 11) rfl rfl rfl rfl
  | 26, _ => perm_one (k2 := 12) rfl rfl rfl rfl
  | 27, _ => perm_one (k2 := 13) rfl rfl rfl rfl
  | 28, _ => perm_one (k2 := 14) rfl rfl rfl rfl
  | 29, _ => perm_one (k2 := 15) rfl rfl rfl rfl
  | 30, _ => perm_one (k2 := 30) rfl rfl rfl rfl
  | 31, _ => perm_one (k2 := 31) rfl rfl rfl rfl
  | 32, _ => perm_one (k2 := 32) rfl rfl rfl rfl
  | 33, _ => perm_one (k2 := 33) rfl rfl rfl rfl
  | 34, _ => perm_one (k2 := 34) rfl rfl rfl rfl
  | 35, _ => perm_one (k2 := 35) rfl rfl rfl (congrArg (fun f => (Sum.inl ((tys.getD 3 (0, .int)).1, 10, .inr (.inr (.inr (.inr f)))) : va_E)) (rows_pi ρ))
  | 36, _ => perm_one (k2 := 36) rfl rfl rfl rfl
  | 37, _ => perm_one (k2 := 37) rfl rfl rfl rfl
  | 38, _ => perm_one (k2 := 38) rfl rfl rfl rfl
  | 39, _ => perm_one (k2 := 39) rfl rfl rfl rfl
  | 40, _ => perm_one (k2 := 40) rfl rfl rfl rfl
  | 41, _ => perm_one (k2 := 41) rfl rfl rfl rfl
  | 42, _ => perm_one (k2 := 42) rfl rfl rfl rfl
  | 43, _ => perm_one (k2 := 43) rfl rfl rfl rfl
  | 44, _ => perm_one (k2 := 44) rfl rfl rfl rfl
  | 45, _ => perm_one (k2 := 45) rfl rfl rfl rfl
  | 46, _ => perm_one (k2 := 46) rfl rfl rfl rfl
  | 47, _ => perm_one (k2 := 47) rfl rfl rfl rfl
  | 48, _ => perm_one (k2 := 48) rfl rfl rfl rfl
  | 49, _ => perm_one (k2 := 49) rfl rfl rfl rfl
  | 50, _ => perm_one (k2 := 50) rfl rfl rfl rfl
  | 51, _ => perm_one (k2 := 51) rfl rfl rfl rfl
  | 52, _ => perm_one (k2 := 52) rfl rfl rfl rfl
  | 53, _ => perm_one (k2 := 53) rfl rfl rfl rfl
  | 54, _ => perm_one (k2 := 54) rfl rfl rfl rfl
  | 55, _ => perm_one (k2 := 55) rfl rfl rfl rfl
  | 56, _ => perm_one (k2 := 56) rfl rfl rfl rfl
  | 57, _ => perm_one (k2 := 57) rfl rfl rfl rfl
  | 58, _ => perm_one (k2 := 58) rfl rfl rfl rfl
  | 59, _ => perm_one (k2 := 59) rfl rfl rfl rfl
  | 60, _ => perm_one (k2 := 60) rfl rfl rfl rfl
  | 61, _ => perm_one (k2 := 61) rfl rfl rfl rfl
  | 62, _ => perm_one (k2 := 62) rfl rfl rfl rfl
  | 63, _ => perm_one (k2 := 63) rfl rfl rfl rfl
  | 64, _ => perm_one (k2 := 64) rfl rfl rfl rfl
  | 65, _ => perm_one (k2 := 65) rfl rfl rfl rfl
  | 66, _ => perm_one (k2 := 66) rfl rfl rfl rfl
  | 67, _ => perm_one (k2 := 67) rfl rfl rfl rfl
  | 68, _ => perm_one (k2 := 68) rfl rfl rfl rfl
  | 69, _ => perm_one (k2 := 69) rfl rfl rfl rfl
  | 70, _ => perm_one (k2 := 70) rfl rfl rfl rfl
  | 71, _ => perm_one (k2 := 71) rfl rfl rfl rfl
  | 72, _ => perm_one (k2 := 72) rfl rfl rfl rfl
  | 73, _ => perm_one (k2 := 73) rfl rfl rfl rfl
  | 74, _ => perm_one (k2 := 74) rfl rfl rfl rfl
  | 75, _ => perm_one (k2 := 75) rfl rfl rfl rfl
  | 76, _ => perm_one (k2 := 76) rfl rfl rfl (congrArg (fun f => (Sum.inl ((tys.getD 3 (0, .int)).1, 2, .inr (.inr (.inr (.inr f)))) : va_E)) (imgs_pi ρ))
  | 77, _ => perm_one (k2 := 77) rfl rfl rfl rfl
  | 78, _ => perm_one (k2 := 78) rfl rfl rfl rfl
  | 79, _ => perm_one (k2 := 79) rfl rfl rfl rfl
  | 80, _ => perm_one (k2 := 80) rfl rfl rfl rfl
  | 81, _ => perm_one (k2 := 81) rfl rfl rfl rfl
  | 82, _ => perm_one (k2 := 82) rfl rfl rfl rfl
  | 83, _ => perm_one (k2 := 83) rfl rfl rfl rfl
  | 84, _ => perm_one (k2 := 84) rfl rfl rfl rfl
  | 85, _ => perm_one (k2 := 85) rfl rfl rfl rfl
  | 86, _ => perm_one (k2 := 86) rfl rfl rfl rfl
  | 87, _ => perm_one (k2 := 87) rfl rfl rfl rfl
  | 88, _ => perm_one (k2 := 88) rfl rfl rfl rfl
  | 89, _ => perm_one (k2 := 89) rfl rfl rfl rfl
  | 90, _ => perm_one (k2 := 90) rfl rfl rfl rfl
  | 91, _ => perm_one (k2 := 91) rfl rfl rfl rfl
  | 92, _ => perm_one (k2 := 92) rfl rfl rfl rfl
  | 93, _ => perm_one (k2 := 93) rfl rfl rfl rfl
  | 94, _ => perm_one (k2 := 94) rfl rfl rfl rfl
  | k + 95, h => absurd h (by omega)
theorem cW_len (ρ : Nat → Nat) (tys : List (ClassId × FieldType)) (w : AW) : (cW ρ tys w).length = w.length := by simp [cW]
theorem perm_P {D : va_G} {ρ : Nat → Nat} {tys : List (ClassId × FieldType)} {G : RG} {tr : Int64} {H : Heap} (h : va_P D vwCl (cW ρ tys (wX 17 3 G tr)) H) : va_P D vwCl (cW (fun x => ρ (piX x)) tys (wC (swp G) tr)) H :=
  h.by piX (fun k q hk => by
    have hl : k < 95 := by
      have := (List.getElem?_eq_some_iff.mp hk).1
      rw [cW_len] at this
      exact this
    rw [← perm_at ρ tys G tr k hl]
    exact hk)
theorem rho_pi {ρ : Nat → Nat} {lo Z bl bh : Nat} (h : RHO ρ lo 95 Z bl bh) : RHO (fun x => ρ (piX x)) lo 95 Z bl bh := by
  obtain ⟨h1, h2, h3, h4, h5⟩ := h
  refine ⟨fun k hk => h1 _ (piX_lt hk), fun i j hi hj e => ?_, fun k hk hk2 => ?_, ?_, ?_⟩
  · have := h2 _ _ (piX_lt hi) (piX_lt hj) e
    rw [← piX_pi i, this, piX_pi]
  · show ρ (piX k) = _
    rw [piX_ge (by omega)]
    exact h3 k hk hk2
  · show ρ (piX 1000000) = _
    rw [piX_ge (by omega)]
    exact h4
  · show ρ (piX 1000001) = _
    rw [piX_ge (by omega)]
    exact h5
/-! what a world says of its own cells alone -/
def refsOK (n : Nat) (e : AE) : Prop := match e with
  | .inr (_, fs) => ∀ r : Nat, Value.ref r ∈ fs → r < n
  | .inl (_, _, .inr (.inr (.inr (.inr f)))) => ∀ (j r : Nat), f j = some r → r < n
  | _ => True
def refB (n : Nat) (v : Value) : Bool := match v with | .ref r => Nat.blt r n | _ => true
theorem refs_of {n : Nat} {fs : List Value} (h : fs.all (refB n) = true) : ∀ r : Nat, Value.ref r ∈ fs → r < n := fun r hr => Nat.blt_eq.mp (List.all_eq_true.mp h _ hr)
theorem cE_congr {ρ ρ' : Nat → Nat} {n : Nat} (h : ∀ k, k < n → ρ k = ρ' k) (tys : List (ClassId × FieldType)) {e : AE} (hr : refsOK n e) : cE ρ tys e = cE ρ' tys e := by
  match e, hr with
  | .inr (ci, fs), hr =>
    show Sum.inr (ci, fs.map (cV ρ)) = Sum.inr (ci, fs.map (cV ρ'))
    congr 2
    refine List.map_congr_left (fun v hv => ?_)
    cases v with
    | ref r => show Value.ref (ρ r) = Value.ref (ρ' r); rw [h r (hr r hv)]
    | _ => rfl
  | .inl (t, n0, .inl f), _ => rfl
  | .inl (t, n0, .inr (.inl f)), _ => rfl
  | .inl (t, n0, .inr (.inr (.inl f))), _ => rfl
  | .inl (t, n0, .inr (.inr (.inr (.inl f)))), _ => rfl
  | .inl (t, n0, .inr (.inr (.inr (.inr f)))), hr =>
    have e : (fun j => (f j).map ρ) = fun j => (f j).map ρ' := by
      funext j
      cases hf : f j with
      | none => rfl
      | some r => show some (ρ r) = some (ρ' r); rw [h r (hr j r hf)]
    exact congrArg (fun z => (Sum.inl ((tys.getD t (0, .int)).1, n0, .inr (.inr (.inr (.inr z)))) : va_E)) e
theorem cW_congr {ρ ρ' : Nat → Nat} {w : AW} (h : ∀ k, k < w.length → ρ k = ρ' k) (tys : List (ClassId × FieldType)) (hr : ∀ e, e ∈ w → refsOK w.length e) : cW ρ tys w = cW ρ' tys w := by
  apply List.ext_getElem?
  intro k
  cases hk : w[k]? with
  | none =>
    have h1 : w.length ≤ k := List.getElem?_eq_none_iff.mp hk
    rw [List.getElem?_eq_none (by rw [cW_len]; exact h1), List.getElem?_eq_none (by rw [cW_len]; exact h1)]
  | some e =>
    rw [cW_at hk, cW_at hk, h k (List.getElem?_eq_some_iff.mp hk).1, cE_congr h tys (hr e (List.mem_of_getElem? hk))]
set_option maxRecDepth 20000 in
theorem refs_C (g : RG) (tr : Int64) : ∀ e, e ∈ wC g tr → refsOK 95 e := by
  unfold wC wX
  refine List.forall_mem_cons.mpr ⟨refs_of rfl, ?_⟩
  refine List.forall_mem_cons.mpr ⟨refs_of rfl, ?_⟩
  refine List.forall_mem_cons.mpr ⟨trivial, ?_⟩
  refine List.forall_mem_cons.mpr ⟨refs_of rfl, ?_⟩
  refine List.forall_mem_cons.mpr ⟨trivial, ?_⟩
  refine List.forall_mem_cons.mpr ⟨trivial, ?_⟩
  refine List.forall_mem_cons.mpr ⟨trivial, ?_⟩
  refine List.forall_mem_cons.mpr ⟨trivial, ?_⟩
  refine List.forall_mem_cons.mpr ⟨trivial, ?_⟩
  refine List.forall_mem_cons.mpr ⟨trivial, ?_⟩
  refine List.forall_mem_cons.mpr ⟨trivial, ?_⟩
  refine List.forall_mem_cons.mpr ⟨trivial, ?_⟩
  refine List.forall_mem_cons.mpr ⟨trivial, ?_⟩
  refine List.forall_mem_cons.mpr ⟨trivial, ?_⟩
  refine List.forall_mem_cons.mpr ⟨trivial, ?_⟩
  refine List.forall_mem_cons.mpr ⟨trivial, ?_⟩
  refine List.forall_mem_cons.mpr ⟨refs_of rfl, ?_⟩
  refine List.forall_mem_cons.mpr ⟨refs_of rfl, ?_⟩
  refine List.forall_mem_cons.mpr ⟨trivial, ?_⟩
  refine List.forall_mem_cons.mpr ⟨trivial, ?_⟩
  refine List.forall_mem_cons.mpr ⟨trivial, ?_⟩
  refine List.forall_mem_cons.mpr ⟨trivial, ?_⟩
  refine List.forall_mem_cons.mpr ⟨trivial, ?_⟩
  refine List.forall_mem_cons.mpr ⟨trivial, ?_⟩
  refine List.forall_mem_cons.mpr ⟨trivial, ?_⟩
  refine List.forall_mem_cons.mpr ⟨trivial, ?_⟩
  refine List.forall_mem_cons.mpr ⟨trivial, ?_⟩
  refine List.forall_mem_cons.mpr ⟨trivial, ?_⟩
  refine List.forall_mem_cons.mpr ⟨trivial, ?_⟩
  refine List.forall_mem_cons.mpr ⟨trivial, ?_⟩
  refine List.forall_mem_cons.mpr ⟨refs_of rfl, ?_⟩
  refine List.forall_mem_cons.mpr ⟨trivial, ?_⟩
  refine List.forall_mem_cons.mpr ⟨trivial, ?_⟩
  refine List.forall_mem_cons.mpr ⟨trivial, ?_⟩
  refine List.forall_mem_cons.mpr ⟨refs_of rfl, ?_⟩
  refine List.forall_mem_cons.mpr ⟨(fun (j r : Nat) hj => show r < 95 from by unfold rowsC at hj; split at hj <;> simp at hj; omega), ?_⟩
  refine List.forall_mem_cons.mpr ⟨refs_of rfl, ?_⟩
  refine List.forall_mem_cons.mpr ⟨trivial, ?_⟩
  refine List.forall_mem_cons.mpr ⟨trivial, ?_⟩
  refine List.forall_mem_cons.mpr ⟨trivial, ?_⟩
  refine List.forall_mem_cons.mpr ⟨refs_of rfl, ?_⟩
  refine List.forall_mem_cons.mpr ⟨trivial, ?_⟩
  refine List.forall_mem_cons.mpr ⟨trivial, ?_⟩
  refine List.forall_mem_cons.mpr ⟨trivial, ?_⟩
  refine List.forall_mem_cons.mpr ⟨refs_of rfl, ?_⟩
  refine List.forall_mem_cons.mpr ⟨trivial, ?_⟩
  refine List.forall_mem_cons.mpr ⟨trivial, ?_⟩
  refine List.forall_mem_cons.mpr ⟨trivial, ?_⟩
  refine List.forall_mem_cons.mpr ⟨refs_of rfl, ?_⟩
  refine List.forall_mem_cons.mpr ⟨trivial, ?_⟩
  refine List.forall_mem_cons.mpr ⟨trivial, ?_⟩
  refine List.forall_mem_cons.mpr ⟨trivial, ?_⟩
  refine List.forall_mem_cons.mpr ⟨refs_of rfl, ?_⟩
  refine List.forall_mem_cons.mpr ⟨trivial, ?_⟩
  refine List.forall_mem_cons.mpr ⟨trivial, ?_⟩
  refine List.forall_mem_cons.mpr ⟨trivial, ?_⟩
  refine List.forall_mem_cons.mpr ⟨refs_of rfl, ?_⟩
  refine List.forall_mem_cons.mpr ⟨trivial, ?_⟩
  refine List.forall_mem_cons.mpr ⟨trivial, ?_⟩
  refine List.forall_mem_cons.mpr ⟨trivial, ?_⟩
  refine List.forall_mem_cons.mpr ⟨refs_of rfl, ?_⟩
  refine List.forall_mem_cons.mpr ⟨trivial, ?_⟩
  refine List.forall_mem_cons.mpr ⟨trivial, ?_⟩
  refine List.forall_mem_cons.mpr ⟨trivial, ?_⟩
  refine List.forall_mem_cons.mpr ⟨refs_of rfl, ?_⟩
  refine List.forall_mem_cons.mpr ⟨trivial, ?_⟩
  refine List.forall_mem_cons.mpr ⟨trivial, ?_⟩
  refine List.forall_mem_cons.mpr ⟨trivial, ?_⟩
  refine List.forall_mem_cons.mpr ⟨refs_of rfl, ?_⟩
  refine List.forall_mem_cons.mpr ⟨trivial, ?_⟩
  refine List.forall_mem_cons.mpr ⟨trivial, ?_⟩
  refine List.forall_mem_cons.mpr ⟨trivial, ?_⟩
  refine List.forall_mem_cons.mpr ⟨refs_of rfl, ?_⟩
  refine List.forall_mem_cons.mpr ⟨trivial, ?_⟩
  refine List.forall_mem_cons.mpr ⟨trivial, ?_⟩
  refine List.forall_mem_cons.mpr ⟨trivial, ?_⟩
  refine List.forall_mem_cons.mpr ⟨(fun (j r : Nat) hj => show r < 95 from by unfold imgsC at hj; split at hj <;> simp at hj; omega), ?_⟩
  refine List.forall_mem_cons.mpr ⟨trivial, ?_⟩
  refine List.forall_mem_cons.mpr ⟨refs_of rfl, ?_⟩
  refine List.forall_mem_cons.mpr ⟨trivial, ?_⟩
  refine List.forall_mem_cons.mpr ⟨trivial, ?_⟩
  refine List.forall_mem_cons.mpr ⟨refs_of rfl, ?_⟩
  refine List.forall_mem_cons.mpr ⟨trivial, ?_⟩
  refine List.forall_mem_cons.mpr ⟨refs_of rfl, ?_⟩
  refine List.forall_mem_cons.mpr ⟨trivial, ?_⟩
  refine List.forall_mem_cons.mpr ⟨trivial, ?_⟩
  refine List.forall_mem_cons.mpr ⟨trivial, ?_⟩
  refine List.forall_mem_cons.mpr ⟨refs_of rfl, ?_⟩
  refine List.forall_mem_cons.mpr ⟨trivial, ?_⟩
  refine List.forall_mem_cons.mpr ⟨trivial, ?_⟩
  refine List.forall_mem_cons.mpr ⟨trivial, ?_⟩
  refine List.forall_mem_cons.mpr ⟨refs_of rfl, ?_⟩
  refine List.forall_mem_cons.mpr ⟨trivial, ?_⟩
  refine List.forall_mem_cons.mpr ⟨trivial, ?_⟩
  refine List.forall_mem_cons.mpr ⟨trivial, ?_⟩
  exact fun _ h => absurd h List.not_mem_nil
