/-! the library of the walks -/
section EV2
variable {d M i : Nat} {ls st : List Value} {w w' : AW} {r : Option Value} {c : List Row} {row : Row}
variable {pc a b : Nat} {z : Int32} {zl : Int64} {sw : List (Int32 × Nat)} {ps : List Nat} {i' : Nat} {x y j : Int32} {s0 : List Value} {k n m : Nat} {f : Nat → Int32}
theorem Ev.brT {i1 i2 : Nat} {ls' st' : List Value} {p : Prop} [hp : Decidable p] (hc : mP M = c) (hr : c[i]? = some row) (h : nx1 row i ls st w = some (if p then i1 else i2, ls', st')) (q : p) (k1 : Ev d M i1 ls' st' w r w') : Ev d M i ls st w r w' :=
  Ev.br hc hr h (fun _ => k1) (fun h => absurd q h)
theorem Ev.brF {i1 i2 : Nat} {ls' st' : List Value} {p : Prop} [hp : Decidable p] (hc : mP M = c) (hr : c[i]? = some row) (h : nx1 row i ls st w = some (if p then i1 else i2, ls', st')) (q : ¬ p) (k1 : Ev d M i2 ls' st' w r w') : Ev d M i ls st w r w' :=
  Ev.br hc hr h (fun h => absurd h q) (fun _ => k1)
/-- a switch -/
theorem Ev.swi {ls' st' : List Value} {t : Nat} (hc : mP M = c) (hr : c[i]? = some row) (h : nx1 row i ls st w = some (swl x a sw, ls', st')) (ht : swl x a sw = t) (k1 : Ev d M t ls' st' w r w') : Ev d M i ls st w r w' := by
  subst ht
  exact Ev.s1 hc hr h k1
theorem vin_nI {p n : Nat} (h : p < n) (hn : n < 2000) : vin (nI p) n = true := vin_iff.mpr (vp_in_nI h (by omega))
theorem nI_cl {p n : Nat} (h : p < n) (hn : n < 2000) : (nI p).toNatClampNeg = p := nI_clamp (by omega)
theorem Ev.ialdE (hc : mP M = c) (hr : c[i]? = some (pc, .iaload, a, b, z, zl, sw, ps)) (hi : i + 1 = i') (hw : w[k]? = some (.inl (0, n, .inl f))) (hk : Nat.blt k 1000000 = true) (hj : j = nI m) (hm : m < n) (q : Ev d M i' ls (.int (f m) :: s0) w r w') (hn : n < 2000 := by decide) : Ev d M i ls (.int j :: .ref k :: s0) w r w' := by
  subst hj
  refine Ev.iald hc hr hi hw hk (vin_nI hm hn) ?_
  rw [nI_cl hm hn]
  exact q
theorem Ev.baldE (hc : mP M = c) (hr : c[i]? = some (pc, .baload, a, b, z, zl, sw, ps)) (hi : i + 1 = i') (hw : w[k]? = some (.inl (1, n, .inl f))) (hj : j = nI m) (hm : m < n) (q : Ev d M i' ls (.int (f m) :: s0) w r w') (hn : n < 2000 := by decide) : Ev d M i ls (.int j :: .ref k :: s0) w r w' := by
  subst hj
  refine Ev.bald hc hr hi hw (vin_nI hm hn) ?_
  rw [nI_cl hm hn]
  exact q
theorem Ev.caldE (hc : mP M = c) (hr : c[i]? = some (pc, .caload, a, b, z, zl, sw, ps)) (hi : i + 1 = i') (hw : w[k]? = some (.inl (2, n, .inl f))) (hj : j = nI m) (hm : m < n) (q : Ev d M i' ls (.int (f m) :: s0) w r w') (hn : n < 2000 := by decide) : Ev d M i ls (.int j :: .ref k :: s0) w r w' := by
  subst hj
  refine Ev.cald hc hr hi hw (vin_nI hm hn) ?_
  rw [nI_cl hm hn]
  exact q
theorem Ev.iastE {w1 : AW} (hc : mP M = c) (hr : c[i]? = some (pc, .iastore, a, b, z, zl, sw, ps)) (hi : i + 1 = i') (hw : w[k]? = some (.inl (0, n, .inl f))) (hj : j = nI m) (hm : m < n) (h1 : w.set k (.inl (0, n, .inl (upd f m x))) = w1) (q : Ev d M i' ls s0 w1 r w') (hn : n < 2000 := by decide) : Ev d M i ls (.int x :: .int j :: .ref k :: s0) w r w' := by
  subst hj
  refine Ev.iast hc hr hi hw (vin_nI hm hn) ?_ q
  rw [nI_cl hm hn]
  exact h1
theorem Ev.bastE {w1 : AW} (hc : mP M = c) (hr : c[i]? = some (pc, .bastore, a, b, z, zl, sw, ps)) (hi : i + 1 = i') (hw : w[k]? = some (.inl (1, n, .inl f))) (hj : j = nI m) (hm : m < n) (hx : x = 0 ∨ x = 1) (h1 : w.set k (.inl (1, n, .inl (upd f m x))) = w1) (q : Ev d M i' ls s0 w1 r w') (hn : n < 2000 := by decide) : Ev d M i ls (.int x :: .int j :: .ref k :: s0) w r w' := by
  subst hj
  refine Ev.bast hc hr hi hw (vin_nI hm hn) hx ?_ q
  rw [nI_cl hm hn]
  exact h1
theorem Ev.castE {w1 : AW} (hc : mP M = c) (hr : c[i]? = some (pc, .castore, a, b, z, zl, sw, ps)) (hi : i + 1 = i') (hw : w[k]? = some (.inl (2, n, .inl f))) (hj : j = nI m) (hm : m < n) (hx : vp_nar .char x = x) (h1 : w.set k (.inl (2, n, .inl (upd f m x))) = w1) (q : Ev d M i' ls s0 w1 r w') (hn : n < 2000 := by decide) : Ev d M i ls (.int x :: .int j :: .ref k :: s0) w r w' := by
  subst hj
  refine Ev.cast hc hr hi hw (vin_nI hm hn) hx ?_ q
  rw [nI_cl hm hn]
  exact h1
end EV2
/-- a truth as an int -/
def b2 (p : Prop) [Decidable p] : Int32 := if p then 1 else 0
theorem b2_t {p : Prop} [Decidable p] (h : p) : b2 p = 1 := if_pos h
theorem b2_f {p : Prop} [Decidable p] (h : ¬ p) : b2 p = 0 := if_neg h
theorem b2_01 {p : Prop} [Decidable p] : b2 p = 0 ∨ b2 p = 1 := by
  by_cases h : p
  · exact Or.inr (b2_t h)
  · exact Or.inl (b2_f h)
theorem b2_nar {p : Prop} [Decidable p] : rNar (some .boolean) (b2 p) = true := by
  unfold rNar
  exact decide_eq_true b2_01
theorem b2_0 {p : Prop} [Decidable p] : b2 p = 0 ↔ ¬ p := by
  by_cases h : p
  · rw [b2_t h]; simp [h]
  · rw [b2_f h]; simp [h]
theorem b2_1 {p : Prop} [Decidable p] : b2 p = 1 ↔ p := by
  by_cases h : p
  · rw [b2_t h]; simp [h]
  · rw [b2_f h]; simp [h]
theorem b2_iff {p q : Prop} [Decidable p] [Decidable q] (h : p ↔ q) : b2 p = b2 q := by
  by_cases hp : p
  · rw [b2_t hp, b2_t (h.mp hp)]
  · rw [b2_f hp, b2_f (fun e => hp (h.mpr e))]
/-- k turns of a loop from p on -/
def fo {α : Type} (f : Nat → α → α) : Nat → Nat → α → α
  | 0, _, a => a
  | k + 1, p, a => fo f k (p + 1) (f p a)
theorem fo_s {α : Type} {f : Nat → α → α} {k p : Nat} {a : α} : fo f (k + 1) p a = fo f k (p + 1) (f p a) := rfl
theorem fo_congr {α : Type} {f g : Nat → α → α} : ∀ (k p : Nat) (a : α), (∀ j, p ≤ j → j < p + k → ∀ x, f j x = g j x) → fo f k p a = fo g k p a
  | 0, _, _, _ => rfl
  | k + 1, p, a, h => by
    show fo f k (p + 1) (f p a) = fo g k (p + 1) (g p a)
    rw [h p (Nat.le_refl p) (by omega)]
    exact fo_congr k (p + 1) _ (fun j h1 h2 x => h j (by omega) (by omega) x)
theorem fo_last {α : Type} (f : Nat → α → α) : ∀ (k p : Nat) (a : α), fo f (k + 1) p a = f (p + k) (fo f k p a)
  | 0, _, _ => rfl
  | k + 1, p, a => by
    show fo f (k + 1) (p + 1) (f p a) = _
    rw [fo_last f k (p + 1) (f p a), show p + 1 + k = p + (k + 1) by omega]
    rfl
def bitI (p : Nat) : Int32 := 1 <<< (nI p &&& 31)
/-- conditions of loops -/
theorem ge_t {x : Int32} {n p : Nat} (h : x = nI n) (h1 : n ≤ p) (h2 : p < 2000) : x ≤ nI p := by subst h; exact nI_le h1 (by omega)
theorem ge_f {x : Int32} {n p : Nat} (h : x = nI n) (h1 : p < n) (h2 : n < 2000) : ¬ x ≤ nI p := by subst h; exact nI_ge h1 (by omega)
theorem ixm (a b t : Nat) : nI a * nI t + nI b = nI (a * t + b) := by rw [pk_mul, nI_add]
/-- an index that stands in its bounds -/
theorem ix_of {x y : Int32} {n : Nat} (hy : y = nI n) (hn : n < 2000) (h0 : ¬ x < 0) (h1 : ¬ y ≤ x) : ∃ j, j < n ∧ x = nI j := by
  subst hy
  rcases pk_ix x (n := n) (by omega) with h | h | h
  · exact absurd h h0
  · exact absurd h h1
  · exact h
theorem kl_X0_init : (vwCl[0]?).map (fun q => q.1) = some (mY 0).cls := rfl
theorem kl_X0_fewestMinutes : (vwCl[0]?).map (fun q => q.1) = some (mY 1).cls := rfl
theorem kl_X0_inFirstOrder : (vwCl[0]?).map (fun q => q.1) = some (mY 2).cls := rfl
theorem kl_X0_findLatest : (vwCl[0]?).map (fun q => q.1) = some (mY 3).cls := rfl
theorem kl_X0_lowestInTime : (vwCl[0]?).map (fun q => q.1) = some (mY 4).cls := rfl
theorem kl_X0_endOf : (vwCl[0]?).map (fun q => q.1) = some (mY 5).cls := rfl
theorem kl_X0_latestStartOf : (vwCl[0]?).map (fun q => q.1) = some (mY 6).cls := rfl
theorem kl_X0_goesThrough : (vwCl[0]?).map (fun q => q.1) = some (mY 7).cls := rfl
theorem kl_X1_init : (vwCl[1]?).map (fun q => q.1) = some (mY 8).cls := rfl
theorem kl_X1_size : (vwCl[1]?).map (fun q => q.1) = some (mY 9).cls := rfl
theorem kl_X1_loseAll : (vwCl[1]?).map (fun q => q.1) = some (mY 10).cls := rfl
theorem kl_X1_remember : (vwCl[1]?).map (fun q => q.1) = some (mY 11).cls := rfl
theorem kl_X1_restoreLatest : (vwCl[1]?).map (fun q => q.1) = some (mY 12).cls := rfl
theorem kl_X2_init : (vwCl[2]?).map (fun q => q.1) = some (mY 13).cls := rfl
theorem kl_X2_hasThing : (vwCl[2]?).map (fun q => q.1) = some (mY 14).cls := rfl
theorem kl_X2_hasPerson : (vwCl[2]?).map (fun q => q.1) = some (mY 15).cls := rfl
theorem kl_X2_fitsPerson : (vwCl[2]?).map (fun q => q.1) = some (mY 16).cls := rfl
theorem kl_X2_fitsStranger : (vwCl[2]?).map (fun q => q.1) = some (mY 17).cls := rfl
theorem kl_X2_fitsAtScale : (vwCl[2]?).map (fun q => q.1) = some (mY 18).cls := rfl
theorem kl_X2_peopleItFits : (vwCl[2]?).map (fun q => q.1) = some (mY 19).cls := rfl
theorem kl_X2_useless : (vwCl[2]?).map (fun q => q.1) = some (mY 20).cls := rfl
theorem kl_X2_bareOf : (vwCl[2]?).map (fun q => q.1) = some (mY 21).cls := rfl
theorem kl_X2_thingsOf : (vwCl[2]?).map (fun q => q.1) = some (mY 22).cls := rfl
theorem kl_X2_ownedThings : (vwCl[2]?).map (fun q => q.1) = some (mY 23).cls := rfl
theorem kl_X2_canLay : (vwCl[2]?).map (fun q => q.1) = some (mY 24).cls := rfl
theorem kl_X2_hasOneOf : (vwCl[2]?).map (fun q => q.1) = some (mY 25).cls := rfl
theorem kl_X2_freeWhatDoesNotFit : (vwCl[2]?).map (fun q => q.1) = some (mY 26).cls := rfl
theorem kl_X2_twosIfAllThingsWere : (vwCl[2]?).map (fun q => q.1) = some (mY 27).cls := rfl
theorem kl_X2_thingsFitting : (vwCl[2]?).map (fun q => q.1) = some (mY 28).cls := rfl
theorem kl_X2_smallerThan : (vwCl[2]?).map (fun q => q.1) = some (mY 29).cls := rfl
theorem kl_X2_chairs : (vwCl[2]?).map (fun q => q.1) = some (mY 30).cls := rfl
theorem kl_X2_commonScale : (vwCl[2]?).map (fun q => q.1) = some (mY 31).cls := rfl
theorem kl_X2_heightOf : (vwCl[2]?).map (fun q => q.1) = some (mY 32).cls := rfl
theorem kl_X2_heightOfAll : (vwCl[2]?).map (fun q => q.1) = some (mY 33).cls := rfl
theorem kl_X3_init : (vwCl[3]?).map (fun q => q.1) = some (mY 34).cls := rfl
theorem kl_X3_mostPeople : (vwCl[3]?).map (fun q => q.1) = some (mY 35).cls := rfl
theorem kl_X3_firstThingOf : (vwCl[3]?).map (fun q => q.1) = some (mY 36).cls := rfl
theorem kl_X3_canHouse : (vwCl[3]?).map (fun q => q.1) = some (mY 37).cls := rfl
theorem kl_X3_layFrom : (vwCl[3]?).map (fun q => q.1) = some (mY 38).cls := rfl
theorem kl_X4_init : (vwCl[4]?).map (fun q => q.1) = some (mY 39).cls := rfl
theorem kl_X4_beginAsTold : (vwCl[4]?).map (fun q => q.1) = some (mY 40).cls := rfl
theorem kl_X4_copyFrom : (vwCl[4]?).map (fun q => q.1) = some (mY 41).cls := rfl
theorem kl_X5_init : (vwCl[5]?).map (fun q => q.1) = some (mY 42).cls := rfl
theorem kl_X5_beginAsAtFirst : (vwCl[5]?).map (fun q => q.1) = some (mY 43).cls := rfl
theorem kl_X6_init : (vwCl[6]?).map (fun q => q.1) = some (mY 44).cls := rfl
theorem kl_X6_size : (vwCl[6]?).map (fun q => q.1) = some (mY 45).cls := rfl
theorem kl_X6_isFull : (vwCl[6]?).map (fun q => q.1) = some (mY 46).cls := rfl
theorem kl_X6_add : (vwCl[6]?).map (fun q => q.1) = some (mY 47).cls := rfl
theorem kl_X6_loseAll : (vwCl[6]?).map (fun q => q.1) = some (mY 48).cls := rfl
theorem kl_X6_readAll : (vwCl[6]?).map (fun q => q.1) = some (mY 49).cls := rfl
theorem kl_X6_itemsRead : (vwCl[6]?).map (fun q => q.1) = some (mY 50).cls := rfl
theorem kl_X6_giveTaleFor : (vwCl[6]?).map (fun q => q.1) = some (mY 51).cls := rfl
theorem kl_X6_readLaw : (vwCl[6]?).map (fun q => q.1) = some (mY 52).cls := rfl
theorem kl_X6_readThing : (vwCl[6]?).map (fun q => q.1) = some (mY 53).cls := rfl
theorem kl_X6_readPerson : (vwCl[6]?).map (fun q => q.1) = some (mY 54).cls := rfl
theorem kl_X6_readDoor : (vwCl[6]?).map (fun q => q.1) = some (mY 55).cls := rfl
theorem kl_X6_takeNumber : (vwCl[6]?).map (fun q => q.1) = some (mY 56).cls := rfl
theorem kl_X6_takeEndOfItem : (vwCl[6]?).map (fun q => q.1) = some (mY 57).cls := rfl
theorem kl_X6_refuseToken : (vwCl[6]?).map (fun q => q.1) = some (mY 58).cls := rfl
theorem kl_X6_takeToken : (vwCl[6]?).map (fun q => q.1) = some (mY 59).cls := rfl
theorem kl_X6_takeDigits : (vwCl[6]?).map (fun q => q.1) = some (mY 60).cls := rfl
theorem kl_X6_isDigit : (vwCl[6]?).map (fun q => q.1) = some (mY 61).cls := rfl
theorem kl_X6_isOwnToken : (vwCl[6]?).map (fun q => q.1) = some (mY 62).cls := rfl
theorem kl_X7_init : (vwCl[7]?).map (fun q => q.1) = some (mY 63).cls := rfl
theorem kl_X7_size : (vwCl[7]?).map (fun q => q.1) = some (mY 64).cls := rfl
theorem kl_X7_isFull : (vwCl[7]?).map (fun q => q.1) = some (mY 65).cls := rfl
theorem kl_X7_loseAll : (vwCl[7]?).map (fun q => q.1) = some (mY 66).cls := rfl
theorem kl_X7_add : (vwCl[7]?).map (fun q => q.1) = some (mY 67).cls := rfl
theorem kl_X7_allow : (vwCl[7]?).map (fun q => q.1) = some (mY 68).cls := rfl
theorem kl_X7_scalesLeft : (vwCl[7]?).map (fun q => q.1) = some (mY 69).cls := rfl
theorem kl_X7_leastScale : (vwCl[7]?).map (fun q => q.1) = some (mY 70).cls := rfl
theorem kl_X7_leftAtWorst : (vwCl[7]?).map (fun q => q.1) = some (mY 71).cls := rfl
theorem kl_X7_bestToTry : (vwCl[7]?).map (fun q => q.1) = some (mY 72).cls := rfl
theorem kl_X8_init : (vwCl[8]?).map (fun q => q.1) = some (mY 73).cls := rfl
theorem kl_X8_type : (vwCl[8]?).map (fun q => q.1) = some (mY 74).cls := rfl
theorem kl_X8_clear : (vwCl[8]?).map (fun q => q.1) = some (mY 75).cls := rfl
theorem kl_X8_house : (vwCl[8]?).map (fun q => q.1) = some (mY 76).cls := rfl
theorem kl_X8_use : (vwCl[8]?).map (fun q => q.1) = some (mY 77).cls := rfl
theorem kl_X8_thing : (vwCl[8]?).map (fun q => q.1) = some (mY 78).cls := rfl
theorem kl_X8_person : (vwCl[8]?).map (fun q => q.1) = some (mY 79).cls := rfl
theorem kl_X8_door : (vwCl[8]?).map (fun q => q.1) = some (mY 80).cls := rfl
theorem kl_X8_now : (vwCl[8]?).map (fun q => q.1) = some (mY 81).cls := rfl
theorem kl_X8_lays : (vwCl[8]?).map (fun q => q.1) = some (mY 82).cls := rfl
theorem kl_X8_takes : (vwCl[8]?).map (fun q => q.1) = some (mY 83).cls := rfl
theorem kl_X8_rescales : (vwCl[8]?).map (fun q => q.1) = some (mY 84).cls := rfl
theorem kl_X8_undo : (vwCl[8]?).map (fun q => q.1) = some (mY 85).cls := rfl
theorem kl_X8_housed : (vwCl[8]?).map (fun q => q.1) = some (mY 86).cls := rfl
theorem kl_X8_laying : (vwCl[8]?).map (fun q => q.1) = some (mY 87).cls := rfl
theorem kl_X8_tries : (vwCl[8]?).map (fun q => q.1) = some (mY 88).cls := rfl
theorem kl_X8_forget : (vwCl[8]?).map (fun q => q.1) = some (mY 89).cls := rfl
theorem kl_X8_mayBe : (vwCl[8]?).map (fun q => q.1) = some (mY 90).cls := rfl
theorem kl_X8_next : (vwCl[8]?).map (fun q => q.1) = some (mY 91).cls := rfl
theorem kl_X8_bestScale : (vwCl[8]?).map (fun q => q.1) = some (mY 92).cls := rfl
theorem kl_X8_oneMore : (vwCl[8]?).map (fun q => q.1) = some (mY 93).cls := rfl
theorem kl_X8_scaleOfMost : (vwCl[8]?).map (fun q => q.1) = some (mY 94).cls := rfl
theorem kl_X8_carried : (vwCl[8]?).map (fun q => q.1) = some (mY 95).cls := rfl
theorem kl_X8_mean : (vwCl[8]?).map (fun q => q.1) = some (mY 96).cls := rfl
theorem kl_X8_turnsOfAll : (vwCl[8]?).map (fun q => q.1) = some (mY 97).cls := rfl
theorem kl_X8_share : (vwCl[8]?).map (fun q => q.1) = some (mY 98).cls := rfl
theorem kl_X8_odds : (vwCl[8]?).map (fun q => q.1) = some (mY 99).cls := rfl
theorem kl_X8_rate : (vwCl[8]?).map (fun q => q.1) = some (mY 100).cls := rfl
theorem kl_X8_keep : (vwCl[8]?).map (fun q => q.1) = some (mY 101).cls := rfl
theorem kl_X8_back : (vwCl[8]?).map (fun q => q.1) = some (mY 102).cls := rfl
theorem kl_X8_count : (vwCl[8]?).map (fun q => q.1) = some (mY 103).cls := rfl
theorem kl_X8_trace : (vwCl[8]?).map (fun q => q.1) = some (mY 104).cls := rfl
theorem kl_X8_rateOfThing : (vwCl[8]?).map (fun q => q.1) = some (mY 105).cls := rfl
theorem kl_X8_rateOfTurned : (vwCl[8]?).map (fun q => q.1) = some (mY 106).cls := rfl
theorem kl_X8_rateOfGlued : (vwCl[8]?).map (fun q => q.1) = some (mY 107).cls := rfl
theorem kl_X8_rateOfCarved : (vwCl[8]?).map (fun q => q.1) = some (mY 108).cls := rfl
theorem kl_X8_rateOfSoup : (vwCl[8]?).map (fun q => q.1) = some (mY 109).cls := rfl
theorem kl_X8_rateOfReal : (vwCl[8]?).map (fun q => q.1) = some (mY 110).cls := rfl
theorem kl_X8_isFirstOrSecond : (vwCl[8]?).map (fun q => q.1) = some (mY 111).cls := rfl
theorem kl_X8_isUse : (vwCl[8]?).map (fun q => q.1) = some (mY 112).cls := rfl
theorem kl_X8_isSize : (vwCl[8]?).map (fun q => q.1) = some (mY 113).cls := rfl
theorem kl_X8_inLowestTerms : (vwCl[8]?).map (fun q => q.1) = some (mY 114).cls := rfl
theorem kl_X8_greatestDivisor : (vwCl[8]?).map (fun q => q.1) = some (mY 115).cls := rfl
theorem kl_X8_waysToChoose : (vwCl[8]?).map (fun q => q.1) = some (mY 116).cls := rfl
theorem kl_X8_power : (vwCl[8]?).map (fun q => q.1) = some (mY 117).cls := rfl
theorem kl_X9_init : (vwCl[9]?).map (fun q => q.1) = some (mY 118).cls := rfl
theorem kl_X9_firstLaws : (vwCl[9]?).map (fun q => q.1) = some (mY 119).cls := rfl
theorem kl_X9_in : (vwCl[9]?).map (fun q => q.1) = some (mY 120).cls := rfl
theorem kl_X9_ones : (vwCl[9]?).map (fun q => q.1) = some (mY 121).cls := rfl
theorem kl_X9_type : (vwCl[9]?).map (fun q => q.1) = some (mY 122).cls := rfl
theorem kl_X9_clear : (vwCl[9]?).map (fun q => q.1) = some (mY 123).cls := rfl
theorem kl_X9_letterAt : (vwCl[9]?).map (fun q => q.1) = some (mY 124).cls := rfl
theorem kl_X9_advances : (vwCl[9]?).map (fun q => q.1) = some (mY 125).cls := rfl
theorem kl_X9_isWell : (vwCl[9]?).map (fun q => q.1) = some (mY 126).cls := rfl
theorem kl_X9_takes : (vwCl[9]?).map (fun q => q.1) = some (mY 127).cls := rfl
theorem kl_X9_number : (vwCl[9]?).map (fun q => q.1) = some (mY 128).cls := rfl
theorem kl_X9_mayBegin : (vwCl[9]?).map (fun q => q.1) = some (mY 129).cls := rfl
theorem kl_X9_readsItem : (vwCl[9]?).map (fun q => q.1) = some (mY 130).cls := rfl
theorem kl_X9_house : (vwCl[9]?).map (fun q => q.1) = some (mY 131).cls := rfl
theorem kl_X9_settles : (vwCl[9]?).map (fun q => q.1) = some (mY 132).cls := rfl
theorem kl_X9_isThingThere : (vwCl[9]?).map (fun q => q.1) = some (mY 133).cls := rfl
theorem kl_X9_isPerson : (vwCl[9]?).map (fun q => q.1) = some (mY 134).cls := rfl
theorem kl_X9_useOf : (vwCl[9]?).map (fun q => q.1) = some (mY 135).cls := rfl
theorem kl_X9_fits : (vwCl[9]?).map (fun q => q.1) = some (mY 136).cls := rfl
theorem kl_X9_isFit : (vwCl[9]?).map (fun q => q.1) = some (mY 137).cls := rfl
theorem kl_X9_fitsOf : (vwCl[9]?).map (fun q => q.1) = some (mY 138).cls := rfl
theorem kl_X9_use : (vwCl[9]?).map (fun q => q.1) = some (mY 139).cls := rfl
theorem kl_X9_thing : (vwCl[9]?).map (fun q => q.1) = some (mY 140).cls := rfl
theorem kl_X9_thingsOf : (vwCl[9]?).map (fun q => q.1) = some (mY 141).cls := rfl
theorem kl_X9_taller : (vwCl[9]?).map (fun q => q.1) = some (mY 142).cls := rfl
theorem kl_X9_person : (vwCl[9]?).map (fun q => q.1) = some (mY 143).cls := rfl
theorem kl_X9_door : (vwCl[9]?).map (fun q => q.1) = some (mY 144).cls := rfl
theorem kl_X9_useless : (vwCl[9]?).map (fun q => q.1) = some (mY 145).cls := rfl
theorem kl_X9_bare : (vwCl[9]?).map (fun q => q.1) = some (mY 146).cls := rfl
theorem kl_X9_owned : (vwCl[9]?).map (fun q => q.1) = some (mY 147).cls := rfl
theorem kl_X9_now : (vwCl[9]?).map (fun q => q.1) = some (mY 148).cls := rfl
theorem kl_X9_notes : (vwCl[9]?).map (fun q => q.1) = some (mY 149).cls := rfl
theorem kl_X9_hasOne : (vwCl[9]?).map (fun q => q.1) = some (mY 150).cls := rfl
theorem kl_X9_lays : (vwCl[9]?).map (fun q => q.1) = some (mY 151).cls := rfl
theorem kl_X9_takes_ : (vwCl[9]?).map (fun q => q.1) = some (mY 152).cls := rfl
theorem kl_X9_rescales : (vwCl[9]?).map (fun q => q.1) = some (mY 153).cls := rfl
theorem kl_X9_undo : (vwCl[9]?).map (fun q => q.1) = some (mY 154).cls := rfl
theorem kl_X9_canHave : (vwCl[9]?).map (fun q => q.1) = some (mY 155).cls := rfl
theorem kl_X9_housedSet : (vwCl[9]?).map (fun q => q.1) = some (mY 156).cls := rfl
theorem kl_X9_housed : (vwCl[9]?).map (fun q => q.1) = some (mY 157).cls := rfl
theorem kl_X9_laying : (vwCl[9]?).map (fun q => q.1) = some (mY 158).cls := rfl
theorem kl_X9_tries : (vwCl[9]?).map (fun q => q.1) = some (mY 159).cls := rfl
theorem kl_X9_forget : (vwCl[9]?).map (fun q => q.1) = some (mY 160).cls := rfl
theorem kl_X9_mayBeAt : (vwCl[9]?).map (fun q => q.1) = some (mY 161).cls := rfl
theorem kl_X9_mayBe : (vwCl[9]?).map (fun q => q.1) = some (mY 162).cls := rfl
theorem kl_X9_worst : (vwCl[9]?).map (fun q => q.1) = some (mY 163).cls := rfl
theorem kl_X9_next : (vwCl[9]?).map (fun q => q.1) = some (mY 164).cls := rfl
theorem kl_X9_fitsAt : (vwCl[9]?).map (fun q => q.1) = some (mY 165).cls := rfl
theorem kl_X9_bestScale : (vwCl[9]?).map (fun q => q.1) = some (mY 166).cls := rfl
theorem kl_X9_fitsHim : (vwCl[9]?).map (fun q => q.1) = some (mY 167).cls := rfl
theorem kl_X9_oneMore : (vwCl[9]?).map (fun q => q.1) = some (mY 168).cls := rfl
theorem kl_X9_isIn : (vwCl[9]?).map (fun q => q.1) = some (mY 169).cls := rfl
theorem kl_X9_isOrder : (vwCl[9]?).map (fun q => q.1) = some (mY 170).cls := rfl
theorem kl_X9_carried : (vwCl[9]?).map (fun q => q.1) = some (mY 171).cls := rfl
theorem kl_X9_gcd : (vwCl[9]?).map (fun q => q.1) = some (mY 172).cls := rfl
theorem kl_X9_mean : (vwCl[9]?).map (fun q => q.1) = some (mY 173).cls := rfl
theorem kl_X9_turnsOfAll : (vwCl[9]?).map (fun q => q.1) = some (mY 174).cls := rfl
theorem kl_X9_share : (vwCl[9]?).map (fun q => q.1) = some (mY 175).cls := rfl
theorem kl_X9_power : (vwCl[9]?).map (fun q => q.1) = some (mY 176).cls := rfl
theorem kl_X9_choose : (vwCl[9]?).map (fun q => q.1) = some (mY 177).cls := rfl
theorem kl_X9_odds : (vwCl[9]?).map (fun q => q.1) = some (mY 178).cls := rfl
theorem kl_X9_rate : (vwCl[9]?).map (fun q => q.1) = some (mY 179).cls := rfl
theorem kl_X9_keep : (vwCl[9]?).map (fun q => q.1) = some (mY 180).cls := rfl
theorem kl_X9_back : (vwCl[9]?).map (fun q => q.1) = some (mY 181).cls := rfl
theorem kl_X9_count : (vwCl[9]?).map (fun q => q.1) = some (mY 182).cls := rfl
theorem kl_X9_trace : (vwCl[9]?).map (fun q => q.1) = some (mY 183).cls := rfl
