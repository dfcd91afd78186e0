/-! THE LAW: its start and its loop -/
theorem lw_eqt {args : Array Value} {s : State} {tm : Term} {z : Int32} (h : (Cond.eq tm (.int z)).before args s = true) : tm.eval args s none [] s = some (.int z) := by
  cases hv : tm.eval args s none [] s with
  | none => simp [Cond.before, Cond.holds, Cond.value, hv] at h
  | some w =>
    have hz : (Term.int z).eval args s none [] s = some (.int z) := rfl
    simp only [Cond.before, Cond.holds, Cond.value, hv, hz] at h
    cases w <;> simp_all
theorem stat_X {args : Array Value} {s : State} {tm : Term} {f : Nat → Int32} (harr : (Cond.arrayOf tm .int).before args s = true) (hlen : (Term.length tm).eval args s none [] s = some (.int 3)) (hel : ∀ j : Nat, j < 3 → (Term.elem tm (.int (Int32.ofNat j))).eval args s none [] s = some (.int (f j))) : ∃ b : Nat, tm.eval args s none [] s = some (.ref b) ∧ va_X b 3 f s s.heap ∧ b < s.heap.size := by
  obtain ⟨b, cell, ht, hat, hv⟩ := Term.length_spec hlen
  have hsz : cell.slots.size < 2 ^ 31 := by
    simp only [Term.eval, ht, hat, Option.bind_eq_bind, Option.bind_some] at hlen
    by_cases hlt : cell.slots.size < 2147483648
    · exact hlt
    · simp [hlt] at hlen
  obtain ⟨hcb, hkn, -, -⟩ := State.arrayAt?_spec hat
  have hof := (Cond.arrayOf_spec harr ht hcb).1
  have hv2 : (3 : Int32) = cell.slots.size.toInt32 := Value.int.inj hv
  have h3 : cell.slots.size = 3 := by
    have e : nI 3 = nI cell.slots.size := hv2
    exact ((nI_eq (by omega) hsz).mp e).symm
  refine ⟨b, ht, ⟨cell, hcb, hof, hkn, h3, fun j hj => ?_⟩, (Array.getElem?_eq_some_iff.mp hcb).1⟩
  obtain ⟨a, j', cell', e1, e2, e3, -, e5⟩ := Term.elem_spec (hel j hj)
  cases ht.symm.trans e1
  cases hat.symm.trans e3
  have e2 : j' = Int32.ofNat j := by cases e2; rfl
  subst e2
  rw [show (Int32.ofNat j).toNatClampNeg = j from nI_clamp (n := j) (by omega)] at e5
  exact e5
def lawI (M k p0 p1 p2 p3 : Nat) : Bool := wd p0 (.methodLink R_law k (mY M)) && (wd p1 (.instanceMethod (mY M)) && (wd p2 (.initialized (mY M).cls) && (decide ((mY M).name = "<init>") && (decide (mR M = none) && clB M 0 p3))))
section LAW3
variable {p : Program} {l : Launch} {e : Env} {s : State} {m : MethodId} {below : List Frame} {meth : Method} {c : Code} {H : Heap} {locs : List Loc} {Q : State → Prop} {b L : Nat} {xs : Nat → Int32} {D : va_G} {cI cZ cC cN : ClassId} {bl bh : Nat}
theorem lw_ctor {ρ : Nat → Nat} {lo n cells slots cells' slots' : Nat} {w w' : AW} {rest : List Value} {M k dd pc p0 p1 p2 p3 : Nat} {ls : Array Slot} (C : LC p s m meth c b L xs D cI cZ cC cN bl bh) (hM : M < 188) (hB : lawI M k p0 p1 p2 p3 = true) (hdec : decode code pc = .ok (.invokespecial k, 3)) (hdd : dd ≤ 100) (hev : Ev dd M 0 (ent (mL M) [.ref 0]) [] w none w') (hw : w.length = n) (hn : n ≤ 1000)
    (hsp : (spr [.ref 0]).length ≤ mL M) (hmL : mL M ≤ 40) (hρ : RHO ρ lo n H.size bl bh) (hlo : s.heap.size ≤ lo) (hP : va_P D vwCl (cW ρ (tysA cI cZ cC cN) w) H) (hS : va_S (fun q => s.heap.size ≤ q) s.heap H locs) (hls : ls.size = 4) (hrest : (rest.map Value.category).sum ≤ 8) (hc' : cells + (w'.length - w.length) = cells') (hs' : slots + (sl w' - sl w) = slots') (hr1 : cells' ≤ 600000) (hr2 : slots' ≤ 7302250)
    (K : ∀ (H1 : Heap) (locs1 : List Loc), va_P D vwCl (cW ρ (tysA cI cZ cC cN) w') H1 → H.size ≤ H1.size → (∀ q, q < H.size → (∀ k, k < n → q ≠ ρ k) → H1[q]? = H[q]?) → va_S (fun q => s.heap.size ≤ q) s.heap H1 locs1 → W p l e room_1 s m #[Value.ref b] below meth c H1 locs1 cells' slots' Q (F0 m (pc + 3) ls rest)) :
    W p l e room_1 s m #[Value.ref b] below meth c H locs cells slots Q (F0 m pc ls (.ref (ρ 0) :: rest)) := by
  have C' := C
  obtain ⟨⟨hx, hb, hr, hml, hown, hts, hX, hbl, hlocks, hgv⟩, hL, hK, hNW, hao, hST⟩ := C
  have htsA : ∀ x ∈ AL, x.before #[Value.ref b] s = true := fun x hx => hts x (List.mem_filter.mp hx).1
  obtain ⟨n0, hrun⟩ := hev
  have hmet := met_of (snd mok_all n0) (mok_all M hM) hM hrun hsp (by omega) l D cI cZ cC cN ρ H.size
  simp only [lawI, Bool.and_eq_true, decide_eq_true_eq] at hB
  obtain ⟨q3, q4, q5, q6, q7, q8⟩ := hB
  obtain ⟨f1, f2, f3, f4⟩ := clB_facts q8
  rw [q7] at hmet f1
  have hfree : ∀ q, va_A (cW ρ (tysA cI cZ cC cN) w) H.size q → s.heap.size ≤ q := by
    intro q h
    rcases cW_A h with ⟨k, hk, rfl⟩ | h
    · have := (hρ.1 k (by omega)).1
      omega
    · exact Nat.le_trans hS.1 h
  have hpcU := lw_pc (as := [.ref 0]) C' hw hρ hlo hP hS
  have S0 : CallFix p m c code 4 s #[Value.ref b] AL R_law := ⟨hx, hb, hml, hown, htsA⟩
  subst hc'
  subst hs'
  refine am_call (va_runI (As := []) (rest := rest) S0 hmet ⟨callB_of 0 htsA (AL_cons f1) rfl rfl rfl (htsA _ (wd_in q5)) (htsA _ (wd_in q3)) f2 ⟨?_, ?_⟩, q6, htsA _ (wd_in q4)⟩ ⟨PcA_blind, hpcU⟩ rfl rfl hls rfl (lv_room hrest) hdec ⟨hr1, hr2⟩) (fun v st₀ t L h0 hLf hvm hq => ?_)
  · show dd + 1 ≤ 2048
    omega
  · show 8 + (mL M + 11) + 64 * dd ≤ 84000
    omega
  · obtain ⟨hv, hP1, hD1, hF1⟩ := hq
    have hv2 : v = none := by cases hv; rfl
    subst hv2
    have hz1 : H.size ≤ t.heap.size := by rw [← h0]; exact hF1.1
    have hk1 : ∀ q : Nat, q < H.size → ¬ va_A (cW ρ (tysA cI cZ cC cN) w) H.size q → t.heap[q]? = H[q]? := by
      intro q q1 q2
      rw [hF1.2 q (by rw [h0]; exact q1) q2, h0]
    refine K t.heap (locs ++ L) hP1 hz1 (fun q h1 h2 => hk1 q h1 (fun z => ?_)) ⟨Nat.le_trans hS.1 hz1, fun q q1 q2 => ?_, fun q hq => ?_⟩
    · rcases cW_A z with ⟨k, hk, hk2⟩ | z
      · exact h2 k (by omega) hk2
      · omega
    · rw [hk1 q (Nat.lt_of_lt_of_le q1 hS.1) (fun z => q2 (hfree q z))]
      exact hS.2.1 q q1 q2
    · rcases List.mem_append.mp hq with z | z
      · exact hS.2.2 q z
      · exact hfree _ (hLf q z)
set_option maxHeartbeats 4000000 in
set_option maxRecDepth 100000 in
theorem law_loop (C : LC p s m meth c b L xs D cI cZ cC cN bl bh) : ∀ (n i : Nat) (ρ1 : Nat → Nat) (g h : RG) (tr : Int64) (H : Heap) (locs : List Loc) (ls : Array Slot), i ≤ L → L + 1 ≤ i + n → lv_has ls 4 [(0, .ref b), (1, .ref s.heap.size), (2, .ref (s.heap.size + 95)), (3, .int (nI i))] → INVP s D cI cZ cC cN bl bh ρ1 (wC g tr) (wR h tr) H locs → RL g h → W p l e room_1 s m #[Value.ref b] below meth c H locs 111 1429 (lw_Z below #[Value.ref b] s) (F0 m 18 ls []) := by
  obtain ⟨⟨hx, hb, hr, hml, hown, hts, hX, hbl, hlocks, hgv⟩, hL, hK, hNW, hao, hST⟩ := id C
  have hbA : ¬ (fun q : Nat => s.heap.size ≤ q) b := Nat.not_le.mpr hbl
  intro n
  induction n with
  | zero => intro i ρ1 g h tr H locs ls h1 h2; exact absurd h2 (by omega)
  | succ n ih =>
    intro i ρ1 g h tr H locs ls h1 h2 hl I hR
    have hS := I.2.2.2.1
    refine lv_iload_n hx hb (dl_0 (j := 10) rfl) rfl (lv_at hl 3 rfl) ?_
    refine lv_aload_n hx hb (dl_0 (j := 11) rfl) rfl (lv_at hl 0 rfl) ?_
    refine va_slen hx hb hX hbl hbA hS (dl_0 (j := 12) rfl) ?_
    refine lv_iconst (v := nI 4) hx hb (dl_0 (j := 13) rfl) (by decide) ?_
    refine lv_isub hx hb (dl_0 (j := 14) rfl) ?_
    refine lv_icmp_gt (tgt := 966) hx hb (dl_0 (j := 15) rfl) (by decide) (fun hgt => ?_) (fun hgt => ?_)
    · refine lv_iconst (v := 1) hx hb (dl_15 (j := 36) rfl) (by decide) ?_
      refine va_forget (fun q hq => hS.2.2 q hq) ?_
      refine W.widen (k := 600000) (n := 7302250) (Nat.le_of_ble_eq_true rfl) (Nat.le_of_ble_eq_true rfl) ?_
      exact lw_ret hx hb hr hlocks (dl_15 (j := 37) rfl)
    · have hi4 : i + 4 ≤ L := by
        rw [Int32.lt_iff_toInt_lt, show (Int32.ofNat L - nI 4).toInt = (L : Int) - 4 from pk_sub_toInt (a := L) (b := 4) (by omega) (by omega), nI_toInt (by omega)] at hgt
        omega
      refine lv_aload_n hx hb (dl_0 (j := 16) rfl) rfl (lv_at hl 0 rfl) ?_
      refine lv_iload_n hx hb (dl_0 (j := 17) rfl) rfl (lv_at hl 3 rfl) ?_
      refine va_sld hx hb hX hbl hbA hS (vp_in_nI (show i < L by omega) (by omega)) (dl_0 (j := 18) rfl) ?_
      refine lv_bipush (v := 31) hx hb (dl_0 (j := 19) rfl) (by decide) ?_
      refine lv_iand hx hb (dl_0 (j := 20) rfl) ?_
      obtain ⟨j, hj, ej⟩ := pk_andE (xs (nI i).toNatClampNeg) (m := 31) 5 (by decide)
      rw [ej]
      have K : ∀ (ρ : Nat → Nat) (g' h' : RG) (tr' : Int64) (H1 : Heap) (locs1 : List Loc), INVP s D cI cZ cC cN bl bh ρ (wC g' tr') (wR h' tr') H1 locs1 → RL g' h' → W p l e room_1 s m #[Value.ref b] below meth c H1 locs1 111 1429 (lw_Z below #[Value.ref b] s) (F0 m 960 ls []) := by
        intro ρ g' h' tr' H1 locs1 I1 hR1
        refine lv_iinc (v := nI (i + 4)) (lv' := [(3, .int (nI (i + 4))), (0, .ref b), (1, .ref s.heap.size), (2, .ref (s.heap.size + 95))]) hx hb (dl_15 (j := 34) rfl) hl (k := 3) rfl (by rw [← nI_add]; rfl) (by decide) rfl (fun ls' hl' => ?_)
        refine lv_goto (tgt := 18) hx hb (dl_15 (j := 35) rfl) (by decide) ?_
        exact ih (i + 4) ρ g' h' tr' H1 locs1 ls' hi4 (by omega) (lv_sub hl' [1, 2, 3, 0] rfl) I1 hR1
      match j, hj with
      | 0, _ =>
        refine lv_tableIn (off := 136) (tgt := 168) hx hb (dl_0 (j := 21) rfl) (by decide) (by decide) (by decide) (by decide) ?_
        exact law_type C hi4 hl I hR K
      | 1, _ =>
        refine lv_tableIn (off := 159) (tgt := 191) hx hb (dl_0 (j := 21) rfl) (by decide) (by decide) (by decide) (by decide) ?_
        exact law_clear C hi4 hl I hR K
      | 2, _ =>
        refine lv_tableIn (off := 172) (tgt := 204) hx hb (dl_0 (j := 21) rfl) (by decide) (by decide) (by decide) (by decide) ?_
        exact law_house C hi4 hl I hR K
      | 3, _ =>
        refine lv_tableIn (off := 185) (tgt := 217) hx hb (dl_0 (j := 21) rfl) (by decide) (by decide) (by decide) (by decide) ?_
        exact law_use C hi4 hl I hR K
      | 4, _ =>
        refine lv_tableIn (off := 218) (tgt := 250) hx hb (dl_0 (j := 21) rfl) (by decide) (by decide) (by decide) (by decide) ?_
        exact law_thing C hi4 hl I hR K
      | 5, _ =>
        refine lv_tableIn (off := 251) (tgt := 283) hx hb (dl_0 (j := 21) rfl) (by decide) (by decide) (by decide) (by decide) ?_
        exact law_person C hi4 hl I hR K
      | 6, _ =>
        refine lv_tableIn (off := 284) (tgt := 316) hx hb (dl_0 (j := 21) rfl) (by decide) (by decide) (by decide) (by decide) ?_
        exact law_door C hi4 hl I hR K
      | 7, _ =>
        refine lv_tableIn (off := 317) (tgt := 349) hx hb (dl_0 (j := 21) rfl) (by decide) (by decide) (by decide) (by decide) ?_
        exact law_now C hi4 hl I hR K
      | 8, _ =>
        refine lv_tableIn (off := 340) (tgt := 372) hx hb (dl_0 (j := 21) rfl) (by decide) (by decide) (by decide) (by decide) ?_
        exact law_lays C hi4 hl I hR K
      | 9, _ =>
        refine lv_tableIn (off := 373) (tgt := 405) hx hb (dl_0 (j := 21) rfl) (by decide) (by decide) (by decide) (by decide) ?_
        exact law_takes C hi4 hl I hR K
      | 10, _ =>
        refine lv_tableIn (off := 396) (tgt := 428) hx hb (dl_0 (j := 21) rfl) (by decide) (by decide) (by decide) (by decide) ?_
        exact law_rescales C hi4 hl I hR K
      | 11, _ =>
        refine lv_tableIn (off := 439) (tgt := 471) hx hb (dl_0 (j := 21) rfl) (by decide) (by decide) (by decide) (by decide) ?_
        exact law_undo C hi4 hl I hR K
      | 12, _ =>
        refine lv_tableIn (off := 452) (tgt := 484) hx hb (dl_0 (j := 21) rfl) (by decide) (by decide) (by decide) (by decide) ?_
        exact law_housed C hi4 hl I hR K
      | 13, _ =>
        refine lv_tableIn (off := 475) (tgt := 507) hx hb (dl_0 (j := 21) rfl) (by decide) (by decide) (by decide) (by decide) ?_
        exact law_laying C hi4 hl I hR K
      | 14, _ =>
        refine lv_tableIn (off := 508) (tgt := 540) hx hb (dl_0 (j := 21) rfl) (by decide) (by decide) (by decide) (by decide) ?_
        exact law_tries C hi4 hl I hR K
      | 15, _ =>
        refine lv_tableIn (off := 541) (tgt := 573) hx hb (dl_0 (j := 21) rfl) (by decide) (by decide) (by decide) (by decide) ?_
        exact law_forget C hi4 hl I hR K
      | 16, _ =>
        refine lv_tableIn (off := 554) (tgt := 586) hx hb (dl_0 (j := 21) rfl) (by decide) (by decide) (by decide) (by decide) ?_
        exact law_mayBe C hi4 hl I hR K
      | 17, _ =>
        refine lv_tableIn (off := 587) (tgt := 619) hx hb (dl_0 (j := 21) rfl) (by decide) (by decide) (by decide) (by decide) ?_
        exact law_next C hi4 hl I hR K
      | 18, _ =>
        refine lv_tableIn (off := 620) (tgt := 652) hx hb (dl_0 (j := 21) rfl) (by decide) (by decide) (by decide) (by decide) ?_
        exact law_bestScale C hi4 hl I hR K
      | 19, _ =>
        refine lv_tableIn (off := 643) (tgt := 675) hx hb (dl_0 (j := 21) rfl) (by decide) (by decide) (by decide) (by decide) ?_
        exact law_oneMore C hi4 hl I hR K
      | 20, _ =>
        refine lv_tableIn (off := 676) (tgt := 708) hx hb (dl_0 (j := 21) rfl) (by decide) (by decide) (by decide) (by decide) ?_
        exact law_carried C hi4 hl I hR K
      | 21, _ =>
        refine lv_tableIn (off := 699) (tgt := 731) hx hb (dl_0 (j := 21) rfl) (by decide) (by decide) (by decide) (by decide) ?_
        exact law_mean C hi4 hl I hR K
      | 22, _ =>
        refine lv_tableIn (off := 723) (tgt := 755) hx hb (dl_0 (j := 21) rfl) (by decide) (by decide) (by decide) (by decide) ?_
        exact law_turnsOfAll C hi4 hl I hR K
      | 23, _ =>
        refine lv_tableIn (off := 736) (tgt := 768) hx hb (dl_0 (j := 21) rfl) (by decide) (by decide) (by decide) (by decide) ?_
        exact law_share C hi4 hl I hR K
      | 24, _ =>
        refine lv_tableIn (off := 769) (tgt := 801) hx hb (dl_0 (j := 21) rfl) (by decide) (by decide) (by decide) (by decide) ?_
        exact law_odds C hi4 hl I hR K
      | 25, _ =>
        refine lv_tableIn (off := 812) (tgt := 844) hx hb (dl_0 (j := 21) rfl) (by decide) (by decide) (by decide) (by decide) ?_
        exact law_rate C hi4 hl I hR K
      | 26, _ =>
        refine lv_tableIn (off := 845) (tgt := 877) hx hb (dl_0 (j := 21) rfl) (by decide) (by decide) (by decide) (by decide) ?_
        exact law_keep C hi4 hl I hR K
      | 27, _ =>
        refine lv_tableIn (off := 868) (tgt := 900) hx hb (dl_0 (j := 21) rfl) (by decide) (by decide) (by decide) (by decide) ?_
        exact law_back C hi4 hl I hR K
      | 28, _ =>
        refine lv_tableIn (off := 891) (tgt := 923) hx hb (dl_0 (j := 21) rfl) (by decide) (by decide) (by decide) (by decide) ?_
        exact law_count C hi4 hl I hR K
      | 29, _ =>
        refine lv_tableIn (off := 914) (tgt := 946) hx hb (dl_0 (j := 21) rfl) (by decide) (by decide) (by decide) (by decide) ?_
        exact law_trace C hi4 hl I hR K
      | 30, _ =>
        refine lv_tableOut (tgt := 960) hx hb (dl_0 (j := 21) rfl) (by decide) (by decide) ?_
        exact K _ _ _ _ _ _ I hR
      | 31, _ =>
        refine lv_tableOut (tgt := 960) hx hb (dl_0 (j := 21) rfl) (by decide) (by decide) ?_
        exact K _ _ _ _ _ _ I hR
      | j + 32, hj => exact absurd hj (by omega)
end LAW3
theorem bI_C : lawI 73 9 69 70 53 71 = true := by decide +kernel
theorem bI_R : lawI 118 12 817 818 62 819 = true := by decide +kernel
def rhoA (base bl bh : Nat) : Nat → Nat := fun k => if k = 1000000 then bl else if k = 1000001 then bh else base + k
def rho1 (base bl bh : Nat) : Nat → Nat := fun k => if k = 1000000 then bl else if k = 1000001 then bh else if k < 95 then base + k else base + 16 + k
theorem rho1_ok (base bl bh : Nat) : RHO (rho1 base bl bh) base 95 (base + 111) bl bh := by
  have h : ∀ k, k < 95 → rho1 base bl bh k = base + k := fun k hk => by unfold rho1; rw [if_neg (by omega), if_neg (by omega), if_pos hk]
  have h2 : ∀ k, 95 ≤ k → k < 1000000 → rho1 base bl bh k = base + 16 + k := fun k hk hk2 => by unfold rho1; rw [if_neg (by omega), if_neg (by omega), if_neg (by omega)]
  refine ⟨fun k hk => by rw [h k hk]; omega, fun i j hi hj e => by rw [h i hi, h j hj] at e; omega, fun k hk hk2 => by rw [h2 k hk hk2]; omega, ?_, ?_⟩
  · exact if_pos rfl
  · unfold rho1; rw [if_neg (by omega), if_pos rfl]
theorem rhoA_lt {base bl bh k : Nat} (h : k < 1000000) : rhoA base bl bh k = base + k := by unfold rhoA; rw [if_neg (by omega), if_neg (by omega)]
theorem rhoA_ok (base bl bh : Nat) : RHO (rhoA base bl bh) base 1 (base + 1) bl bh := by
  refine ⟨fun k hk => by rw [rhoA_lt (by omega)]; omega, fun i j hi hj e => by omega, fun k hk hk2 => by rw [rhoA_lt hk2]; omega, ?_, ?_⟩
  · exact if_pos rfl
  · unfold rhoA; rw [if_neg (by omega), if_pos rfl]
theorem rho2_1 (base bl bh : Nat) : RHO (rho2 base bl bh) (base + 95) 1 (base + 96) bl bh := by
  have h : ∀ k, k < 1000000 → rho2 base bl bh k = base + 95 + k := fun k hk => by unfold rho2; rw [if_neg (by omega), if_neg (by omega)]
  refine ⟨fun k hk => by rw [h k (by omega)]; omega, fun i j hi hj e => by omega, fun k hk hk2 => by rw [h k hk2]; omega, ?_, ?_⟩
  · exact if_pos rfl
  · unfold rho2; rw [if_neg (by omega), if_pos rfl]
theorem law_given {s : State} {b : Nat} (hts : ∀ w ∈ lw_tbl, w.before #[Value.ref b] s = true) (hgv : (Jvm.Cond.and given_1 narrow_1).before #[Value.ref b] s = true) : ∃ bl bh : Nat, STq bl bh s := by
  have hs := flat_of_before _ hgv
  have hini := hts (.initialized "TwoScales$Tale") (List.mem_of_getElem? (i := 55) (by decide +kernel))
  have one : ∀ (nm : String) (f : Nat → Int32), (Cond.laysStatic "TwoScales$Tale" nm "[I").before #[Value.ref b] s = true → (Cond.arrayOf (.static "TwoScales$Tale" nm "[I") .int).before #[Value.ref b] s = true → (Cond.eq (.length (.static "TwoScales$Tale" nm "[I")) (.int 3)).before #[Value.ref b] s = true → (Cond.eq (.elem (.static "TwoScales$Tale" nm "[I") (.int 0)) (.int (f 0))).before #[Value.ref b] s = true → (Cond.eq (.elem (.static "TwoScales$Tale" nm "[I") (.int 1)) (.int (f 1))).before #[Value.ref b] s = true → (Cond.eq (.elem (.static "TwoScales$Tale" nm "[I") (.int 2)) (.int (f 2))).before #[Value.ref b] s = true → ∃ b0 : Nat, va_Z "TwoScales$Tale" nm "[I" (.ref b0) (fun q => s.heap.size ≤ q) s s.heap ∧ va_X b0 3 f s s.heap ∧ b0 < s.heap.size := by
    intro nm f hl ha hlen h0 h1 h2
    obtain ⟨b0, e1, e2, e3⟩ := stat_X (f := f) ha (lw_eqt hlen) (fun j hj => by
      match j, hj with
      | 0, _ => exact lw_eqt h0
      | 1, _ => exact lw_eqt h1
      | 2, _ => exact lw_eqt h2)
    exact ⟨b0, va_Zof hl hini e1 (fun a ha => by show ¬ s.heap.size ≤ a; omega), e2, e3⟩
  obtain ⟨bl, h1⟩ := one "LOW_AT_FIRST" low0 (hts _ (List.mem_of_getElem? (i := 92) (by decide +kernel))) (hs _ (by decide +kernel)) (hs _ (by decide +kernel)) (hs _ (by decide +kernel)) (hs _ (by decide +kernel)) (hs _ (by decide +kernel))
  obtain ⟨bh, h2⟩ := one "HIGH_AT_FIRST" high0 (hts _ (List.mem_of_getElem? (i := 94) (by decide +kernel))) (hs _ (by decide +kernel)) (hs _ (by decide +kernel)) (hs _ (by decide +kernel)) (hs _ (by decide +kernel)) (hs _ (by decide +kernel))
  exact ⟨bl, bh, h1, h2⟩
theorem law_K {s : State} {b : Nat} (hts : ∀ w ∈ lw_tbl, w.before #[Value.ref b] s = true) : ∃ (D : va_G) (cI cZ cC cN : ClassId), va_K D vwCl (tysA cI cZ cC cN) s := by
  have htsA : ∀ x ∈ AL, x.before #[Value.ref b] s = true := fun x hx => hts x (List.mem_filter.mp hx).1
  obtain ⟨c0, i0, n0⟩ := u_known (ws := AL) (C := RX0) (T := TX0) (N := 2) (n := 2) htsA (inAll (ci := 0) rfl) (hts (.instantiable RX0 2) (List.mem_of_getElem? (i := 312) (by decide +kernel)))
  obtain ⟨c1, i1, n1⟩ := u_known (ws := AL) (C := RX1) (T := TX1) (N := 3) (n := 3) htsA (inAll (ci := 1) rfl) (hts (.instantiable RX1 3) (List.mem_of_getElem? (i := 265) (by decide +kernel)))
  obtain ⟨c2, i2, n2⟩ := u_known (ws := AL) (C := RX2) (T := TX2) (N := 2) (n := 2) htsA (inAll (ci := 2) rfl) (hts (.instantiable RX2 2) (List.mem_of_getElem? (i := 221) (by decide +kernel)))
  obtain ⟨c3, i3, n3⟩ := u_known (ws := AL) (C := RX3) (T := TX3) (N := 1) (n := 1) htsA (inAll (ci := 3) rfl) (hts (.instantiable RX3 1) (List.mem_of_getElem? (i := 302) (by decide +kernel)))
  obtain ⟨c4, i4, n4⟩ := u_known (ws := AL) (C := RX4) (T := TX4) (N := 3) (n := 3) htsA (inAll (ci := 4) rfl) (hts (.instantiable RX4 3) (List.mem_of_getElem? (i := 229) (by decide +kernel)))
  obtain ⟨c5, i5, n5⟩ := u_known (ws := AL) (C := RX5) (T := TX5) (N := 15) (n := 15) htsA (inAll (ci := 5) rfl) (hts (.instantiable RX5 15) (List.mem_of_getElem? (i := 82) (by decide +kernel)))
  obtain ⟨c6, i6, n6⟩ := u_known (ws := AL) (C := RX6) (T := TX6) (N := 9) (n := 9) htsA (inAll (ci := 6) rfl) (hts (.instantiable RX6 9) (List.mem_of_getElem? (i := 76) (by decide +kernel)))
  obtain ⟨c7, i7, n7⟩ := u_known (ws := AL) (C := RX7) (T := TX7) (N := 3) (n := 3) htsA (inAll (ci := 7) rfl) (hts (.instantiable RX7 3) (List.mem_of_getElem? (i := 285) (by decide +kernel)))
  obtain ⟨c8, i8, n8⟩ := u_known (ws := AL) (C := RX8) (T := TX8) (N := 10) (n := 10) htsA (inAll (ci := 8) rfl) (hts (.instantiable RX8 10) (List.mem_of_getElem? (i := 68) (by decide +kernel)))
  obtain ⟨c9, i9, n9⟩ := u_known (ws := AL) (C := RX9) (T := TX9) (N := 25) (n := 25) htsA (inAll (ci := 9) rfl) (hts (.instantiable RX9 25) (List.mem_of_getElem? (i := 816) (by decide +kernel)))
  obtain ⟨dC, dI, hKc⟩ : ∃ (dC : Nat → ClassId) (dI : Nat → Nat → Nat), ∀ (k : Nat) (q : vw_C), vwCl[k]? = some q → u_Kn s q.1 q.2.1 q.2.2 (dC k) (dI k) := by
    refine ⟨fun k => match k with | 0 => c0 | 1 => c1 | 2 => c2 | 3 => c3 | 4 => c4 | 5 => c5 | 6 => c6 | 7 => c7 | 8 => c8 | _ => c9, fun k => match k with | 0 => i0 | 1 => i1 | 2 => i2 | 3 => i3 | 4 => i4 | 5 => i5 | 6 => i6 | 7 => i7 | 8 => i8 | _ => i9, ?_⟩
    intro k q hq
    match k, hq with
    | 0, hq => cases hq; exact n0
    | 1, hq => cases hq; exact n1
    | 2, hq => cases hq; exact n2
    | 3, hq => cases hq; exact n3
    | 4, hq => cases hq; exact n4
    | 5, hq => cases hq; exact n5
    | 6, hq => cases hq; exact n6
    | 7, hq => cases hq; exact n7
    | 8, hq => cases hq; exact n8
    | 9, hq => cases hq; exact n9
    | k + 10, hq => simp [vwCl] at hq
  obtain ⟨cI, kI, mI', hI1, hI2, hI3⟩ := Cond.arrayClass_spec (hts (.arrayClass .int) (List.mem_of_getElem? (i := 191) (by decide +kernel)))
  obtain ⟨cZ, kZ, mZ, hZ1, hZ2, hZ3⟩ := Cond.arrayClass_spec (hts (.arrayClass .boolean) (List.mem_of_getElem? (i := 300) (by decide +kernel)))
  obtain ⟨cC, kC, mC, hC1, hC2, hC3⟩ := Cond.arrayClass_spec (hts (.arrayClass .char) (List.mem_of_getElem? (i := 190) (by decide +kernel)))
  obtain ⟨mN, cN, kN, hN1, hN2, hN3, hN4, hN5⟩ := Cond.arrayOver_spec (hts (.arrayOver (.object "TwoScales$Now")) (List.mem_of_getElem? (i := 271) (by decide +kernel)))
  refine ⟨(dC, dI), cI, cZ, cC, cN, hKc, fun k q h => ?_⟩
  match k, h with
  | 0, h => cases h; exact ⟨fun n z => ⟨fun k h => (by cases h), kI, hI2, mI', hI3⟩, hI1⟩
  | 1, h => cases h; exact ⟨fun n z => ⟨fun k h => (by cases h), kZ, hZ2, mZ, hZ3⟩, hZ1⟩
  | 2, h => cases h; exact ⟨fun n z => ⟨fun k h => (by cases h), kC, hC2, mC, hC3⟩, hC1⟩
  | 3, h => cases h; exact ⟨fun n z => ⟨fun k h => (by cases h), kN, hN3, mN, hN4⟩, kN, mN, hN3, hN4, hN1, hN5⟩
  | k + 4, h => simp [tysA] at h
set_option maxHeartbeats 4000000 in
set_option maxRecDepth 100000 in
/-- THE LAW, from its entry -/
theorem whole_start {p : Program} {e : Env} {s : State} {m : MethodId} {below : List Frame} {meth : Method} {c : Code} (l : Launch) (hflags : l.flags = flags0) {b L : Nat} {xs : Nat → Int32} (hL : L ≤ 2048) (C0 : lw_At p s m meth c b L xs) : W p l e room_1 s m #[Value.ref b] below meth c s.heap [] 0 0 (lw_Z below #[Value.ref b] s) (entryFrame m ([Value.ref b] : List Value).toArray 4) := by
  obtain ⟨hx, hb, hr, hml, hown, hts, hX, hbl, hlocks, hgv⟩ := id C0
  have htsA : ∀ x ∈ AL, x.before #[Value.ref b] s = true := fun x hx => hts x (List.mem_filter.mp hx).1
  have hA : ∀ q : Nat, s.heap.size ≤ q → (fun q : Nat => s.heap.size ≤ q) q := fun _ h => h
  obtain ⟨bl, bh, hST⟩ := law_given hts hgv
  obtain ⟨D, cI, cZ, cC, cN, hK⟩ := law_K hts
  have hNW : NW s := fun a i x h hm => va_Nw.of rfl (hts _ hm)
  have hao : va_AO "TwoScales$Now" s := va_AO.of (hts (.arrayOver (.object "TwoScales$Now")) (List.mem_of_getElem? (i := 271) (by decide +kernel)))
  have C : LC p s m meth c b L xs D cI cZ cC cN bl bh := ⟨C0, hL, hK, hNW, hao, hST⟩
  have hS : va_S (fun q : Nat => s.heap.size ≤ q) s.heap s.heap [] := va_S.rf
  have hP : va_P D vwCl [] s.heap := fun k q h => by simp at h
  have hD : va_D (fun q : Nat => s.heap.size ≤ q) [] := ⟨fun i j p q h => by simp at h, fun k q h => by simp at h⟩
  have hl := lv_entry ([.ref b]) (n := 4) (Nat.le_of_ble_eq_true rfl)
  rw [lg_entry_eq]
  generalize (lg_sl ([.ref b]) ++ List.replicate (4 - (lg_sl ([.ref b])).length) Slot.unset).toArray = ls at hl ⊢
  have hl : lv_has ls 4 [(0, .ref b)] := hl
  refine va_new (ci := 8) (fs := fds 8 10) (C := RX8) (T := TX8) (N := 10) hx hb htsA (inAll (ci := 8) rfl) (fty 8) (ftyAll (ci := 8) rfl) hown (hts (.classLink R_law 7 RX8) (List.mem_of_getElem? (i := 67) (by decide +kernel))) (hts (.instantiable RX8 10) (List.mem_of_getElem? (i := 68) (by decide +kernel))) (hts (.initialized RX8) (List.mem_of_getElem? (i := 53) (by decide +kernel))) hK hP hD hS hA rfl (fun j hj => by simp [vp_V, fds, hj]) (Nat.le_of_ble_eq_true rfl) (Nat.le_of_ble_eq_true rfl) (dl_0 (j := 0) rfl) (fun q0 H hP hD hS => ?_)
  have hq0 : s.heap.size ≤ q0 := hD.2 0 (q0, .inr (8, fds 8 10)) rfl
  have hq1 : q0 < H.size := (hP 0 (q0, .inr (8, fds 8 10)) rfl).lt
  refine W.sized (show s.heap.size + (0 + 1) ≤ H.size by omega) (fun hH => ?_)
  have e0 : q0 = s.heap.size := by omega
  subst e0
  refine lv_dup hx hb (dl_0 (j := 1) rfl) rfl ?_
  have hPa : va_P D vwCl (cW (rhoA s.heap.size bl bh) (tysA cI cZ cC cN) [.inr (8, fds 8 10)]) H := hP
  have hρa : RHO (rhoA s.heap.size bl bh) s.heap.size 1 H.size bl bh := by rw [hH]; exact rhoA_ok _ _ _
  refine lw_ctor (ρ := rhoA s.heap.size bl bh) (cells' := 95) (slots' := 832) (rest := [.ref s.heap.size]) C (by decide) bI_C (dl_0 (j := 2) rfl) (dd := 16) (by decide) (c_X8_init 13) rfl (by decide) (Nat.le_of_ble_eq_true rfl) (Nat.le_of_ble_eq_true rfl) hρa (Nat.le_refl _) hPa hS hl.1 (Nat.le_of_ble_eq_true rfl) rfl rfl (by decide) (by decide) (fun H1 locs1 hP1 hz1 hk1 hS1 => ?_)
  refine lv_astore_n (lv' := [(1, .ref s.heap.size), (0, .ref b)]) hx hb (dl_0 (j := 3) rfl) rfl hl (by decide) rfl (fun ls hl => ?_)
  have hD1 : va_D (fun q : Nat => s.heap.size ≤ q) (cW (rhoA s.heap.size bl bh) (tysA cI cZ cC cN) (wC gC0 0)) := cW_D (fun i j hi hj e => by
    have hi : i < 95 := hi
    have hj : j < 95 := hj
    rw [rhoA_lt (by omega), rhoA_lt (by omega)] at e
    omega) (fun k hk => by
    have hk : k < 95 := hk
    show s.heap.size ≤ rhoA s.heap.size bl bh k
    rw [rhoA_lt (by omega)]
    omega)
  refine va_new (ci := 9) (fs := fds 9 25) (C := RX9) (T := TX9) (N := 25) hx hb htsA (inAll (ci := 9) rfl) (fty 9) (ftyAll (ci := 9) rfl) hown (hts (.classLink R_law 10 RX9) (List.mem_of_getElem? (i := 815) (by decide +kernel))) (hts (.instantiable RX9 25) (List.mem_of_getElem? (i := 816) (by decide +kernel))) (hts (.initialized RX9) (List.mem_of_getElem? (i := 62) (by decide +kernel))) hK hP1 hD1 hS1 hA rfl (fun j hj => by simp [vp_V, fds, hj]) (Nat.le_of_ble_eq_true rfl) (Nat.le_of_ble_eq_true rfl) (dl_0 (j := 4) rfl) (fun q1 H2 hP2 hD2 hS2 => ?_)
  have hlen : (cW (rhoA s.heap.size bl bh) (tysA cI cZ cC cN) (wC gC0 0)).length = 95 := cW_len _ _ _
  have hat : (cW (rhoA s.heap.size bl bh) (tysA cI cZ cC cN) (wC gC0 0) ++ [(q1, (Sum.inr (9, fds 9 25) : va_E))])[95]? = some (q1, .inr (9, fds 9 25)) := by
    rw [List.getElem?_append_right (by omega), hlen]
    rfl
  have hq2 : s.heap.size ≤ q1 := hD2.2 95 _ hat
  have hq3 : q1 < H2.size := (hP2 95 _ hat).lt
  have hq4 : s.heap.size + 95 ≤ q1 := by
    rcases Nat.lt_or_ge q1 (s.heap.size + 95) with hlt | hge
    · exfalso
      obtain ⟨x, hx5⟩ : ∃ x, (wC gC0 0)[q1 - s.heap.size]? = some x := ⟨(wC gC0 0)[q1 - s.heap.size]'(by show _ < 95; omega), by rw [List.getElem?_eq_getElem]⟩
      have hk5 : (cW (rhoA s.heap.size bl bh) (tysA cI cZ cC cN) (wC gC0 0) ++ [(q1, (Sum.inr (9, fds 9 25) : va_E))])[q1 - s.heap.size]? = some (rhoA s.heap.size bl bh (q1 - s.heap.size), cE (rhoA s.heap.size bl bh) (tysA cI cZ cC cN) x) := by
        rw [List.getElem?_append_left (by omega)]
        exact cW_at hx5
      have := hD2.1 _ _ _ _ hk5 hat (by show rhoA s.heap.size bl bh (q1 - s.heap.size) = q1; rw [rhoA_lt (by omega)]; omega)
      omega
    · exact hge
  refine W.sized (show s.heap.size + (95 + 1) ≤ H2.size by omega) (fun hH2 => ?_)
  have e1 : q1 = s.heap.size + 95 := by omega
  subst e1
  refine lv_dup hx hb (dl_0 (j := 5) rfl) rfl ?_
  have hPb : va_P D vwCl (cW (rho2 s.heap.size bl bh) (tysA cI cZ cC cN) [.inr (9, fds 9 25)]) H2 := fun k q hk => by
    have hk1 : k < 1 := by have := (List.getElem?_eq_some_iff.mp hk).1; rw [cW_len] at this; exact this
    have hk0 : k = 0 := by omega
    subst hk0
    cases hk
    exact hP2 95 _ hat
  have hPc : va_P D vwCl (cW (rhoA s.heap.size bl bh) (tysA cI cZ cC cN) (wC gC0 0)) H2 := fun k q hk => hP2 k q (by rw [List.getElem?_append_left (List.getElem?_eq_some_iff.mp hk).1]; exact hk)
  have hρb : RHO (rho2 s.heap.size bl bh) (s.heap.size + 95) 1 H2.size bl bh := by rw [hH2]; exact rho2_1 _ _ _
  refine lw_ctor (ρ := rho2 s.heap.size bl bh) (cells' := 111) (slots' := 1429) (rest := [.ref (s.heap.size + 95)]) C (by decide) bI_R (dl_0 (j := 6) rfl) (dd := 16) (by decide) (c_X9_init 15) rfl (by decide) (Nat.le_of_ble_eq_true rfl) (Nat.le_of_ble_eq_true rfl) hρb (by omega) hPb hS2 hl.1 (Nat.le_of_ble_eq_true rfl) rfl rfl (by decide) (by decide) (fun H3 locs3 hP3 hz3 hk3 hS3 => ?_)
  refine lv_astore_n (lv' := [(2, .ref (s.heap.size + 95)), (1, .ref s.heap.size), (0, .ref b)]) hx hb (dl_0 (j := 7) rfl) rfl hl (by decide) rfl (fun ls hl => ?_)
  refine lv_iconst (v := 0) hx hb (dl_0 (j := 8) rfl) (by decide) ?_
  refine lv_istore_n (lv' := [(3, .int 0), (2, .ref (s.heap.size + 95)), (1, .ref s.heap.size), (0, .ref b)]) hx hb (dl_0 (j := 9) rfl) rfl hl (by decide) rfl (fun ls hl => ?_)
  have hPd : va_P D vwCl (cW (rhoA s.heap.size bl bh) (tysA cI cZ cC cN) (wC gC0 0)) H3 := hPc.kept (fun k q hk => by
    obtain ⟨x, a1, b1⟩ := cW_of hk
    have hk95 : k < 95 := (List.getElem?_eq_some_iff.mp a1).1
    subst b1
    have hrk : rhoA s.heap.size bl bh k = s.heap.size + k := rhoA_lt (by omega)
    refine hk3 _ (by show rhoA s.heap.size bl bh k < H2.size; omega) (fun j hj e => ?_)
    have hj : j < 1 := hj
    have hj0 : j = 0 := by omega
    subst hj0
    have e : rhoA s.heap.size bl bh k = s.heap.size + 95 := e
    omega)
  rw [cW_congr (ρ' := rho1 s.heap.size bl bh) (fun k hk => by
    have hk : k < 95 := hk
    rw [rhoA_lt (by omega)]
    unfold rho1
    rw [if_neg (by omega), if_neg (by omega), if_pos hk]) (tysA cI cZ cC cN) (refs_C gC0 0)] at hPd
  exact law_loop C (L + 1) 0 (rho1 s.heap.size bl bh) gC0 (FL0 (fun _ => z0)) 0 H3 locs3 ls (Nat.zero_le L) (by omega) (lv_sub hl [3, 2, 1, 0] rfl) ⟨hPd, hP3, rho1_ok _ _ _, hS3, rfl⟩ rl_0
