/-! THE LAW's cases: each calls both, and compares -/
def rho2 (base bl bh : Nat) : Nat → Nat := fun k => if k = 1000000 then bl else if k = 1000001 then bh else base + 95 + k
theorem rho2_ok (base bl bh : Nat) : RHO (rho2 base bl bh) (base + 95) 16 (base + 111) bl bh := by
  have h : ∀ k, k < 1000000 → rho2 base bl bh k = base + 95 + k := fun k hk => by unfold rho2; rw [if_neg (by omega), if_neg (by omega)]
  refine ⟨fun k hk => by rw [h k (by omega)]; omega, fun i j hi hj e => by rw [h i (by omega), h j (by omega)] at e; omega, fun k hk hk2 => by rw [h k hk2]; omega, ?_, ?_⟩
  · exact if_pos rfl
  · unfold rho2; rw [if_neg (by omega), if_pos rfl]
def INVP (s : State) (D : va_G) (cI cZ cC cN : ClassId) (bl bh : Nat) (ρ1 : Nat → Nat) (w1 w2 : AW) (H : Heap) (locs : List Loc) : Prop := va_P D vwCl (cW ρ1 (tysA cI cZ cC cN) w1) H ∧ va_P D vwCl (cW (rho2 s.heap.size bl bh) (tysA cI cZ cC cN) w2) H ∧ RHO ρ1 s.heap.size 95 (s.heap.size + 111) bl bh ∧ va_S (fun q => s.heap.size ≤ q) s.heap H locs ∧ ρ1 0 = s.heap.size
section LAW2
variable {p : Program} {l : Launch} {e : Env} {s : State} {m : MethodId} {below : List Frame} {meth : Method} {c : Code} {H : Heap} {locs : List Loc} {Q : State → Prop} {b L : Nat} {xs : Nat → Int32} {D : va_G} {cI cZ cC cN : ClassId} {bl bh : Nat} {ρ1 : Nat → Nat} {w1 w2 : AW}
theorem inv_low (I : INVP s D cI cZ cC cN bl bh ρ1 w1 w2 H locs) (h2 : w2.length = 16) : s.heap.size + 111 ≤ H.size := by
  obtain ⟨x, hx⟩ : ∃ x, w2[15]? = some x := ⟨w2[15], by rw [List.getElem?_eq_getElem]⟩
  have h1 := (I.2.1 _ _ (cW_at hx)).lt
  have h3 : rho2 s.heap.size bl bh 15 = s.heap.size + 95 + 15 := rfl
  simp only at h1
  omega
theorem lw_callC {w1' : AW} {r : Value} {as rest : List Value} {M k dd pc p0 p1 p2 p3 p4 : Nat} {fs : List Value} {ls : Array Slot} (C : LC p s m meth c b L xs D cI cZ cC cN bl bh) (I : INVP s D cI cZ cC cN bl bh ρ1 w1 w2 H locs) (hM : M < 188) (hB : lawB M k as.length p0 p1 p2 p3 p4 = true) (hdec : decode code pc = .ok (.invokevirtual k, 3)) (hdd : dd ≤ 100) (hev : Ev dd M 0 (ent (mL M) (.ref 0 :: as)) [] w1 (some r) w1') (hw : w1.length = 95) (hw' : w1'.length = 95) (h2 : w2.length = 16) (hsl : sl w1' = sl w1)
    (hw0 : w1[0]? = some (.inr (8, fs))) (hcls : (vwCl[8]?).map (fun q => q.1) = some (mY M).cls) (hsp : (spr (.ref 0 :: as)).length ≤ mL M) (hmL : mL M ≤ 40) (hls : ls.size = 4) (hrest : (rest.map Value.category).sum ≤ 8)
    (K : ∀ (H1 : Heap) (locs1 : List Loc), INVP s D cI cZ cC cN bl bh ρ1 w1' w2 H1 locs1 → W p l e room_1 s m #[Value.ref b] below meth c H1 locs1 111 1429 Q (F0 m (pc + 3) ls (cV ρ1 r :: rest))) :
    W p l e room_1 s m #[Value.ref b] below meth c H locs 111 1429 Q (F0 m pc ls ((as.map (cV ρ1)).reverse ++ .ref s.heap.size :: rest)) := by
  have hlow := inv_low I h2
  obtain ⟨hP1, hP2, hρ, hS, h0⟩ := I
  rw [← h0]
  refine lw_call C hM hB hdec hdd hev hw hw' hsl (by omega) hw0 hcls hsp hmL hρ (Nat.le_refl _) hlow hP1 hS hls hrest (fun H1 locs1 q1 q2 q3 q4 => K H1 locs1 ⟨q1, ?_, hρ, q4, h0⟩)
  refine hP2.kept (fun k q hk => ?_)
  obtain ⟨x, a1, b1⟩ := cW_of hk
  have hk16 : k < 16 := by rw [← h2]; exact (List.getElem?_eq_some_iff.mp a1).1
  subst b1
  have hr := (rho2_ok s.heap.size bl bh).1 k hk16
  refine q3 _ (by show rho2 s.heap.size bl bh k < H.size; omega) (fun j hj e => ?_)
  have hr1 := (hρ.1 j hj).2
  have e : rho2 s.heap.size bl bh k = ρ1 j := e
  omega
theorem lw_callR {w2' : AW} {r : Value} {as rest : List Value} {M k dd pc p0 p1 p2 p3 p4 : Nat} {fs : List Value} {ls : Array Slot} (C : LC p s m meth c b L xs D cI cZ cC cN bl bh) (I : INVP s D cI cZ cC cN bl bh ρ1 w1 w2 H locs) (hM : M < 188) (hB : lawB M k as.length p0 p1 p2 p3 p4 = true) (hdec : decode code pc = .ok (.invokevirtual k, 3)) (hdd : dd ≤ 100) (hev : Ev dd M 0 (ent (mL M) (.ref 0 :: as)) [] w2 (some r) w2') (hw : w1.length = 95) (h2 : w2.length = 16) (hw' : w2'.length = 16) (hsl : sl w2' = sl w2)
    (hw0 : w2[0]? = some (.inr (9, fs))) (hcls : (vwCl[9]?).map (fun q => q.1) = some (mY M).cls) (hsp : (spr (.ref 0 :: as)).length ≤ mL M) (hmL : mL M ≤ 40) (hls : ls.size = 4) (hrest : (rest.map Value.category).sum ≤ 8)
    (K : ∀ (H1 : Heap) (locs1 : List Loc), INVP s D cI cZ cC cN bl bh ρ1 w1 w2' H1 locs1 → W p l e room_1 s m #[Value.ref b] below meth c H1 locs1 111 1429 Q (F0 m (pc + 3) ls (cV (rho2 s.heap.size bl bh) r :: rest))) :
    W p l e room_1 s m #[Value.ref b] below meth c H locs 111 1429 Q (F0 m pc ls ((as.map (cV (rho2 s.heap.size bl bh))).reverse ++ .ref (s.heap.size + 95) :: rest)) := by
  have hlow := inv_low I h2
  obtain ⟨hP1, hP2, hρ, hS, h0⟩ := I
  refine lw_call C hM hB hdec hdd hev h2 hw' hsl (by omega) hw0 hcls hsp hmL (rho2_ok s.heap.size bl bh) (by omega) hlow hP2 hS hls hrest (fun H1 locs1 q1 q2 q3 q4 => K H1 locs1 ⟨?_, q1, hρ, q4, h0⟩)
  refine hP1.kept (fun k q hk => ?_)
  obtain ⟨x, a1, b1⟩ := cW_of hk
  have hk95 : k < 95 := by rw [← hw]; exact (List.getElem?_eq_some_iff.mp a1).1
  subst b1
  have hr1 := hρ.1 k hk95
  refine q3 _ (by show ρ1 k < H.size; omega) (fun j hj e => ?_)
  have hr := (rho2_ok s.heap.size bl bh).1 j hj
  have e : ρ1 k = rho2 s.heap.size bl bh j := e
  omega
theorem bC_type : lawB 74 13 1 356 357 358 53 359 = true := by decide +kernel
theorem bR_type : lawB 122 17 1 901 902 903 62 904 = true := by decide +kernel
set_option maxRecDepth 20000 in
theorem law_type {i : Nat} {g h : RG} {tr : Int64} {ls : Array Slot} (C : LC p s m meth c b L xs D cI cZ cC cN bl bh) (hi : i + 4 ≤ L) (hl : lv_has ls 4 [(0, .ref b), (1, .ref s.heap.size), (2, .ref (s.heap.size + 95)), (3, .int (nI i))]) (I : INVP s D cI cZ cC cN bl bh ρ1 (wC g tr) (wR h tr) H locs) (hR : RL g h)
    (K : ∀ (ρ : Nat → Nat) (g' h' : RG) (tr' : Int64) (H1 : Heap) (locs1 : List Loc), INVP s D cI cZ cC cN bl bh ρ (wC g' tr') (wR h' tr') H1 locs1 → RL g' h' → W p l e room_1 s m #[Value.ref b] below meth c H1 locs1 111 1429 Q (F0 m 960 ls [])) : W p l e room_1 s m #[Value.ref b] below meth c H locs 111 1429 Q (F0 m 168 ls []) := by
  obtain ⟨⟨hx, hb, hr, hml, hown, hts, hX, hbl, hlocks, hgv⟩, hL, hK, hNW, hao, hST⟩ := id C
  have hbA : ¬ s.heap.size ≤ b := by omega
  obtain ⟨r, g', h', tr', e1, e2, hR'⟩ := k_type tr hR (xs (i + 1))
  obtain ⟨v, rfl⟩ := e1.int rfl
  refine lv_aload_n hx hb (dl_0 (j := 22) rfl) rfl (lv_at hl 1 rfl) ?_
  refine lw_arg (A := fun q => s.heap.size ≤ q) (aN := 1) hx hb hX hbl hbA I.2.2.2.1 hL (dl_0 (j := 23) rfl) (dl_0 (j := 24) rfl) (dl_0 (j := 25) rfl) (dl_0 (j := 26) rfl) (dl_0 (j := 27) rfl) rfl (by omega) hl ?_
  refine lw_callC (as := [.int (xs (i + 1))]) (rest := []) C I (by decide) bC_type (dl_0 (j := 28) rfl) (dd := 16) (by decide) e1 rfl rfl rfl rfl rfl rfl (Nat.le_of_ble_eq_true rfl) (Nat.le_of_ble_eq_true rfl) hl.1 (Nat.le_of_ble_eq_true rfl) (fun H1 locs1 I1 => ?_)
  refine lv_aload_n hx hb (dl_0 (j := 29) rfl) rfl (lv_at hl 2 rfl) ?_
  refine lw_arg (A := fun q => s.heap.size ≤ q) (aN := 1) hx hb hX hbl hbA I1.2.2.2.1 hL (dl_0 (j := 30) rfl) (dl_0 (j := 31) rfl) (dl_0 (j := 32) rfl) (dl_0 (j := 33) rfl) (dl_0 (j := 34) rfl) rfl (by omega) hl ?_
  refine lw_callR (as := [.int (xs (i + 1))]) (rest := [.int v]) C I1 (by decide) bR_type (dl_0 (j := 35) rfl) (dd := 16) (by decide) e2 rfl rfl rfl rfl rfl rfl (Nat.le_of_ble_eq_true rfl) (Nat.le_of_ble_eq_true rfl) hl.1 (Nat.le_of_ble_eq_true rfl) (fun H2 locs2 I2 => ?_)
  exact lv_icmp_eq (tgt := 960) hx hb (dl_0 (j := 36) rfl) (by decide) (fun _ => K _ _ _ _ _ _ I2 hR') (fun h => absurd rfl h)
theorem bC_clear : lawB 75 18 0 373 374 375 53 376 = true := by decide +kernel
theorem bR_clear : lawB 123 22 0 908 909 910 62 911 = true := by decide +kernel
set_option maxRecDepth 20000 in
theorem law_clear {i : Nat} {g h : RG} {tr : Int64} {ls : Array Slot} (C : LC p s m meth c b L xs D cI cZ cC cN bl bh) (hi : i + 4 ≤ L) (hl : lv_has ls 4 [(0, .ref b), (1, .ref s.heap.size), (2, .ref (s.heap.size + 95)), (3, .int (nI i))]) (I : INVP s D cI cZ cC cN bl bh ρ1 (wC g tr) (wR h tr) H locs) (hR : RL g h)
    (K : ∀ (ρ : Nat → Nat) (g' h' : RG) (tr' : Int64) (H1 : Heap) (locs1 : List Loc), INVP s D cI cZ cC cN bl bh ρ (wC g' tr') (wR h' tr') H1 locs1 → RL g' h' → W p l e room_1 s m #[Value.ref b] below meth c H1 locs1 111 1429 Q (F0 m 960 ls [])) : W p l e room_1 s m #[Value.ref b] below meth c H locs 111 1429 Q (F0 m 191 ls []) := by
  obtain ⟨⟨hx, hb, hr, hml, hown, hts, hX, hbl, hlocks, hgv⟩, hL, hK, hNW, hao, hST⟩ := id C
  have hbA : ¬ s.heap.size ≤ b := by omega
  obtain ⟨r, g', h', tr', e1, e2, hR'⟩ := k_clear tr hR 
  obtain ⟨v, rfl⟩ := e1.int rfl
  refine lv_aload_n hx hb (dl_0 (j := 39) rfl) rfl (lv_at hl 1 rfl) ?_
  refine lw_callC (as := []) (rest := []) C I (by decide) bC_clear (dl_1 (j := 0) rfl) (dd := 16) (by decide) e1 rfl rfl rfl rfl rfl rfl (Nat.le_of_ble_eq_true rfl) (Nat.le_of_ble_eq_true rfl) hl.1 (Nat.le_of_ble_eq_true rfl) (fun H1 locs1 I1 => ?_)
  refine lv_aload_n hx hb (dl_1 (j := 1) rfl) rfl (lv_at hl 2 rfl) ?_
  refine lw_callR (as := []) (rest := [.int v]) C I1 (by decide) bR_clear (dl_1 (j := 2) rfl) (dd := 16) (by decide) e2 rfl rfl rfl rfl rfl rfl (Nat.le_of_ble_eq_true rfl) (Nat.le_of_ble_eq_true rfl) hl.1 (Nat.le_of_ble_eq_true rfl) (fun H2 locs2 I2 => ?_)
  exact lv_icmp_eq (tgt := 960) hx hb (dl_1 (j := 3) rfl) (by decide) (fun _ => K _ _ _ _ _ _ I2 hR') (fun h => absurd rfl h)
theorem bC_house : lawB 76 23 0 381 382 383 53 384 = true := by decide +kernel
theorem bR_house : lawB 131 26 0 912 913 914 62 915 = true := by decide +kernel
set_option maxRecDepth 20000 in
theorem law_house {i : Nat} {g h : RG} {tr : Int64} {ls : Array Slot} (C : LC p s m meth c b L xs D cI cZ cC cN bl bh) (hi : i + 4 ≤ L) (hl : lv_has ls 4 [(0, .ref b), (1, .ref s.heap.size), (2, .ref (s.heap.size + 95)), (3, .int (nI i))]) (I : INVP s D cI cZ cC cN bl bh ρ1 (wC g tr) (wR h tr) H locs) (hR : RL g h)
    (K : ∀ (ρ : Nat → Nat) (g' h' : RG) (tr' : Int64) (H1 : Heap) (locs1 : List Loc), INVP s D cI cZ cC cN bl bh ρ (wC g' tr') (wR h' tr') H1 locs1 → RL g' h' → W p l e room_1 s m #[Value.ref b] below meth c H1 locs1 111 1429 Q (F0 m 960 ls [])) : W p l e room_1 s m #[Value.ref b] below meth c H locs 111 1429 Q (F0 m 204 ls []) := by
  obtain ⟨⟨hx, hb, hr, hml, hown, hts, hX, hbl, hlocks, hgv⟩, hL, hK, hNW, hao, hST⟩ := id C
  have hbA : ¬ s.heap.size ≤ b := by omega
  rcases k_house 10 11 tr hR with ⟨r, g', h', tr', e1, e2, hR'⟩ | ⟨r, g', h', tr', e1, e2, hR'⟩
  · obtain ⟨v, rfl⟩ := e1.int rfl
    refine lv_aload_n hx hb (dl_1 (j := 6) rfl) rfl (lv_at hl 1 rfl) ?_
    refine lw_callC (as := []) (rest := []) C I (by decide) bC_house (dl_1 (j := 7) rfl) (dd := 16) (by decide) e1 rfl rfl rfl rfl rfl rfl (Nat.le_of_ble_eq_true rfl) (Nat.le_of_ble_eq_true rfl) hl.1 (Nat.le_of_ble_eq_true rfl) (fun H1 locs1 I1 => ?_)
    refine lv_aload_n hx hb (dl_1 (j := 8) rfl) rfl (lv_at hl 2 rfl) ?_
    refine lw_callR (as := []) (rest := [.int v]) C I1 (by decide) bR_house (dl_1 (j := 9) rfl) (dd := 16) (by decide) e2 rfl rfl rfl rfl rfl rfl (Nat.le_of_ble_eq_true rfl) (Nat.le_of_ble_eq_true rfl) hl.1 (Nat.le_of_ble_eq_true rfl) (fun H2 locs2 I2 => ?_)
    exact lv_icmp_eq (tgt := 960) hx hb (dl_1 (j := 10) rfl) (by decide) (fun _ => K _ _ _ _ _ _ I2 hR') (fun h => absurd rfl h)
  · obtain ⟨v, rfl⟩ := e1.int rfl
    refine lv_aload_n hx hb (dl_1 (j := 6) rfl) rfl (lv_at hl 1 rfl) ?_
    refine lw_callC (as := []) (rest := []) C I (by decide) bC_house (dl_1 (j := 7) rfl) (dd := 16) (by decide) e1 rfl rfl rfl rfl rfl rfl (Nat.le_of_ble_eq_true rfl) (Nat.le_of_ble_eq_true rfl) hl.1 (Nat.le_of_ble_eq_true rfl) (fun H1 locs1 I1 => ?_)
    refine lv_aload_n hx hb (dl_1 (j := 8) rfl) rfl (lv_at hl 2 rfl) ?_
    refine lw_callR (as := []) (rest := [.int v]) C I1 (by decide) bR_house (dl_1 (j := 9) rfl) (dd := 16) (by decide) e2 rfl rfl rfl rfl rfl rfl (Nat.le_of_ble_eq_true rfl) (Nat.le_of_ble_eq_true rfl) hl.1 (Nat.le_of_ble_eq_true rfl) (fun H2 locs2 I2 => ?_)
    exact lv_icmp_eq (tgt := 960) hx hb (dl_1 (j := 10) rfl) (by decide) (fun _ => K (fun x => ρ1 (piX x)) _ _ _ _ _ ⟨perm_P I2.1, I2.2.1, rho_pi I2.2.2.1, I2.2.2.2.1, I2.2.2.2.2⟩ hR') (fun h => absurd rfl h)
theorem bC_use : lawB 77 27 2 461 462 463 53 464 = true := by decide +kernel
theorem bR_use : lawB 139 31 2 948 949 950 62 951 = true := by decide +kernel
set_option maxRecDepth 20000 in
theorem law_use {i : Nat} {g h : RG} {tr : Int64} {ls : Array Slot} (C : LC p s m meth c b L xs D cI cZ cC cN bl bh) (hi : i + 4 ≤ L) (hl : lv_has ls 4 [(0, .ref b), (1, .ref s.heap.size), (2, .ref (s.heap.size + 95)), (3, .int (nI i))]) (I : INVP s D cI cZ cC cN bl bh ρ1 (wC g tr) (wR h tr) H locs) (hR : RL g h)
    (K : ∀ (ρ : Nat → Nat) (g' h' : RG) (tr' : Int64) (H1 : Heap) (locs1 : List Loc), INVP s D cI cZ cC cN bl bh ρ (wC g' tr') (wR h' tr') H1 locs1 → RL g' h' → W p l e room_1 s m #[Value.ref b] below meth c H1 locs1 111 1429 Q (F0 m 960 ls [])) : W p l e room_1 s m #[Value.ref b] below meth c H locs 111 1429 Q (F0 m 217 ls []) := by
  obtain ⟨⟨hx, hb, hr, hml, hown, hts, hX, hbl, hlocks, hgv⟩, hL, hK, hNW, hao, hST⟩ := id C
  have hbA : ¬ s.heap.size ≤ b := by omega
  obtain ⟨r, g', h', tr', e1, e2, hR'⟩ := k_use tr hR (xs (i + 1)) (xs (i + 2))
  obtain ⟨v, rfl⟩ := e1.int rfl
  refine lv_aload_n hx hb (dl_1 (j := 13) rfl) rfl (lv_at hl 1 rfl) ?_
  refine lw_arg (A := fun q => s.heap.size ≤ q) (aN := 1) hx hb hX hbl hbA I.2.2.2.1 hL (dl_1 (j := 14) rfl) (dl_1 (j := 15) rfl) (dl_1 (j := 16) rfl) (dl_1 (j := 17) rfl) (dl_1 (j := 18) rfl) rfl (by omega) hl ?_
  refine lw_arg (A := fun q => s.heap.size ≤ q) (aN := 2) hx hb hX hbl hbA I.2.2.2.1 hL (dl_1 (j := 19) rfl) (dl_1 (j := 20) rfl) (dl_1 (j := 21) rfl) (dl_1 (j := 22) rfl) (dl_1 (j := 23) rfl) rfl (by omega) hl ?_
  refine lw_callC (as := [.int (xs (i + 1)), .int (xs (i + 2))]) (rest := []) C I (by decide) bC_use (dl_1 (j := 24) rfl) (dd := 16) (by decide) e1 rfl rfl rfl rfl rfl rfl (Nat.le_of_ble_eq_true rfl) (Nat.le_of_ble_eq_true rfl) hl.1 (Nat.le_of_ble_eq_true rfl) (fun H1 locs1 I1 => ?_)
  refine lv_aload_n hx hb (dl_1 (j := 25) rfl) rfl (lv_at hl 2 rfl) ?_
  refine lw_arg (A := fun q => s.heap.size ≤ q) (aN := 1) hx hb hX hbl hbA I1.2.2.2.1 hL (dl_1 (j := 26) rfl) (dl_1 (j := 27) rfl) (dl_1 (j := 28) rfl) (dl_1 (j := 29) rfl) (dl_1 (j := 30) rfl) rfl (by omega) hl ?_
  refine lw_arg (A := fun q => s.heap.size ≤ q) (aN := 2) hx hb hX hbl hbA I1.2.2.2.1 hL (dl_1 (j := 31) rfl) (dl_1 (j := 32) rfl) (dl_1 (j := 33) rfl) (dl_1 (j := 34) rfl) (dl_1 (j := 35) rfl) rfl (by omega) hl ?_
  refine lw_callR (as := [.int (xs (i + 1)), .int (xs (i + 2))]) (rest := [.int v]) C I1 (by decide) bR_use (dl_1 (j := 36) rfl) (dd := 16) (by decide) e2 rfl rfl rfl rfl rfl rfl (Nat.le_of_ble_eq_true rfl) (Nat.le_of_ble_eq_true rfl) hl.1 (Nat.le_of_ble_eq_true rfl) (fun H2 locs2 I2 => ?_)
  exact lv_icmp_eq (tgt := 960) hx hb (dl_1 (j := 37) rfl) (by decide) (fun _ => K _ _ _ _ _ _ I2 hR') (fun h => absurd rfl h)
theorem bC_thing : lawB 78 32 2 468 469 470 53 471 = true := by decide +kernel
theorem bR_thing : lawB 140 35 2 952 953 954 62 955 = true := by decide +kernel
set_option maxRecDepth 20000 in
theorem law_thing {i : Nat} {g h : RG} {tr : Int64} {ls : Array Slot} (C : LC p s m meth c b L xs D cI cZ cC cN bl bh) (hi : i + 4 ≤ L) (hl : lv_has ls 4 [(0, .ref b), (1, .ref s.heap.size), (2, .ref (s.heap.size + 95)), (3, .int (nI i))]) (I : INVP s D cI cZ cC cN bl bh ρ1 (wC g tr) (wR h tr) H locs) (hR : RL g h)
    (K : ∀ (ρ : Nat → Nat) (g' h' : RG) (tr' : Int64) (H1 : Heap) (locs1 : List Loc), INVP s D cI cZ cC cN bl bh ρ (wC g' tr') (wR h' tr') H1 locs1 → RL g' h' → W p l e room_1 s m #[Value.ref b] below meth c H1 locs1 111 1429 Q (F0 m 960 ls [])) : W p l e room_1 s m #[Value.ref b] below meth c H locs 111 1429 Q (F0 m 250 ls []) := by
  obtain ⟨⟨hx, hb, hr, hml, hown, hts, hX, hbl, hlocks, hgv⟩, hL, hK, hNW, hao, hST⟩ := id C
  have hbA : ¬ s.heap.size ≤ b := by omega
  obtain ⟨r, g', h', tr', e1, e2, hR'⟩ := k_thing tr hR (xs (i + 1)) (xs (i + 2))
  obtain ⟨v, rfl⟩ := e1.int rfl
  refine lv_aload_n hx hb (dl_2 (j := 0) rfl) rfl (lv_at hl 1 rfl) ?_
  refine lw_arg (A := fun q => s.heap.size ≤ q) (aN := 1) hx hb hX hbl hbA I.2.2.2.1 hL (dl_2 (j := 1) rfl) (dl_2 (j := 2) rfl) (dl_2 (j := 3) rfl) (dl_2 (j := 4) rfl) (dl_2 (j := 5) rfl) rfl (by omega) hl ?_
  refine lw_arg (A := fun q => s.heap.size ≤ q) (aN := 2) hx hb hX hbl hbA I.2.2.2.1 hL (dl_2 (j := 6) rfl) (dl_2 (j := 7) rfl) (dl_2 (j := 8) rfl) (dl_2 (j := 9) rfl) (dl_2 (j := 10) rfl) rfl (by omega) hl ?_
  refine lw_callC (as := [.int (xs (i + 1)), .int (xs (i + 2))]) (rest := []) C I (by decide) bC_thing (dl_2 (j := 11) rfl) (dd := 16) (by decide) e1 rfl rfl rfl rfl rfl rfl (Nat.le_of_ble_eq_true rfl) (Nat.le_of_ble_eq_true rfl) hl.1 (Nat.le_of_ble_eq_true rfl) (fun H1 locs1 I1 => ?_)
  refine lv_aload_n hx hb (dl_2 (j := 12) rfl) rfl (lv_at hl 2 rfl) ?_
  refine lw_arg (A := fun q => s.heap.size ≤ q) (aN := 1) hx hb hX hbl hbA I1.2.2.2.1 hL (dl_2 (j := 13) rfl) (dl_2 (j := 14) rfl) (dl_2 (j := 15) rfl) (dl_2 (j := 16) rfl) (dl_2 (j := 17) rfl) rfl (by omega) hl ?_
  refine lw_arg (A := fun q => s.heap.size ≤ q) (aN := 2) hx hb hX hbl hbA I1.2.2.2.1 hL (dl_2 (j := 18) rfl) (dl_2 (j := 19) rfl) (dl_2 (j := 20) rfl) (dl_2 (j := 21) rfl) (dl_2 (j := 22) rfl) rfl (by omega) hl ?_
  refine lw_callR (as := [.int (xs (i + 1)), .int (xs (i + 2))]) (rest := [.int v]) C I1 (by decide) bR_thing (dl_2 (j := 23) rfl) (dd := 16) (by decide) e2 rfl rfl rfl rfl rfl rfl (Nat.le_of_ble_eq_true rfl) (Nat.le_of_ble_eq_true rfl) hl.1 (Nat.le_of_ble_eq_true rfl) (fun H2 locs2 I2 => ?_)
  exact lv_icmp_eq (tgt := 960) hx hb (dl_2 (j := 24) rfl) (by decide) (fun _ => K _ _ _ _ _ _ I2 hR') (fun h => absurd rfl h)
theorem bC_person : lawB 79 36 2 488 489 490 53 491 = true := by decide +kernel
theorem bR_person : lawB 143 39 2 976 977 978 62 979 = true := by decide +kernel
set_option maxRecDepth 20000 in
theorem law_person {i : Nat} {g h : RG} {tr : Int64} {ls : Array Slot} (C : LC p s m meth c b L xs D cI cZ cC cN bl bh) (hi : i + 4 ≤ L) (hl : lv_has ls 4 [(0, .ref b), (1, .ref s.heap.size), (2, .ref (s.heap.size + 95)), (3, .int (nI i))]) (I : INVP s D cI cZ cC cN bl bh ρ1 (wC g tr) (wR h tr) H locs) (hR : RL g h)
    (K : ∀ (ρ : Nat → Nat) (g' h' : RG) (tr' : Int64) (H1 : Heap) (locs1 : List Loc), INVP s D cI cZ cC cN bl bh ρ (wC g' tr') (wR h' tr') H1 locs1 → RL g' h' → W p l e room_1 s m #[Value.ref b] below meth c H1 locs1 111 1429 Q (F0 m 960 ls [])) : W p l e room_1 s m #[Value.ref b] below meth c H locs 111 1429 Q (F0 m 283 ls []) := by
  obtain ⟨⟨hx, hb, hr, hml, hown, hts, hX, hbl, hlocks, hgv⟩, hL, hK, hNW, hao, hST⟩ := id C
  have hbA : ¬ s.heap.size ≤ b := by omega
  obtain ⟨r, g', h', tr', e1, e2, hR'⟩ := k_person tr hR (xs (i + 1)) (xs (i + 2))
  obtain ⟨v, rfl⟩ := e1.int rfl
  refine lv_aload_n hx hb (dl_2 (j := 27) rfl) rfl (lv_at hl 1 rfl) ?_
  refine lw_arg (A := fun q => s.heap.size ≤ q) (aN := 1) hx hb hX hbl hbA I.2.2.2.1 hL (dl_2 (j := 28) rfl) (dl_2 (j := 29) rfl) (dl_2 (j := 30) rfl) (dl_2 (j := 31) rfl) (dl_2 (j := 32) rfl) rfl (by omega) hl ?_
  refine lw_arg (A := fun q => s.heap.size ≤ q) (aN := 2) hx hb hX hbl hbA I.2.2.2.1 hL (dl_2 (j := 33) rfl) (dl_2 (j := 34) rfl) (dl_2 (j := 35) rfl) (dl_2 (j := 36) rfl) (dl_2 (j := 37) rfl) rfl (by omega) hl ?_
  refine lw_callC (as := [.int (xs (i + 1)), .int (xs (i + 2))]) (rest := []) C I (by decide) bC_person (dl_2 (j := 38) rfl) (dd := 16) (by decide) e1 rfl rfl rfl rfl rfl rfl (Nat.le_of_ble_eq_true rfl) (Nat.le_of_ble_eq_true rfl) hl.1 (Nat.le_of_ble_eq_true rfl) (fun H1 locs1 I1 => ?_)
  refine lv_aload_n hx hb (dl_2 (j := 39) rfl) rfl (lv_at hl 2 rfl) ?_
  refine lw_arg (A := fun q => s.heap.size ≤ q) (aN := 1) hx hb hX hbl hbA I1.2.2.2.1 hL (dl_3 (j := 0) rfl) (dl_3 (j := 1) rfl) (dl_3 (j := 2) rfl) (dl_3 (j := 3) rfl) (dl_3 (j := 4) rfl) rfl (by omega) hl ?_
  refine lw_arg (A := fun q => s.heap.size ≤ q) (aN := 2) hx hb hX hbl hbA I1.2.2.2.1 hL (dl_3 (j := 5) rfl) (dl_3 (j := 6) rfl) (dl_3 (j := 7) rfl) (dl_3 (j := 8) rfl) (dl_3 (j := 9) rfl) rfl (by omega) hl ?_
  refine lw_callR (as := [.int (xs (i + 1)), .int (xs (i + 2))]) (rest := [.int v]) C I1 (by decide) bR_person (dl_3 (j := 10) rfl) (dd := 16) (by decide) e2 rfl rfl rfl rfl rfl rfl (Nat.le_of_ble_eq_true rfl) (Nat.le_of_ble_eq_true rfl) hl.1 (Nat.le_of_ble_eq_true rfl) (fun H2 locs2 I2 => ?_)
  exact lv_icmp_eq (tgt := 960) hx hb (dl_3 (j := 11) rfl) (by decide) (fun _ => K _ _ _ _ _ _ I2 hR') (fun h => absurd rfl h)
theorem bC_door : lawB 80 40 2 504 505 506 53 507 = true := by decide +kernel
theorem bR_door : lawB 144 43 2 992 993 994 62 995 = true := by decide +kernel
set_option maxRecDepth 20000 in
theorem law_door {i : Nat} {g h : RG} {tr : Int64} {ls : Array Slot} (C : LC p s m meth c b L xs D cI cZ cC cN bl bh) (hi : i + 4 ≤ L) (hl : lv_has ls 4 [(0, .ref b), (1, .ref s.heap.size), (2, .ref (s.heap.size + 95)), (3, .int (nI i))]) (I : INVP s D cI cZ cC cN bl bh ρ1 (wC g tr) (wR h tr) H locs) (hR : RL g h)
    (K : ∀ (ρ : Nat → Nat) (g' h' : RG) (tr' : Int64) (H1 : Heap) (locs1 : List Loc), INVP s D cI cZ cC cN bl bh ρ (wC g' tr') (wR h' tr') H1 locs1 → RL g' h' → W p l e room_1 s m #[Value.ref b] below meth c H1 locs1 111 1429 Q (F0 m 960 ls [])) : W p l e room_1 s m #[Value.ref b] below meth c H locs 111 1429 Q (F0 m 316 ls []) := by
  obtain ⟨⟨hx, hb, hr, hml, hown, hts, hX, hbl, hlocks, hgv⟩, hL, hK, hNW, hao, hST⟩ := id C
  have hbA : ¬ s.heap.size ≤ b := by omega
  obtain ⟨r, g', h', tr', e1, e2, hR'⟩ := k_door tr hR (xs (i + 1)) (xs (i + 2))
  obtain ⟨v, rfl⟩ := e1.int rfl
  refine lv_aload_n hx hb (dl_3 (j := 14) rfl) rfl (lv_at hl 1 rfl) ?_
  refine lw_arg (A := fun q => s.heap.size ≤ q) (aN := 1) hx hb hX hbl hbA I.2.2.2.1 hL (dl_3 (j := 15) rfl) (dl_3 (j := 16) rfl) (dl_3 (j := 17) rfl) (dl_3 (j := 18) rfl) (dl_3 (j := 19) rfl) rfl (by omega) hl ?_
  refine lw_arg (A := fun q => s.heap.size ≤ q) (aN := 2) hx hb hX hbl hbA I.2.2.2.1 hL (dl_3 (j := 20) rfl) (dl_3 (j := 21) rfl) (dl_3 (j := 22) rfl) (dl_3 (j := 23) rfl) (dl_3 (j := 24) rfl) rfl (by omega) hl ?_
  refine lw_callC (as := [.int (xs (i + 1)), .int (xs (i + 2))]) (rest := []) C I (by decide) bC_door (dl_3 (j := 25) rfl) (dd := 16) (by decide) e1 rfl rfl rfl rfl rfl rfl (Nat.le_of_ble_eq_true rfl) (Nat.le_of_ble_eq_true rfl) hl.1 (Nat.le_of_ble_eq_true rfl) (fun H1 locs1 I1 => ?_)
  refine lv_aload_n hx hb (dl_3 (j := 26) rfl) rfl (lv_at hl 2 rfl) ?_
  refine lw_arg (A := fun q => s.heap.size ≤ q) (aN := 1) hx hb hX hbl hbA I1.2.2.2.1 hL (dl_3 (j := 27) rfl) (dl_3 (j := 28) rfl) (dl_3 (j := 29) rfl) (dl_3 (j := 30) rfl) (dl_3 (j := 31) rfl) rfl (by omega) hl ?_
  refine lw_arg (A := fun q => s.heap.size ≤ q) (aN := 2) hx hb hX hbl hbA I1.2.2.2.1 hL (dl_3 (j := 32) rfl) (dl_3 (j := 33) rfl) (dl_3 (j := 34) rfl) (dl_3 (j := 35) rfl) (dl_3 (j := 36) rfl) rfl (by omega) hl ?_
  refine lw_callR (as := [.int (xs (i + 1)), .int (xs (i + 2))]) (rest := [.int v]) C I1 (by decide) bR_door (dl_3 (j := 37) rfl) (dd := 16) (by decide) e2 rfl rfl rfl rfl rfl rfl (Nat.le_of_ble_eq_true rfl) (Nat.le_of_ble_eq_true rfl) hl.1 (Nat.le_of_ble_eq_true rfl) (fun H2 locs2 I2 => ?_)
  exact lv_icmp_eq (tgt := 960) hx hb (dl_3 (j := 38) rfl) (by decide) (fun _ => K _ _ _ _ _ _ I2 hR') (fun h => absurd rfl h)
theorem bC_now : lawB 81 44 1 508 509 510 53 511 = true := by decide +kernel
theorem bR_now : lawB 148 47 1 996 997 998 62 999 = true := by decide +kernel
set_option maxRecDepth 20000 in
theorem law_now {i : Nat} {g h : RG} {tr : Int64} {ls : Array Slot} (C : LC p s m meth c b L xs D cI cZ cC cN bl bh) (hi : i + 4 ≤ L) (hl : lv_has ls 4 [(0, .ref b), (1, .ref s.heap.size), (2, .ref (s.heap.size + 95)), (3, .int (nI i))]) (I : INVP s D cI cZ cC cN bl bh ρ1 (wC g tr) (wR h tr) H locs) (hR : RL g h)
    (K : ∀ (ρ : Nat → Nat) (g' h' : RG) (tr' : Int64) (H1 : Heap) (locs1 : List Loc), INVP s D cI cZ cC cN bl bh ρ (wC g' tr') (wR h' tr') H1 locs1 → RL g' h' → W p l e room_1 s m #[Value.ref b] below meth c H1 locs1 111 1429 Q (F0 m 960 ls [])) : W p l e room_1 s m #[Value.ref b] below meth c H locs 111 1429 Q (F0 m 349 ls []) := by
  obtain ⟨⟨hx, hb, hr, hml, hown, hts, hX, hbl, hlocks, hgv⟩, hL, hK, hNW, hao, hST⟩ := id C
  have hbA : ¬ s.heap.size ≤ b := by omega
  obtain ⟨r, g', h', tr', e1, e2, hR'⟩ := k_now tr hR (xs (i + 1))
  obtain ⟨v, rfl⟩ := e1.int rfl
  refine lv_aload_n hx hb (dl_4 (j := 1) rfl) rfl (lv_at hl 1 rfl) ?_
  refine lw_arg (A := fun q => s.heap.size ≤ q) (aN := 1) hx hb hX hbl hbA I.2.2.2.1 hL (dl_4 (j := 2) rfl) (dl_4 (j := 3) rfl) (dl_4 (j := 4) rfl) (dl_4 (j := 5) rfl) (dl_4 (j := 6) rfl) rfl (by omega) hl ?_
  refine lw_callC (as := [.int (xs (i + 1))]) (rest := []) C I (by decide) bC_now (dl_4 (j := 7) rfl) (dd := 16) (by decide) e1 rfl rfl rfl rfl rfl rfl (Nat.le_of_ble_eq_true rfl) (Nat.le_of_ble_eq_true rfl) hl.1 (Nat.le_of_ble_eq_true rfl) (fun H1 locs1 I1 => ?_)
  refine lv_aload_n hx hb (dl_4 (j := 8) rfl) rfl (lv_at hl 2 rfl) ?_
  refine lw_arg (A := fun q => s.heap.size ≤ q) (aN := 1) hx hb hX hbl hbA I1.2.2.2.1 hL (dl_4 (j := 9) rfl) (dl_4 (j := 10) rfl) (dl_4 (j := 11) rfl) (dl_4 (j := 12) rfl) (dl_4 (j := 13) rfl) rfl (by omega) hl ?_
  refine lw_callR (as := [.int (xs (i + 1))]) (rest := [.int v]) C I1 (by decide) bR_now (dl_4 (j := 14) rfl) (dd := 16) (by decide) e2 rfl rfl rfl rfl rfl rfl (Nat.le_of_ble_eq_true rfl) (Nat.le_of_ble_eq_true rfl) hl.1 (Nat.le_of_ble_eq_true rfl) (fun H2 locs2 I2 => ?_)
  exact lv_icmp_eq (tgt := 960) hx hb (dl_4 (j := 15) rfl) (by decide) (fun _ => K _ _ _ _ _ _ I2 hR') (fun h => absurd rfl h)
theorem bC_lays : lawB 82 48 2 529 530 531 53 532 = true := by decide +kernel
theorem bR_lays : lawB 151 51 2 1012 1013 1014 62 1015 = true := by decide +kernel
set_option maxRecDepth 20000 in
theorem law_lays {i : Nat} {g h : RG} {tr : Int64} {ls : Array Slot} (C : LC p s m meth c b L xs D cI cZ cC cN bl bh) (hi : i + 4 ≤ L) (hl : lv_has ls 4 [(0, .ref b), (1, .ref s.heap.size), (2, .ref (s.heap.size + 95)), (3, .int (nI i))]) (I : INVP s D cI cZ cC cN bl bh ρ1 (wC g tr) (wR h tr) H locs) (hR : RL g h)
    (K : ∀ (ρ : Nat → Nat) (g' h' : RG) (tr' : Int64) (H1 : Heap) (locs1 : List Loc), INVP s D cI cZ cC cN bl bh ρ (wC g' tr') (wR h' tr') H1 locs1 → RL g' h' → W p l e room_1 s m #[Value.ref b] below meth c H1 locs1 111 1429 Q (F0 m 960 ls [])) : W p l e room_1 s m #[Value.ref b] below meth c H locs 111 1429 Q (F0 m 372 ls []) := by
  obtain ⟨⟨hx, hb, hr, hml, hown, hts, hX, hbl, hlocks, hgv⟩, hL, hK, hNW, hao, hST⟩ := id C
  have hbA : ¬ s.heap.size ≤ b := by omega
  obtain ⟨r, g', h', tr', e1, e2, hR'⟩ := k_lays tr hR (xs (i + 1)) (xs (i + 2))
  obtain ⟨v, rfl⟩ := e1.int rfl
  refine lv_aload_n hx hb (dl_4 (j := 18) rfl) rfl (lv_at hl 1 rfl) ?_
  refine lw_arg (A := fun q => s.heap.size ≤ q) (aN := 1) hx hb hX hbl hbA I.2.2.2.1 hL (dl_4 (j := 19) rfl) (dl_4 (j := 20) rfl) (dl_4 (j := 21) rfl) (dl_4 (j := 22) rfl) (dl_4 (j := 23) rfl) rfl (by omega) hl ?_
  refine lw_arg (A := fun q => s.heap.size ≤ q) (aN := 2) hx hb hX hbl hbA I.2.2.2.1 hL (dl_4 (j := 24) rfl) (dl_4 (j := 25) rfl) (dl_4 (j := 26) rfl) (dl_4 (j := 27) rfl) (dl_4 (j := 28) rfl) rfl (by omega) hl ?_
  refine lw_callC (as := [.int (xs (i + 1)), .int (xs (i + 2))]) (rest := []) C I (by decide) bC_lays (dl_4 (j := 29) rfl) (dd := 16) (by decide) e1 rfl rfl rfl rfl rfl rfl (Nat.le_of_ble_eq_true rfl) (Nat.le_of_ble_eq_true rfl) hl.1 (Nat.le_of_ble_eq_true rfl) (fun H1 locs1 I1 => ?_)
  refine lv_aload_n hx hb (dl_4 (j := 30) rfl) rfl (lv_at hl 2 rfl) ?_
  refine lw_arg (A := fun q => s.heap.size ≤ q) (aN := 1) hx hb hX hbl hbA I1.2.2.2.1 hL (dl_4 (j := 31) rfl) (dl_4 (j := 32) rfl) (dl_4 (j := 33) rfl) (dl_4 (j := 34) rfl) (dl_4 (j := 35) rfl) rfl (by omega) hl ?_
  refine lw_arg (A := fun q => s.heap.size ≤ q) (aN := 2) hx hb hX hbl hbA I1.2.2.2.1 hL (dl_4 (j := 36) rfl) (dl_4 (j := 37) rfl) (dl_4 (j := 38) rfl) (dl_4 (j := 39) rfl) (dl_5 (j := 0) rfl) rfl (by omega) hl ?_
  refine lw_callR (as := [.int (xs (i + 1)), .int (xs (i + 2))]) (rest := [.int v]) C I1 (by decide) bR_lays (dl_5 (j := 1) rfl) (dd := 16) (by decide) e2 rfl rfl rfl rfl rfl rfl (Nat.le_of_ble_eq_true rfl) (Nat.le_of_ble_eq_true rfl) hl.1 (Nat.le_of_ble_eq_true rfl) (fun H2 locs2 I2 => ?_)
  exact lv_icmp_eq (tgt := 960) hx hb (dl_5 (j := 2) rfl) (by decide) (fun _ => K _ _ _ _ _ _ I2 hR') (fun h => absurd rfl h)
theorem bC_takes : lawB 83 52 1 555 556 557 53 558 = true := by decide +kernel
theorem bR_takes : lawB 152 55 1 1027 1028 1029 62 1030 = true := by decide +kernel
set_option maxRecDepth 20000 in
theorem law_takes {i : Nat} {g h : RG} {tr : Int64} {ls : Array Slot} (C : LC p s m meth c b L xs D cI cZ cC cN bl bh) (hi : i + 4 ≤ L) (hl : lv_has ls 4 [(0, .ref b), (1, .ref s.heap.size), (2, .ref (s.heap.size + 95)), (3, .int (nI i))]) (I : INVP s D cI cZ cC cN bl bh ρ1 (wC g tr) (wR h tr) H locs) (hR : RL g h)
    (K : ∀ (ρ : Nat → Nat) (g' h' : RG) (tr' : Int64) (H1 : Heap) (locs1 : List Loc), INVP s D cI cZ cC cN bl bh ρ (wC g' tr') (wR h' tr') H1 locs1 → RL g' h' → W p l e room_1 s m #[Value.ref b] below meth c H1 locs1 111 1429 Q (F0 m 960 ls [])) : W p l e room_1 s m #[Value.ref b] below meth c H locs 111 1429 Q (F0 m 405 ls []) := by
  obtain ⟨⟨hx, hb, hr, hml, hown, hts, hX, hbl, hlocks, hgv⟩, hL, hK, hNW, hao, hST⟩ := id C
  have hbA : ¬ s.heap.size ≤ b := by omega
  obtain ⟨r, g', h', tr', e1, e2, hR'⟩ := k_takes tr hR (xs (i + 1))
  obtain ⟨v, rfl⟩ := e1.int rfl
  refine lv_aload_n hx hb (dl_5 (j := 5) rfl) rfl (lv_at hl 1 rfl) ?_
  refine lw_arg (A := fun q => s.heap.size ≤ q) (aN := 1) hx hb hX hbl hbA I.2.2.2.1 hL (dl_5 (j := 6) rfl) (dl_5 (j := 7) rfl) (dl_5 (j := 8) rfl) (dl_5 (j := 9) rfl) (dl_5 (j := 10) rfl) rfl (by omega) hl ?_
  refine lw_callC (as := [.int (xs (i + 1))]) (rest := []) C I (by decide) bC_takes (dl_5 (j := 11) rfl) (dd := 16) (by decide) e1 rfl rfl rfl rfl rfl rfl (Nat.le_of_ble_eq_true rfl) (Nat.le_of_ble_eq_true rfl) hl.1 (Nat.le_of_ble_eq_true rfl) (fun H1 locs1 I1 => ?_)
  refine lv_aload_n hx hb (dl_5 (j := 12) rfl) rfl (lv_at hl 2 rfl) ?_
  refine lw_arg (A := fun q => s.heap.size ≤ q) (aN := 1) hx hb hX hbl hbA I1.2.2.2.1 hL (dl_5 (j := 13) rfl) (dl_5 (j := 14) rfl) (dl_5 (j := 15) rfl) (dl_5 (j := 16) rfl) (dl_5 (j := 17) rfl) rfl (by omega) hl ?_
  refine lw_callR (as := [.int (xs (i + 1))]) (rest := [.int v]) C I1 (by decide) bR_takes (dl_5 (j := 18) rfl) (dd := 16) (by decide) e2 rfl rfl rfl rfl rfl rfl (Nat.le_of_ble_eq_true rfl) (Nat.le_of_ble_eq_true rfl) hl.1 (Nat.le_of_ble_eq_true rfl) (fun H2 locs2 I2 => ?_)
  exact lv_icmp_eq (tgt := 960) hx hb (dl_5 (j := 19) rfl) (by decide) (fun _ => K _ _ _ _ _ _ I2 hR') (fun h => absurd rfl h)
theorem bC_rescales : lawB 84 56 3 559 560 561 53 562 = true := by decide +kernel
theorem bR_rescales : lawB 153 60 3 1031 1032 1033 62 1034 = true := by decide +kernel
set_option maxRecDepth 20000 in
theorem law_rescales {i : Nat} {g h : RG} {tr : Int64} {ls : Array Slot} (C : LC p s m meth c b L xs D cI cZ cC cN bl bh) (hi : i + 4 ≤ L) (hl : lv_has ls 4 [(0, .ref b), (1, .ref s.heap.size), (2, .ref (s.heap.size + 95)), (3, .int (nI i))]) (I : INVP s D cI cZ cC cN bl bh ρ1 (wC g tr) (wR h tr) H locs) (hR : RL g h)
    (K : ∀ (ρ : Nat → Nat) (g' h' : RG) (tr' : Int64) (H1 : Heap) (locs1 : List Loc), INVP s D cI cZ cC cN bl bh ρ (wC g' tr') (wR h' tr') H1 locs1 → RL g' h' → W p l e room_1 s m #[Value.ref b] below meth c H1 locs1 111 1429 Q (F0 m 960 ls [])) : W p l e room_1 s m #[Value.ref b] below meth c H locs 111 1429 Q (F0 m 428 ls []) := by
  obtain ⟨⟨hx, hb, hr, hml, hown, hts, hX, hbl, hlocks, hgv⟩, hL, hK, hNW, hao, hST⟩ := id C
  have hbA : ¬ s.heap.size ≤ b := by omega
  obtain ⟨r, g', h', tr', e1, e2, hR'⟩ := k_rescales tr hR (xs (i + 1)) (xs (i + 2)) (xs (i + 3))
  obtain ⟨v, rfl⟩ := e1.int rfl
  refine lv_aload_n hx hb (dl_5 (j := 22) rfl) rfl (lv_at hl 1 rfl) ?_
  refine lw_arg (A := fun q => s.heap.size ≤ q) (aN := 1) hx hb hX hbl hbA I.2.2.2.1 hL (dl_5 (j := 23) rfl) (dl_5 (j := 24) rfl) (dl_5 (j := 25) rfl) (dl_5 (j := 26) rfl) (dl_5 (j := 27) rfl) rfl (by omega) hl ?_
  refine lw_arg (A := fun q => s.heap.size ≤ q) (aN := 2) hx hb hX hbl hbA I.2.2.2.1 hL (dl_5 (j := 28) rfl) (dl_5 (j := 29) rfl) (dl_5 (j := 30) rfl) (dl_5 (j := 31) rfl) (dl_5 (j := 32) rfl) rfl (by omega) hl ?_
  refine lw_arg (A := fun q => s.heap.size ≤ q) (aN := 3) hx hb hX hbl hbA I.2.2.2.1 hL (dl_5 (j := 33) rfl) (dl_5 (j := 34) rfl) (dl_5 (j := 35) rfl) (dl_5 (j := 36) rfl) (dl_5 (j := 37) rfl) rfl (by omega) hl ?_
  refine lw_callC (as := [.int (xs (i + 1)), .int (xs (i + 2)), .int (xs (i + 3))]) (rest := []) C I (by decide) bC_rescales (dl_5 (j := 38) rfl) (dd := 16) (by decide) e1 rfl rfl rfl rfl rfl rfl (Nat.le_of_ble_eq_true rfl) (Nat.le_of_ble_eq_true rfl) hl.1 (Nat.le_of_ble_eq_true rfl) (fun H1 locs1 I1 => ?_)
  refine lv_aload_n hx hb (dl_5 (j := 39) rfl) rfl (lv_at hl 2 rfl) ?_
  refine lw_arg (A := fun q => s.heap.size ≤ q) (aN := 1) hx hb hX hbl hbA I1.2.2.2.1 hL (dl_6 (j := 0) rfl) (dl_6 (j := 1) rfl) (dl_6 (j := 2) rfl) (dl_6 (j := 3) rfl) (dl_6 (j := 4) rfl) rfl (by omega) hl ?_
  refine lw_arg (A := fun q => s.heap.size ≤ q) (aN := 2) hx hb hX hbl hbA I1.2.2.2.1 hL (dl_6 (j := 5) rfl) (dl_6 (j := 6) rfl) (dl_6 (j := 7) rfl) (dl_6 (j := 8) rfl) (dl_6 (j := 9) rfl) rfl (by omega) hl ?_
  refine lw_arg (A := fun q => s.heap.size ≤ q) (aN := 3) hx hb hX hbl hbA I1.2.2.2.1 hL (dl_6 (j := 10) rfl) (dl_6 (j := 11) rfl) (dl_6 (j := 12) rfl) (dl_6 (j := 13) rfl) (dl_6 (j := 14) rfl) rfl (by omega) hl ?_
  refine lw_callR (as := [.int (xs (i + 1)), .int (xs (i + 2)), .int (xs (i + 3))]) (rest := [.int v]) C I1 (by decide) bR_rescales (dl_6 (j := 15) rfl) (dd := 16) (by decide) e2 rfl rfl rfl rfl rfl rfl (Nat.le_of_ble_eq_true rfl) (Nat.le_of_ble_eq_true rfl) hl.1 (Nat.le_of_ble_eq_true rfl) (fun H2 locs2 I2 => ?_)
  exact lv_icmp_eq (tgt := 960) hx hb (dl_6 (j := 16) rfl) (by decide) (fun _ => K _ _ _ _ _ _ I2 hR') (fun h => absurd rfl h)
theorem bC_undo : lawB 85 61 0 567 568 569 53 570 = true := by decide +kernel
theorem bR_undo : lawB 154 64 0 1035 1036 1037 62 1038 = true := by decide +kernel
set_option maxRecDepth 20000 in
theorem law_undo {i : Nat} {g h : RG} {tr : Int64} {ls : Array Slot} (C : LC p s m meth c b L xs D cI cZ cC cN bl bh) (hi : i + 4 ≤ L) (hl : lv_has ls 4 [(0, .ref b), (1, .ref s.heap.size), (2, .ref (s.heap.size + 95)), (3, .int (nI i))]) (I : INVP s D cI cZ cC cN bl bh ρ1 (wC g tr) (wR h tr) H locs) (hR : RL g h)
    (K : ∀ (ρ : Nat → Nat) (g' h' : RG) (tr' : Int64) (H1 : Heap) (locs1 : List Loc), INVP s D cI cZ cC cN bl bh ρ (wC g' tr') (wR h' tr') H1 locs1 → RL g' h' → W p l e room_1 s m #[Value.ref b] below meth c H1 locs1 111 1429 Q (F0 m 960 ls [])) : W p l e room_1 s m #[Value.ref b] below meth c H locs 111 1429 Q (F0 m 471 ls []) := by
  obtain ⟨⟨hx, hb, hr, hml, hown, hts, hX, hbl, hlocks, hgv⟩, hL, hK, hNW, hao, hST⟩ := id C
  have hbA : ¬ s.heap.size ≤ b := by omega
  obtain ⟨r, g', h', tr', e1, e2, hR'⟩ := k_undo tr hR 
  obtain ⟨v, rfl⟩ := e1.int rfl
  refine lv_aload_n hx hb (dl_6 (j := 19) rfl) rfl (lv_at hl 1 rfl) ?_
  refine lw_callC (as := []) (rest := []) C I (by decide) bC_undo (dl_6 (j := 20) rfl) (dd := 16) (by decide) e1 rfl rfl rfl rfl rfl rfl (Nat.le_of_ble_eq_true rfl) (Nat.le_of_ble_eq_true rfl) hl.1 (Nat.le_of_ble_eq_true rfl) (fun H1 locs1 I1 => ?_)
  refine lv_aload_n hx hb (dl_6 (j := 21) rfl) rfl (lv_at hl 2 rfl) ?_
  refine lw_callR (as := []) (rest := [.int v]) C I1 (by decide) bR_undo (dl_6 (j := 22) rfl) (dd := 16) (by decide) e2 rfl rfl rfl rfl rfl rfl (Nat.le_of_ble_eq_true rfl) (Nat.le_of_ble_eq_true rfl) hl.1 (Nat.le_of_ble_eq_true rfl) (fun H2 locs2 I2 => ?_)
  exact lv_icmp_eq (tgt := 960) hx hb (dl_6 (j := 23) rfl) (by decide) (fun _ => K _ _ _ _ _ _ I2 hR') (fun h => absurd rfl h)
theorem bC_housed : lawB 86 65 1 575 576 577 53 578 = true := by decide +kernel
theorem bR_housed : lawB 157 68 1 1039 1040 1041 62 1042 = true := by decide +kernel
set_option maxRecDepth 20000 in
theorem law_housed {i : Nat} {g h : RG} {tr : Int64} {ls : Array Slot} (C : LC p s m meth c b L xs D cI cZ cC cN bl bh) (hi : i + 4 ≤ L) (hl : lv_has ls 4 [(0, .ref b), (1, .ref s.heap.size), (2, .ref (s.heap.size + 95)), (3, .int (nI i))]) (I : INVP s D cI cZ cC cN bl bh ρ1 (wC g tr) (wR h tr) H locs) (hR : RL g h)
    (K : ∀ (ρ : Nat → Nat) (g' h' : RG) (tr' : Int64) (H1 : Heap) (locs1 : List Loc), INVP s D cI cZ cC cN bl bh ρ (wC g' tr') (wR h' tr') H1 locs1 → RL g' h' → W p l e room_1 s m #[Value.ref b] below meth c H1 locs1 111 1429 Q (F0 m 960 ls [])) : W p l e room_1 s m #[Value.ref b] below meth c H locs 111 1429 Q (F0 m 484 ls []) := by
  obtain ⟨⟨hx, hb, hr, hml, hown, hts, hX, hbl, hlocks, hgv⟩, hL, hK, hNW, hao, hST⟩ := id C
  have hbA : ¬ s.heap.size ≤ b := by omega
  obtain ⟨r, g', h', tr', e1, e2, hR'⟩ := k_housed tr hR (xs (i + 1))
  obtain ⟨v, rfl⟩ := e1.int rfl
  refine lv_aload_n hx hb (dl_6 (j := 26) rfl) rfl (lv_at hl 1 rfl) ?_
  refine lw_arg (A := fun q => s.heap.size ≤ q) (aN := 1) hx hb hX hbl hbA I.2.2.2.1 hL (dl_6 (j := 27) rfl) (dl_6 (j := 28) rfl) (dl_6 (j := 29) rfl) (dl_6 (j := 30) rfl) (dl_6 (j := 31) rfl) rfl (by omega) hl ?_
  refine lw_callC (as := [.int (xs (i + 1))]) (rest := []) C I (by decide) bC_housed (dl_6 (j := 32) rfl) (dd := 16) (by decide) e1 rfl rfl rfl rfl rfl rfl (Nat.le_of_ble_eq_true rfl) (Nat.le_of_ble_eq_true rfl) hl.1 (Nat.le_of_ble_eq_true rfl) (fun H1 locs1 I1 => ?_)
  refine lv_aload_n hx hb (dl_6 (j := 33) rfl) rfl (lv_at hl 2 rfl) ?_
  refine lw_arg (A := fun q => s.heap.size ≤ q) (aN := 1) hx hb hX hbl hbA I1.2.2.2.1 hL (dl_6 (j := 34) rfl) (dl_6 (j := 35) rfl) (dl_6 (j := 36) rfl) (dl_6 (j := 37) rfl) (dl_6 (j := 38) rfl) rfl (by omega) hl ?_
  refine lw_callR (as := [.int (xs (i + 1))]) (rest := [.int v]) C I1 (by decide) bR_housed (dl_6 (j := 39) rfl) (dd := 16) (by decide) e2 rfl rfl rfl rfl rfl rfl (Nat.le_of_ble_eq_true rfl) (Nat.le_of_ble_eq_true rfl) hl.1 (Nat.le_of_ble_eq_true rfl) (fun H2 locs2 I2 => ?_)
  exact lv_icmp_eq (tgt := 960) hx hb (dl_7 (j := 0) rfl) (by decide) (fun _ => K _ _ _ _ _ _ I2 hR') (fun h => absurd rfl h)
theorem bC_laying : lawB 87 69 2 595 596 597 53 598 = true := by decide +kernel
theorem bR_laying : lawB 158 72 2 1051 1052 1053 62 1054 = true := by decide +kernel
set_option maxRecDepth 20000 in
theorem law_laying {i : Nat} {g h : RG} {tr : Int64} {ls : Array Slot} (C : LC p s m meth c b L xs D cI cZ cC cN bl bh) (hi : i + 4 ≤ L) (hl : lv_has ls 4 [(0, .ref b), (1, .ref s.heap.size), (2, .ref (s.heap.size + 95)), (3, .int (nI i))]) (I : INVP s D cI cZ cC cN bl bh ρ1 (wC g tr) (wR h tr) H locs) (hR : RL g h)
    (K : ∀ (ρ : Nat → Nat) (g' h' : RG) (tr' : Int64) (H1 : Heap) (locs1 : List Loc), INVP s D cI cZ cC cN bl bh ρ (wC g' tr') (wR h' tr') H1 locs1 → RL g' h' → W p l e room_1 s m #[Value.ref b] below meth c H1 locs1 111 1429 Q (F0 m 960 ls [])) : W p l e room_1 s m #[Value.ref b] below meth c H locs 111 1429 Q (F0 m 507 ls []) := by
  obtain ⟨⟨hx, hb, hr, hml, hown, hts, hX, hbl, hlocks, hgv⟩, hL, hK, hNW, hao, hST⟩ := id C
  have hbA : ¬ s.heap.size ≤ b := by omega
  obtain ⟨r, g', h', tr', e1, e2, hR'⟩ := k_laying tr hR (xs (i + 1)) (xs (i + 2))
  obtain ⟨v, rfl⟩ := e1.int rfl
  refine lv_aload_n hx hb (dl_7 (j := 3) rfl) rfl (lv_at hl 1 rfl) ?_
  refine lw_arg (A := fun q => s.heap.size ≤ q) (aN := 1) hx hb hX hbl hbA I.2.2.2.1 hL (dl_7 (j := 4) rfl) (dl_7 (j := 5) rfl) (dl_7 (j := 6) rfl) (dl_7 (j := 7) rfl) (dl_7 (j := 8) rfl) rfl (by omega) hl ?_
  refine lw_arg (A := fun q => s.heap.size ≤ q) (aN := 2) hx hb hX hbl hbA I.2.2.2.1 hL (dl_7 (j := 9) rfl) (dl_7 (j := 10) rfl) (dl_7 (j := 11) rfl) (dl_7 (j := 12) rfl) (dl_7 (j := 13) rfl) rfl (by omega) hl ?_
  refine lw_callC (as := [.int (xs (i + 1)), .int (xs (i + 2))]) (rest := []) C I (by decide) bC_laying (dl_7 (j := 14) rfl) (dd := 16) (by decide) e1 rfl rfl rfl rfl rfl rfl (Nat.le_of_ble_eq_true rfl) (Nat.le_of_ble_eq_true rfl) hl.1 (Nat.le_of_ble_eq_true rfl) (fun H1 locs1 I1 => ?_)
  refine lv_aload_n hx hb (dl_7 (j := 15) rfl) rfl (lv_at hl 2 rfl) ?_
  refine lw_arg (A := fun q => s.heap.size ≤ q) (aN := 1) hx hb hX hbl hbA I1.2.2.2.1 hL (dl_7 (j := 16) rfl) (dl_7 (j := 17) rfl) (dl_7 (j := 18) rfl) (dl_7 (j := 19) rfl) (dl_7 (j := 20) rfl) rfl (by omega) hl ?_
  refine lw_arg (A := fun q => s.heap.size ≤ q) (aN := 2) hx hb hX hbl hbA I1.2.2.2.1 hL (dl_7 (j := 21) rfl) (dl_7 (j := 22) rfl) (dl_7 (j := 23) rfl) (dl_7 (j := 24) rfl) (dl_7 (j := 25) rfl) rfl (by omega) hl ?_
  refine lw_callR (as := [.int (xs (i + 1)), .int (xs (i + 2))]) (rest := [.int v]) C I1 (by decide) bR_laying (dl_7 (j := 26) rfl) (dd := 16) (by decide) e2 rfl rfl rfl rfl rfl rfl (Nat.le_of_ble_eq_true rfl) (Nat.le_of_ble_eq_true rfl) hl.1 (Nat.le_of_ble_eq_true rfl) (fun H2 locs2 I2 => ?_)
  exact lv_icmp_eq (tgt := 960) hx hb (dl_7 (j := 27) rfl) (by decide) (fun _ => K _ _ _ _ _ _ I2 hR') (fun h => absurd rfl h)
theorem bC_tries : lawB 88 73 2 604 605 606 53 607 = true := by decide +kernel
theorem bR_tries : lawB 159 76 2 1055 1056 1057 62 1058 = true := by decide +kernel
set_option maxRecDepth 20000 in
theorem law_tries {i : Nat} {g h : RG} {tr : Int64} {ls : Array Slot} (C : LC p s m meth c b L xs D cI cZ cC cN bl bh) (hi : i + 4 ≤ L) (hl : lv_has ls 4 [(0, .ref b), (1, .ref s.heap.size), (2, .ref (s.heap.size + 95)), (3, .int (nI i))]) (I : INVP s D cI cZ cC cN bl bh ρ1 (wC g tr) (wR h tr) H locs) (hR : RL g h)
    (K : ∀ (ρ : Nat → Nat) (g' h' : RG) (tr' : Int64) (H1 : Heap) (locs1 : List Loc), INVP s D cI cZ cC cN bl bh ρ (wC g' tr') (wR h' tr') H1 locs1 → RL g' h' → W p l e room_1 s m #[Value.ref b] below meth c H1 locs1 111 1429 Q (F0 m 960 ls [])) : W p l e room_1 s m #[Value.ref b] below meth c H locs 111 1429 Q (F0 m 540 ls []) := by
  obtain ⟨⟨hx, hb, hr, hml, hown, hts, hX, hbl, hlocks, hgv⟩, hL, hK, hNW, hao, hST⟩ := id C
  have hbA : ¬ s.heap.size ≤ b := by omega
  obtain ⟨r, g', h', tr', e1, e2, hR'⟩ := k_tries tr hR (xs (i + 1)) (xs (i + 2))
  obtain ⟨v, rfl⟩ := e1.int rfl
  refine lv_aload_n hx hb (dl_7 (j := 30) rfl) rfl (lv_at hl 1 rfl) ?_
  refine lw_arg (A := fun q => s.heap.size ≤ q) (aN := 1) hx hb hX hbl hbA I.2.2.2.1 hL (dl_7 (j := 31) rfl) (dl_7 (j := 32) rfl) (dl_7 (j := 33) rfl) (dl_7 (j := 34) rfl) (dl_7 (j := 35) rfl) rfl (by omega) hl ?_
  refine lw_arg (A := fun q => s.heap.size ≤ q) (aN := 2) hx hb hX hbl hbA I.2.2.2.1 hL (dl_7 (j := 36) rfl) (dl_7 (j := 37) rfl) (dl_7 (j := 38) rfl) (dl_7 (j := 39) rfl) (dl_8 (j := 0) rfl) rfl (by omega) hl ?_
  refine lw_callC (as := [.int (xs (i + 1)), .int (xs (i + 2))]) (rest := []) C I (by decide) bC_tries (dl_8 (j := 1) rfl) (dd := 16) (by decide) e1 rfl rfl rfl rfl rfl rfl (Nat.le_of_ble_eq_true rfl) (Nat.le_of_ble_eq_true rfl) hl.1 (Nat.le_of_ble_eq_true rfl) (fun H1 locs1 I1 => ?_)
  refine lv_aload_n hx hb (dl_8 (j := 2) rfl) rfl (lv_at hl 2 rfl) ?_
  refine lw_arg (A := fun q => s.heap.size ≤ q) (aN := 1) hx hb hX hbl hbA I1.2.2.2.1 hL (dl_8 (j := 3) rfl) (dl_8 (j := 4) rfl) (dl_8 (j := 5) rfl) (dl_8 (j := 6) rfl) (dl_8 (j := 7) rfl) rfl (by omega) hl ?_
  refine lw_arg (A := fun q => s.heap.size ≤ q) (aN := 2) hx hb hX hbl hbA I1.2.2.2.1 hL (dl_8 (j := 8) rfl) (dl_8 (j := 9) rfl) (dl_8 (j := 10) rfl) (dl_8 (j := 11) rfl) (dl_8 (j := 12) rfl) rfl (by omega) hl ?_
  refine lw_callR (as := [.int (xs (i + 1)), .int (xs (i + 2))]) (rest := [.int v]) C I1 (by decide) bR_tries (dl_8 (j := 13) rfl) (dd := 16) (by decide) e2 rfl rfl rfl rfl rfl rfl (Nat.le_of_ble_eq_true rfl) (Nat.le_of_ble_eq_true rfl) hl.1 (Nat.le_of_ble_eq_true rfl) (fun H2 locs2 I2 => ?_)
  exact lv_icmp_eq (tgt := 960) hx hb (dl_8 (j := 14) rfl) (by decide) (fun _ => K _ _ _ _ _ _ I2 hR') (fun h => absurd rfl h)
theorem bC_forget : lawB 89 77 0 621 622 623 53 624 = true := by decide +kernel
theorem bR_forget : lawB 160 80 0 1059 1060 1061 62 1062 = true := by decide +kernel
set_option maxRecDepth 20000 in
theorem law_forget {i : Nat} {g h : RG} {tr : Int64} {ls : Array Slot} (C : LC p s m meth c b L xs D cI cZ cC cN bl bh) (hi : i + 4 ≤ L) (hl : lv_has ls 4 [(0, .ref b), (1, .ref s.heap.size), (2, .ref (s.heap.size + 95)), (3, .int (nI i))]) (I : INVP s D cI cZ cC cN bl bh ρ1 (wC g tr) (wR h tr) H locs) (hR : RL g h)
    (K : ∀ (ρ : Nat → Nat) (g' h' : RG) (tr' : Int64) (H1 : Heap) (locs1 : List Loc), INVP s D cI cZ cC cN bl bh ρ (wC g' tr') (wR h' tr') H1 locs1 → RL g' h' → W p l e room_1 s m #[Value.ref b] below meth c H1 locs1 111 1429 Q (F0 m 960 ls [])) : W p l e room_1 s m #[Value.ref b] below meth c H locs 111 1429 Q (F0 m 573 ls []) := by
  obtain ⟨⟨hx, hb, hr, hml, hown, hts, hX, hbl, hlocks, hgv⟩, hL, hK, hNW, hao, hST⟩ := id C
  have hbA : ¬ s.heap.size ≤ b := by omega
  obtain ⟨r, g', h', tr', e1, e2, hR'⟩ := k_forget tr hR 
  obtain ⟨v, rfl⟩ := e1.int rfl
  refine lv_aload_n hx hb (dl_8 (j := 17) rfl) rfl (lv_at hl 1 rfl) ?_
  refine lw_callC (as := []) (rest := []) C I (by decide) bC_forget (dl_8 (j := 18) rfl) (dd := 16) (by decide) e1 rfl rfl rfl rfl rfl rfl (Nat.le_of_ble_eq_true rfl) (Nat.le_of_ble_eq_true rfl) hl.1 (Nat.le_of_ble_eq_true rfl) (fun H1 locs1 I1 => ?_)
  refine lv_aload_n hx hb (dl_8 (j := 19) rfl) rfl (lv_at hl 2 rfl) ?_
  refine lw_callR (as := []) (rest := [.int v]) C I1 (by decide) bR_forget (dl_8 (j := 20) rfl) (dd := 16) (by decide) e2 rfl rfl rfl rfl rfl rfl (Nat.le_of_ble_eq_true rfl) (Nat.le_of_ble_eq_true rfl) hl.1 (Nat.le_of_ble_eq_true rfl) (fun H2 locs2 I2 => ?_)
  exact lv_icmp_eq (tgt := 960) hx hb (dl_8 (j := 21) rfl) (by decide) (fun _ => K _ _ _ _ _ _ I2 hR') (fun h => absurd rfl h)
theorem bC_mayBe : lawB 90 81 2 625 626 627 53 628 = true := by decide +kernel
theorem bR_mayBe : lawB 162 84 2 1063 1064 1065 62 1066 = true := by decide +kernel
set_option maxRecDepth 20000 in
theorem law_mayBe {i : Nat} {g h : RG} {tr : Int64} {ls : Array Slot} (C : LC p s m meth c b L xs D cI cZ cC cN bl bh) (hi : i + 4 ≤ L) (hl : lv_has ls 4 [(0, .ref b), (1, .ref s.heap.size), (2, .ref (s.heap.size + 95)), (3, .int (nI i))]) (I : INVP s D cI cZ cC cN bl bh ρ1 (wC g tr) (wR h tr) H locs) (hR : RL g h)
    (K : ∀ (ρ : Nat → Nat) (g' h' : RG) (tr' : Int64) (H1 : Heap) (locs1 : List Loc), INVP s D cI cZ cC cN bl bh ρ (wC g' tr') (wR h' tr') H1 locs1 → RL g' h' → W p l e room_1 s m #[Value.ref b] below meth c H1 locs1 111 1429 Q (F0 m 960 ls [])) : W p l e room_1 s m #[Value.ref b] below meth c H locs 111 1429 Q (F0 m 586 ls []) := by
  obtain ⟨⟨hx, hb, hr, hml, hown, hts, hX, hbl, hlocks, hgv⟩, hL, hK, hNW, hao, hST⟩ := id C
  have hbA : ¬ s.heap.size ≤ b := by omega
  obtain ⟨r, g', h', tr', e1, e2, hR'⟩ := k_mayBe tr hR (xs (i + 1)) (xs (i + 2))
  obtain ⟨v, rfl⟩ := e1.int rfl
  refine lv_aload_n hx hb (dl_8 (j := 24) rfl) rfl (lv_at hl 1 rfl) ?_
  refine lw_arg (A := fun q => s.heap.size ≤ q) (aN := 1) hx hb hX hbl hbA I.2.2.2.1 hL (dl_8 (j := 25) rfl) (dl_8 (j := 26) rfl) (dl_8 (j := 27) rfl) (dl_8 (j := 28) rfl) (dl_8 (j := 29) rfl) rfl (by omega) hl ?_
  refine lw_arg (A := fun q => s.heap.size ≤ q) (aN := 2) hx hb hX hbl hbA I.2.2.2.1 hL (dl_8 (j := 30) rfl) (dl_8 (j := 31) rfl) (dl_8 (j := 32) rfl) (dl_8 (j := 33) rfl) (dl_8 (j := 34) rfl) rfl (by omega) hl ?_
  refine lw_callC (as := [.int (xs (i + 1)), .int (xs (i + 2))]) (rest := []) C I (by decide) bC_mayBe (dl_8 (j := 35) rfl) (dd := 16) (by decide) e1 rfl rfl rfl rfl rfl rfl (Nat.le_of_ble_eq_true rfl) (Nat.le_of_ble_eq_true rfl) hl.1 (Nat.le_of_ble_eq_true rfl) (fun H1 locs1 I1 => ?_)
  refine lv_aload_n hx hb (dl_8 (j := 36) rfl) rfl (lv_at hl 2 rfl) ?_
  refine lw_arg (A := fun q => s.heap.size ≤ q) (aN := 1) hx hb hX hbl hbA I1.2.2.2.1 hL (dl_8 (j := 37) rfl) (dl_8 (j := 38) rfl) (dl_8 (j := 39) rfl) (dl_9 (j := 0) rfl) (dl_9 (j := 1) rfl) rfl (by omega) hl ?_
  refine lw_arg (A := fun q => s.heap.size ≤ q) (aN := 2) hx hb hX hbl hbA I1.2.2.2.1 hL (dl_9 (j := 2) rfl) (dl_9 (j := 3) rfl) (dl_9 (j := 4) rfl) (dl_9 (j := 5) rfl) (dl_9 (j := 6) rfl) rfl (by omega) hl ?_
  refine lw_callR (as := [.int (xs (i + 1)), .int (xs (i + 2))]) (rest := [.int v]) C I1 (by decide) bR_mayBe (dl_9 (j := 7) rfl) (dd := 16) (by decide) e2 rfl rfl rfl rfl rfl rfl (Nat.le_of_ble_eq_true rfl) (Nat.le_of_ble_eq_true rfl) hl.1 (Nat.le_of_ble_eq_true rfl) (fun H2 locs2 I2 => ?_)
  exact lv_icmp_eq (tgt := 960) hx hb (dl_9 (j := 8) rfl) (by decide) (fun _ => K _ _ _ _ _ _ I2 hR') (fun h => absurd rfl h)
theorem bC_next : lawB 91 85 2 648 649 650 53 651 = true := by decide +kernel
theorem bR_next : lawB 164 88 2 1071 1072 1073 62 1074 = true := by decide +kernel
set_option maxRecDepth 20000 in
theorem law_next {i : Nat} {g h : RG} {tr : Int64} {ls : Array Slot} (C : LC p s m meth c b L xs D cI cZ cC cN bl bh) (hi : i + 4 ≤ L) (hl : lv_has ls 4 [(0, .ref b), (1, .ref s.heap.size), (2, .ref (s.heap.size + 95)), (3, .int (nI i))]) (I : INVP s D cI cZ cC cN bl bh ρ1 (wC g tr) (wR h tr) H locs) (hR : RL g h)
    (K : ∀ (ρ : Nat → Nat) (g' h' : RG) (tr' : Int64) (H1 : Heap) (locs1 : List Loc), INVP s D cI cZ cC cN bl bh ρ (wC g' tr') (wR h' tr') H1 locs1 → RL g' h' → W p l e room_1 s m #[Value.ref b] below meth c H1 locs1 111 1429 Q (F0 m 960 ls [])) : W p l e room_1 s m #[Value.ref b] below meth c H locs 111 1429 Q (F0 m 619 ls []) := by
  obtain ⟨⟨hx, hb, hr, hml, hown, hts, hX, hbl, hlocks, hgv⟩, hL, hK, hNW, hao, hST⟩ := id C
  have hbA : ¬ s.heap.size ≤ b := by omega
  obtain ⟨r, g', h', tr', e1, e2, hR'⟩ := k_next tr hR (xs (i + 1)) (xs (i + 2))
  obtain ⟨v, rfl⟩ := e1.int rfl
  refine lv_aload_n hx hb (dl_9 (j := 11) rfl) rfl (lv_at hl 1 rfl) ?_
  refine lw_arg (A := fun q => s.heap.size ≤ q) (aN := 1) hx hb hX hbl hbA I.2.2.2.1 hL (dl_9 (j := 12) rfl) (dl_9 (j := 13) rfl) (dl_9 (j := 14) rfl) (dl_9 (j := 15) rfl) (dl_9 (j := 16) rfl) rfl (by omega) hl ?_
  refine lw_arg (A := fun q => s.heap.size ≤ q) (aN := 2) hx hb hX hbl hbA I.2.2.2.1 hL (dl_9 (j := 17) rfl) (dl_9 (j := 18) rfl) (dl_9 (j := 19) rfl) (dl_9 (j := 20) rfl) (dl_9 (j := 21) rfl) rfl (by omega) hl ?_
  refine lw_callC (as := [.int (xs (i + 1)), .int (xs (i + 2))]) (rest := []) C I (by decide) bC_next (dl_9 (j := 22) rfl) (dd := 16) (by decide) e1 rfl rfl rfl rfl rfl rfl (Nat.le_of_ble_eq_true rfl) (Nat.le_of_ble_eq_true rfl) hl.1 (Nat.le_of_ble_eq_true rfl) (fun H1 locs1 I1 => ?_)
  refine lv_aload_n hx hb (dl_9 (j := 23) rfl) rfl (lv_at hl 2 rfl) ?_
  refine lw_arg (A := fun q => s.heap.size ≤ q) (aN := 1) hx hb hX hbl hbA I1.2.2.2.1 hL (dl_9 (j := 24) rfl) (dl_9 (j := 25) rfl) (dl_9 (j := 26) rfl) (dl_9 (j := 27) rfl) (dl_9 (j := 28) rfl) rfl (by omega) hl ?_
  refine lw_arg (A := fun q => s.heap.size ≤ q) (aN := 2) hx hb hX hbl hbA I1.2.2.2.1 hL (dl_9 (j := 29) rfl) (dl_9 (j := 30) rfl) (dl_9 (j := 31) rfl) (dl_9 (j := 32) rfl) (dl_9 (j := 33) rfl) rfl (by omega) hl ?_
  refine lw_callR (as := [.int (xs (i + 1)), .int (xs (i + 2))]) (rest := [.int v]) C I1 (by decide) bR_next (dl_9 (j := 34) rfl) (dd := 16) (by decide) e2 rfl rfl rfl rfl rfl rfl (Nat.le_of_ble_eq_true rfl) (Nat.le_of_ble_eq_true rfl) hl.1 (Nat.le_of_ble_eq_true rfl) (fun H2 locs2 I2 => ?_)
  exact lv_icmp_eq (tgt := 960) hx hb (dl_9 (j := 35) rfl) (by decide) (fun _ => K _ _ _ _ _ _ I2 hR') (fun h => absurd rfl h)
theorem bC_bestScale : lawB 92 89 1 664 665 666 53 667 = true := by decide +kernel
theorem bR_bestScale : lawB 166 92 1 1079 1080 1081 62 1082 = true := by decide +kernel
set_option maxRecDepth 20000 in
theorem law_bestScale {i : Nat} {g h : RG} {tr : Int64} {ls : Array Slot} (C : LC p s m meth c b L xs D cI cZ cC cN bl bh) (hi : i + 4 ≤ L) (hl : lv_has ls 4 [(0, .ref b), (1, .ref s.heap.size), (2, .ref (s.heap.size + 95)), (3, .int (nI i))]) (I : INVP s D cI cZ cC cN bl bh ρ1 (wC g tr) (wR h tr) H locs) (hR : RL g h)
    (K : ∀ (ρ : Nat → Nat) (g' h' : RG) (tr' : Int64) (H1 : Heap) (locs1 : List Loc), INVP s D cI cZ cC cN bl bh ρ (wC g' tr') (wR h' tr') H1 locs1 → RL g' h' → W p l e room_1 s m #[Value.ref b] below meth c H1 locs1 111 1429 Q (F0 m 960 ls [])) : W p l e room_1 s m #[Value.ref b] below meth c H locs 111 1429 Q (F0 m 652 ls []) := by
  obtain ⟨⟨hx, hb, hr, hml, hown, hts, hX, hbl, hlocks, hgv⟩, hL, hK, hNW, hao, hST⟩ := id C
  have hbA : ¬ s.heap.size ≤ b := by omega
  obtain ⟨r, g', h', tr', e1, e2, hR'⟩ := k_bestScale tr hR (xs (i + 1))
  obtain ⟨v, rfl⟩ := e1.int rfl
  refine lv_aload_n hx hb (dl_9 (j := 38) rfl) rfl (lv_at hl 1 rfl) ?_
  refine lw_arg (A := fun q => s.heap.size ≤ q) (aN := 1) hx hb hX hbl hbA I.2.2.2.1 hL (dl_9 (j := 39) rfl) (dl_10 (j := 0) rfl) (dl_10 (j := 1) rfl) (dl_10 (j := 2) rfl) (dl_10 (j := 3) rfl) rfl (by omega) hl ?_
  refine lw_callC (as := [.int (xs (i + 1))]) (rest := []) C I (by decide) bC_bestScale (dl_10 (j := 4) rfl) (dd := 16) (by decide) e1 rfl rfl rfl rfl rfl rfl (Nat.le_of_ble_eq_true rfl) (Nat.le_of_ble_eq_true rfl) hl.1 (Nat.le_of_ble_eq_true rfl) (fun H1 locs1 I1 => ?_)
  refine lv_aload_n hx hb (dl_10 (j := 5) rfl) rfl (lv_at hl 2 rfl) ?_
  refine lw_arg (A := fun q => s.heap.size ≤ q) (aN := 1) hx hb hX hbl hbA I1.2.2.2.1 hL (dl_10 (j := 6) rfl) (dl_10 (j := 7) rfl) (dl_10 (j := 8) rfl) (dl_10 (j := 9) rfl) (dl_10 (j := 10) rfl) rfl (by omega) hl ?_
  refine lw_callR (as := [.int (xs (i + 1))]) (rest := [.int v]) C I1 (by decide) bR_bestScale (dl_10 (j := 11) rfl) (dd := 16) (by decide) e2 rfl rfl rfl rfl rfl rfl (Nat.le_of_ble_eq_true rfl) (Nat.le_of_ble_eq_true rfl) hl.1 (Nat.le_of_ble_eq_true rfl) (fun H2 locs2 I2 => ?_)
  exact lv_icmp_eq (tgt := 960) hx hb (dl_10 (j := 12) rfl) (by decide) (fun _ => K _ _ _ _ _ _ I2 hR') (fun h => absurd rfl h)
theorem bC_oneMore : lawB 93 93 2 676 677 678 53 679 = true := by decide +kernel
theorem bR_oneMore : lawB 168 96 2 1087 1088 1089 62 1090 = true := by decide +kernel
set_option maxRecDepth 20000 in
theorem law_oneMore {i : Nat} {g h : RG} {tr : Int64} {ls : Array Slot} (C : LC p s m meth c b L xs D cI cZ cC cN bl bh) (hi : i + 4 ≤ L) (hl : lv_has ls 4 [(0, .ref b), (1, .ref s.heap.size), (2, .ref (s.heap.size + 95)), (3, .int (nI i))]) (I : INVP s D cI cZ cC cN bl bh ρ1 (wC g tr) (wR h tr) H locs) (hR : RL g h)
    (K : ∀ (ρ : Nat → Nat) (g' h' : RG) (tr' : Int64) (H1 : Heap) (locs1 : List Loc), INVP s D cI cZ cC cN bl bh ρ (wC g' tr') (wR h' tr') H1 locs1 → RL g' h' → W p l e room_1 s m #[Value.ref b] below meth c H1 locs1 111 1429 Q (F0 m 960 ls [])) : W p l e room_1 s m #[Value.ref b] below meth c H locs 111 1429 Q (F0 m 675 ls []) := by
  obtain ⟨⟨hx, hb, hr, hml, hown, hts, hX, hbl, hlocks, hgv⟩, hL, hK, hNW, hao, hST⟩ := id C
  have hbA : ¬ s.heap.size ≤ b := by omega
  obtain ⟨r, g', h', tr', e1, e2, hR'⟩ := k_oneMore tr hR (xs (i + 1)) (xs (i + 2))
  obtain ⟨v, rfl⟩ := e1.int rfl
  refine lv_aload_n hx hb (dl_10 (j := 15) rfl) rfl (lv_at hl 1 rfl) ?_
  refine lw_arg (A := fun q => s.heap.size ≤ q) (aN := 1) hx hb hX hbl hbA I.2.2.2.1 hL (dl_10 (j := 16) rfl) (dl_10 (j := 17) rfl) (dl_10 (j := 18) rfl) (dl_10 (j := 19) rfl) (dl_10 (j := 20) rfl) rfl (by omega) hl ?_
  refine lw_arg (A := fun q => s.heap.size ≤ q) (aN := 2) hx hb hX hbl hbA I.2.2.2.1 hL (dl_10 (j := 21) rfl) (dl_10 (j := 22) rfl) (dl_10 (j := 23) rfl) (dl_10 (j := 24) rfl) (dl_10 (j := 25) rfl) rfl (by omega) hl ?_
  refine lw_callC (as := [.int (xs (i + 1)), .int (xs (i + 2))]) (rest := []) C I (by decide) bC_oneMore (dl_10 (j := 26) rfl) (dd := 16) (by decide) e1 rfl rfl rfl rfl rfl rfl (Nat.le_of_ble_eq_true rfl) (Nat.le_of_ble_eq_true rfl) hl.1 (Nat.le_of_ble_eq_true rfl) (fun H1 locs1 I1 => ?_)
  refine lv_aload_n hx hb (dl_10 (j := 27) rfl) rfl (lv_at hl 2 rfl) ?_
  refine lw_arg (A := fun q => s.heap.size ≤ q) (aN := 1) hx hb hX hbl hbA I1.2.2.2.1 hL (dl_10 (j := 28) rfl) (dl_10 (j := 29) rfl) (dl_10 (j := 30) rfl) (dl_10 (j := 31) rfl) (dl_10 (j := 32) rfl) rfl (by omega) hl ?_
  refine lw_arg (A := fun q => s.heap.size ≤ q) (aN := 2) hx hb hX hbl hbA I1.2.2.2.1 hL (dl_10 (j := 33) rfl) (dl_10 (j := 34) rfl) (dl_10 (j := 35) rfl) (dl_10 (j := 36) rfl) (dl_10 (j := 37) rfl) rfl (by omega) hl ?_
  refine lw_callR (as := [.int (xs (i + 1)), .int (xs (i + 2))]) (rest := [.int v]) C I1 (by decide) bR_oneMore (dl_10 (j := 38) rfl) (dd := 16) (by decide) e2 rfl rfl rfl rfl rfl rfl (Nat.le_of_ble_eq_true rfl) (Nat.le_of_ble_eq_true rfl) hl.1 (Nat.le_of_ble_eq_true rfl) (fun H2 locs2 I2 => ?_)
  exact lv_icmp_eq (tgt := 960) hx hb (dl_10 (j := 39) rfl) (by decide) (fun _ => K _ _ _ _ _ _ I2 hR') (fun h => absurd rfl h)
theorem bC_carried : lawB 95 97 1 685 686 687 53 688 = true := by decide +kernel
theorem bR_carried : lawB 171 100 1 1095 1096 1097 62 1098 = true := by decide +kernel
set_option maxRecDepth 20000 in
theorem law_carried {i : Nat} {g h : RG} {tr : Int64} {ls : Array Slot} (C : LC p s m meth c b L xs D cI cZ cC cN bl bh) (hi : i + 4 ≤ L) (hl : lv_has ls 4 [(0, .ref b), (1, .ref s.heap.size), (2, .ref (s.heap.size + 95)), (3, .int (nI i))]) (I : INVP s D cI cZ cC cN bl bh ρ1 (wC g tr) (wR h tr) H locs) (hR : RL g h)
    (K : ∀ (ρ : Nat → Nat) (g' h' : RG) (tr' : Int64) (H1 : Heap) (locs1 : List Loc), INVP s D cI cZ cC cN bl bh ρ (wC g' tr') (wR h' tr') H1 locs1 → RL g' h' → W p l e room_1 s m #[Value.ref b] below meth c H1 locs1 111 1429 Q (F0 m 960 ls [])) : W p l e room_1 s m #[Value.ref b] below meth c H locs 111 1429 Q (F0 m 708 ls []) := by
  obtain ⟨⟨hx, hb, hr, hml, hown, hts, hX, hbl, hlocks, hgv⟩, hL, hK, hNW, hao, hST⟩ := id C
  have hbA : ¬ s.heap.size ≤ b := by omega
  obtain ⟨r, g', h', tr', e1, e2, hR'⟩ := k_carried tr hR (xs (i + 1))
  obtain ⟨v, rfl⟩ := e1.int rfl
  refine lv_aload_n hx hb (dl_11 (j := 2) rfl) rfl (lv_at hl 1 rfl) ?_
  refine lw_arg (A := fun q => s.heap.size ≤ q) (aN := 1) hx hb hX hbl hbA I.2.2.2.1 hL (dl_11 (j := 3) rfl) (dl_11 (j := 4) rfl) (dl_11 (j := 5) rfl) (dl_11 (j := 6) rfl) (dl_11 (j := 7) rfl) rfl (by omega) hl ?_
  refine lw_callC (as := [.int (xs (i + 1))]) (rest := []) C I (by decide) bC_carried (dl_11 (j := 8) rfl) (dd := 16) (by decide) e1 rfl rfl rfl rfl rfl rfl (Nat.le_of_ble_eq_true rfl) (Nat.le_of_ble_eq_true rfl) hl.1 (Nat.le_of_ble_eq_true rfl) (fun H1 locs1 I1 => ?_)
  refine lv_aload_n hx hb (dl_11 (j := 9) rfl) rfl (lv_at hl 2 rfl) ?_
  refine lw_arg (A := fun q => s.heap.size ≤ q) (aN := 1) hx hb hX hbl hbA I1.2.2.2.1 hL (dl_11 (j := 10) rfl) (dl_11 (j := 11) rfl) (dl_11 (j := 12) rfl) (dl_11 (j := 13) rfl) (dl_11 (j := 14) rfl) rfl (by omega) hl ?_
  refine lw_callR (as := [.int (xs (i + 1))]) (rest := [.int v]) C I1 (by decide) bR_carried (dl_11 (j := 15) rfl) (dd := 16) (by decide) e2 rfl rfl rfl rfl rfl rfl (Nat.le_of_ble_eq_true rfl) (Nat.le_of_ble_eq_true rfl) hl.1 (Nat.le_of_ble_eq_true rfl) (fun H2 locs2 I2 => ?_)
  exact lv_icmp_eq (tgt := 960) hx hb (dl_11 (j := 16) rfl) (by decide) (fun _ => K _ _ _ _ _ _ I2 hR') (fun h => absurd rfl h)
theorem bC_mean : lawB 96 101 1 716 717 718 53 719 = true := by decide +kernel
theorem bR_mean : lawB 173 105 1 1108 1109 1110 62 1111 = true := by decide +kernel
set_option maxRecDepth 20000 in
theorem law_mean {i : Nat} {g h : RG} {tr : Int64} {ls : Array Slot} (C : LC p s m meth c b L xs D cI cZ cC cN bl bh) (hi : i + 4 ≤ L) (hl : lv_has ls 4 [(0, .ref b), (1, .ref s.heap.size), (2, .ref (s.heap.size + 95)), (3, .int (nI i))]) (I : INVP s D cI cZ cC cN bl bh ρ1 (wC g tr) (wR h tr) H locs) (hR : RL g h)
    (K : ∀ (ρ : Nat → Nat) (g' h' : RG) (tr' : Int64) (H1 : Heap) (locs1 : List Loc), INVP s D cI cZ cC cN bl bh ρ (wC g' tr') (wR h' tr') H1 locs1 → RL g' h' → W p l e room_1 s m #[Value.ref b] below meth c H1 locs1 111 1429 Q (F0 m 960 ls [])) : W p l e room_1 s m #[Value.ref b] below meth c H locs 111 1429 Q (F0 m 731 ls []) := by
  obtain ⟨⟨hx, hb, hr, hml, hown, hts, hX, hbl, hlocks, hgv⟩, hL, hK, hNW, hao, hST⟩ := id C
  have hbA : ¬ s.heap.size ≤ b := by omega
  obtain ⟨r, g', h', tr', e1, e2, hR'⟩ := k_mean tr hR (xs (i + 1))
  obtain ⟨v, rfl⟩ := e1.long rfl
  refine lv_aload_n hx hb (dl_11 (j := 19) rfl) rfl (lv_at hl 1 rfl) ?_
  refine lw_arg (A := fun q => s.heap.size ≤ q) (aN := 1) hx hb hX hbl hbA I.2.2.2.1 hL (dl_11 (j := 20) rfl) (dl_11 (j := 21) rfl) (dl_11 (j := 22) rfl) (dl_11 (j := 23) rfl) (dl_11 (j := 24) rfl) rfl (by omega) hl ?_
  refine lw_callC (as := [.int (xs (i + 1))]) (rest := []) C I (by decide) bC_mean (dl_11 (j := 25) rfl) (dd := 16) (by decide) e1 rfl rfl rfl rfl rfl rfl (Nat.le_of_ble_eq_true rfl) (Nat.le_of_ble_eq_true rfl) hl.1 (Nat.le_of_ble_eq_true rfl) (fun H1 locs1 I1 => ?_)
  refine lv_aload_n hx hb (dl_11 (j := 26) rfl) rfl (lv_at hl 2 rfl) ?_
  refine lw_arg (A := fun q => s.heap.size ≤ q) (aN := 1) hx hb hX hbl hbA I1.2.2.2.1 hL (dl_11 (j := 27) rfl) (dl_11 (j := 28) rfl) (dl_11 (j := 29) rfl) (dl_11 (j := 30) rfl) (dl_11 (j := 31) rfl) rfl (by omega) hl ?_
  refine lw_callR (as := [.int (xs (i + 1))]) (rest := [.long v]) C I1 (by decide) bR_mean (dl_11 (j := 32) rfl) (dd := 16) (by decide) e2 rfl rfl rfl rfl rfl rfl (Nat.le_of_ble_eq_true rfl) (Nat.le_of_ble_eq_true rfl) hl.1 (Nat.le_of_ble_eq_true rfl) (fun H2 locs2 I2 => ?_)
  refine W.lcmp hx hb (dl_11 (j := 33) rfl) ?_
  rw [show lg_cmp v v = 0 from by simp [lg_cmp, Int64.lt_irrefl]]
  exact lv_if_eq (tgt := 960) hx hb (dl_11 (j := 34) rfl) (by decide) (fun _ => K _ _ _ _ _ _ I2 hR') (fun h => absurd rfl h)
theorem bC_turnsOfAll : lawB 97 106 0 740 741 742 53 743 = true := by decide +kernel
theorem bR_turnsOfAll : lawB 174 109 0 1116 1117 1118 62 1119 = true := by decide +kernel
set_option maxRecDepth 20000 in
theorem law_turnsOfAll {i : Nat} {g h : RG} {tr : Int64} {ls : Array Slot} (C : LC p s m meth c b L xs D cI cZ cC cN bl bh) (hi : i + 4 ≤ L) (hl : lv_has ls 4 [(0, .ref b), (1, .ref s.heap.size), (2, .ref (s.heap.size + 95)), (3, .int (nI i))]) (I : INVP s D cI cZ cC cN bl bh ρ1 (wC g tr) (wR h tr) H locs) (hR : RL g h)
    (K : ∀ (ρ : Nat → Nat) (g' h' : RG) (tr' : Int64) (H1 : Heap) (locs1 : List Loc), INVP s D cI cZ cC cN bl bh ρ (wC g' tr') (wR h' tr') H1 locs1 → RL g' h' → W p l e room_1 s m #[Value.ref b] below meth c H1 locs1 111 1429 Q (F0 m 960 ls [])) : W p l e room_1 s m #[Value.ref b] below meth c H locs 111 1429 Q (F0 m 755 ls []) := by
  obtain ⟨⟨hx, hb, hr, hml, hown, hts, hX, hbl, hlocks, hgv⟩, hL, hK, hNW, hao, hST⟩ := id C
  have hbA : ¬ s.heap.size ≤ b := by omega
  obtain ⟨r, g', h', tr', e1, e2, hR'⟩ := k_turnsOfAll tr hR 
  obtain ⟨v, rfl⟩ := e1.int rfl
  refine lv_aload_n hx hb (dl_11 (j := 37) rfl) rfl (lv_at hl 1 rfl) ?_
  refine lw_callC (as := []) (rest := []) C I (by decide) bC_turnsOfAll (dl_11 (j := 38) rfl) (dd := 16) (by decide) e1 rfl rfl rfl rfl rfl rfl (Nat.le_of_ble_eq_true rfl) (Nat.le_of_ble_eq_true rfl) hl.1 (Nat.le_of_ble_eq_true rfl) (fun H1 locs1 I1 => ?_)
  refine lv_aload_n hx hb (dl_11 (j := 39) rfl) rfl (lv_at hl 2 rfl) ?_
  refine lw_callR (as := []) (rest := [.int v]) C I1 (by decide) bR_turnsOfAll (dl_12 (j := 0) rfl) (dd := 16) (by decide) e2 rfl rfl rfl rfl rfl rfl (Nat.le_of_ble_eq_true rfl) (Nat.le_of_ble_eq_true rfl) hl.1 (Nat.le_of_ble_eq_true rfl) (fun H2 locs2 I2 => ?_)
  exact lv_icmp_eq (tgt := 960) hx hb (dl_12 (j := 1) rfl) (by decide) (fun _ => K _ _ _ _ _ _ I2 hR') (fun h => absurd rfl h)
theorem bC_share : lawB 98 110 2 749 750 751 53 752 = true := by decide +kernel
theorem bR_share : lawB 175 113 2 1120 1121 1122 62 1123 = true := by decide +kernel
set_option maxRecDepth 20000 in
theorem law_share {i : Nat} {g h : RG} {tr : Int64} {ls : Array Slot} (C : LC p s m meth c b L xs D cI cZ cC cN bl bh) (hi : i + 4 ≤ L) (hl : lv_has ls 4 [(0, .ref b), (1, .ref s.heap.size), (2, .ref (s.heap.size + 95)), (3, .int (nI i))]) (I : INVP s D cI cZ cC cN bl bh ρ1 (wC g tr) (wR h tr) H locs) (hR : RL g h)
    (K : ∀ (ρ : Nat → Nat) (g' h' : RG) (tr' : Int64) (H1 : Heap) (locs1 : List Loc), INVP s D cI cZ cC cN bl bh ρ (wC g' tr') (wR h' tr') H1 locs1 → RL g' h' → W p l e room_1 s m #[Value.ref b] below meth c H1 locs1 111 1429 Q (F0 m 960 ls [])) : W p l e room_1 s m #[Value.ref b] below meth c H locs 111 1429 Q (F0 m 768 ls []) := by
  obtain ⟨⟨hx, hb, hr, hml, hown, hts, hX, hbl, hlocks, hgv⟩, hL, hK, hNW, hao, hST⟩ := id C
  have hbA : ¬ s.heap.size ≤ b := by omega
  obtain ⟨r, g', h', tr', e1, e2, hR'⟩ := k_share tr hR (xs (i + 1)) (xs (i + 2))
  obtain ⟨v, rfl⟩ := e1.int rfl
  refine lv_aload_n hx hb (dl_12 (j := 4) rfl) rfl (lv_at hl 1 rfl) ?_
  refine lw_arg (A := fun q => s.heap.size ≤ q) (aN := 1) hx hb hX hbl hbA I.2.2.2.1 hL (dl_12 (j := 5) rfl) (dl_12 (j := 6) rfl) (dl_12 (j := 7) rfl) (dl_12 (j := 8) rfl) (dl_12 (j := 9) rfl) rfl (by omega) hl ?_
  refine lw_arg (A := fun q => s.heap.size ≤ q) (aN := 2) hx hb hX hbl hbA I.2.2.2.1 hL (dl_12 (j := 10) rfl) (dl_12 (j := 11) rfl) (dl_12 (j := 12) rfl) (dl_12 (j := 13) rfl) (dl_12 (j := 14) rfl) rfl (by omega) hl ?_
  refine lw_callC (as := [.int (xs (i + 1)), .int (xs (i + 2))]) (rest := []) C I (by decide) bC_share (dl_12 (j := 15) rfl) (dd := 16) (by decide) e1 rfl rfl rfl rfl rfl rfl (Nat.le_of_ble_eq_true rfl) (Nat.le_of_ble_eq_true rfl) hl.1 (Nat.le_of_ble_eq_true rfl) (fun H1 locs1 I1 => ?_)
  refine lv_aload_n hx hb (dl_12 (j := 16) rfl) rfl (lv_at hl 2 rfl) ?_
  refine lw_arg (A := fun q => s.heap.size ≤ q) (aN := 1) hx hb hX hbl hbA I1.2.2.2.1 hL (dl_12 (j := 17) rfl) (dl_12 (j := 18) rfl) (dl_12 (j := 19) rfl) (dl_12 (j := 20) rfl) (dl_12 (j := 21) rfl) rfl (by omega) hl ?_
  refine lw_arg (A := fun q => s.heap.size ≤ q) (aN := 2) hx hb hX hbl hbA I1.2.2.2.1 hL (dl_12 (j := 22) rfl) (dl_12 (j := 23) rfl) (dl_12 (j := 24) rfl) (dl_12 (j := 25) rfl) (dl_12 (j := 26) rfl) rfl (by omega) hl ?_
  refine lw_callR (as := [.int (xs (i + 1)), .int (xs (i + 2))]) (rest := [.int v]) C I1 (by decide) bR_share (dl_12 (j := 27) rfl) (dd := 16) (by decide) e2 rfl rfl rfl rfl rfl rfl (Nat.le_of_ble_eq_true rfl) (Nat.le_of_ble_eq_true rfl) hl.1 (Nat.le_of_ble_eq_true rfl) (fun H2 locs2 I2 => ?_)
  exact lv_icmp_eq (tgt := 960) hx hb (dl_12 (j := 28) rfl) (by decide) (fun _ => K _ _ _ _ _ _ I2 hR') (fun h => absurd rfl h)
theorem bC_odds : lawB 99 114 3 754 755 756 53 757 = true := by decide +kernel
theorem bR_odds : lawB 178 117 3 1124 1125 1126 62 1127 = true := by decide +kernel
set_option maxRecDepth 20000 in
theorem law_odds {i : Nat} {g h : RG} {tr : Int64} {ls : Array Slot} (C : LC p s m meth c b L xs D cI cZ cC cN bl bh) (hi : i + 4 ≤ L) (hl : lv_has ls 4 [(0, .ref b), (1, .ref s.heap.size), (2, .ref (s.heap.size + 95)), (3, .int (nI i))]) (I : INVP s D cI cZ cC cN bl bh ρ1 (wC g tr) (wR h tr) H locs) (hR : RL g h)
    (K : ∀ (ρ : Nat → Nat) (g' h' : RG) (tr' : Int64) (H1 : Heap) (locs1 : List Loc), INVP s D cI cZ cC cN bl bh ρ (wC g' tr') (wR h' tr') H1 locs1 → RL g' h' → W p l e room_1 s m #[Value.ref b] below meth c H1 locs1 111 1429 Q (F0 m 960 ls [])) : W p l e room_1 s m #[Value.ref b] below meth c H locs 111 1429 Q (F0 m 801 ls []) := by
  obtain ⟨⟨hx, hb, hr, hml, hown, hts, hX, hbl, hlocks, hgv⟩, hL, hK, hNW, hao, hST⟩ := id C
  have hbA : ¬ s.heap.size ≤ b := by omega
  obtain ⟨r, g', h', tr', e1, e2, hR'⟩ := k_odds tr hR (xs (i + 1)) (xs (i + 2)) (xs (i + 3))
  obtain ⟨v, rfl⟩ := e1.int rfl
  refine lv_aload_n hx hb (dl_12 (j := 31) rfl) rfl (lv_at hl 1 rfl) ?_
  refine lw_arg (A := fun q => s.heap.size ≤ q) (aN := 1) hx hb hX hbl hbA I.2.2.2.1 hL (dl_12 (j := 32) rfl) (dl_12 (j := 33) rfl) (dl_12 (j := 34) rfl) (dl_12 (j := 35) rfl) (dl_12 (j := 36) rfl) rfl (by omega) hl ?_
  refine lw_arg (A := fun q => s.heap.size ≤ q) (aN := 2) hx hb hX hbl hbA I.2.2.2.1 hL (dl_12 (j := 37) rfl) (dl_12 (j := 38) rfl) (dl_12 (j := 39) rfl) (dl_13 (j := 0) rfl) (dl_13 (j := 1) rfl) rfl (by omega) hl ?_
  refine lw_arg (A := fun q => s.heap.size ≤ q) (aN := 3) hx hb hX hbl hbA I.2.2.2.1 hL (dl_13 (j := 2) rfl) (dl_13 (j := 3) rfl) (dl_13 (j := 4) rfl) (dl_13 (j := 5) rfl) (dl_13 (j := 6) rfl) rfl (by omega) hl ?_
  refine lw_callC (as := [.int (xs (i + 1)), .int (xs (i + 2)), .int (xs (i + 3))]) (rest := []) C I (by decide) bC_odds (dl_13 (j := 7) rfl) (dd := 16) (by decide) e1 rfl rfl rfl rfl rfl rfl (Nat.le_of_ble_eq_true rfl) (Nat.le_of_ble_eq_true rfl) hl.1 (Nat.le_of_ble_eq_true rfl) (fun H1 locs1 I1 => ?_)
  refine lv_aload_n hx hb (dl_13 (j := 8) rfl) rfl (lv_at hl 2 rfl) ?_
  refine lw_arg (A := fun q => s.heap.size ≤ q) (aN := 1) hx hb hX hbl hbA I1.2.2.2.1 hL (dl_13 (j := 9) rfl) (dl_13 (j := 10) rfl) (dl_13 (j := 11) rfl) (dl_13 (j := 12) rfl) (dl_13 (j := 13) rfl) rfl (by omega) hl ?_
  refine lw_arg (A := fun q => s.heap.size ≤ q) (aN := 2) hx hb hX hbl hbA I1.2.2.2.1 hL (dl_13 (j := 14) rfl) (dl_13 (j := 15) rfl) (dl_13 (j := 16) rfl) (dl_13 (j := 17) rfl) (dl_13 (j := 18) rfl) rfl (by omega) hl ?_
  refine lw_arg (A := fun q => s.heap.size ≤ q) (aN := 3) hx hb hX hbl hbA I1.2.2.2.1 hL (dl_13 (j := 19) rfl) (dl_13 (j := 20) rfl) (dl_13 (j := 21) rfl) (dl_13 (j := 22) rfl) (dl_13 (j := 23) rfl) rfl (by omega) hl ?_
  refine lw_callR (as := [.int (xs (i + 1)), .int (xs (i + 2)), .int (xs (i + 3))]) (rest := [.int v]) C I1 (by decide) bR_odds (dl_13 (j := 24) rfl) (dd := 16) (by decide) e2 rfl rfl rfl rfl rfl rfl (Nat.le_of_ble_eq_true rfl) (Nat.le_of_ble_eq_true rfl) hl.1 (Nat.le_of_ble_eq_true rfl) (fun H2 locs2 I2 => ?_)
  exact lv_icmp_eq (tgt := 960) hx hb (dl_13 (j := 25) rfl) (by decide) (fun _ => K _ _ _ _ _ _ I2 hR') (fun h => absurd rfl h)
theorem bC_rate : lawB 100 118 2 764 765 766 53 767 = true := by decide +kernel
theorem bR_rate : lawB 179 121 2 1134 1135 1136 62 1137 = true := by decide +kernel
set_option maxRecDepth 20000 in
theorem law_rate {i : Nat} {g h : RG} {tr : Int64} {ls : Array Slot} (C : LC p s m meth c b L xs D cI cZ cC cN bl bh) (hi : i + 4 ≤ L) (hl : lv_has ls 4 [(0, .ref b), (1, .ref s.heap.size), (2, .ref (s.heap.size + 95)), (3, .int (nI i))]) (I : INVP s D cI cZ cC cN bl bh ρ1 (wC g tr) (wR h tr) H locs) (hR : RL g h)
    (K : ∀ (ρ : Nat → Nat) (g' h' : RG) (tr' : Int64) (H1 : Heap) (locs1 : List Loc), INVP s D cI cZ cC cN bl bh ρ (wC g' tr') (wR h' tr') H1 locs1 → RL g' h' → W p l e room_1 s m #[Value.ref b] below meth c H1 locs1 111 1429 Q (F0 m 960 ls [])) : W p l e room_1 s m #[Value.ref b] below meth c H locs 111 1429 Q (F0 m 844 ls []) := by
  obtain ⟨⟨hx, hb, hr, hml, hown, hts, hX, hbl, hlocks, hgv⟩, hL, hK, hNW, hao, hST⟩ := id C
  have hbA : ¬ s.heap.size ≤ b := by omega
  obtain ⟨r, g', h', tr', e1, e2, hR'⟩ := k_rate tr hR (xs (i + 1)) (xs (i + 2))
  obtain ⟨v, rfl⟩ := e1.int rfl
  refine lv_aload_n hx hb (dl_13 (j := 28) rfl) rfl (lv_at hl 1 rfl) ?_
  refine lw_arg (A := fun q => s.heap.size ≤ q) (aN := 1) hx hb hX hbl hbA I.2.2.2.1 hL (dl_13 (j := 29) rfl) (dl_13 (j := 30) rfl) (dl_13 (j := 31) rfl) (dl_13 (j := 32) rfl) (dl_13 (j := 33) rfl) rfl (by omega) hl ?_
  refine lw_arg (A := fun q => s.heap.size ≤ q) (aN := 2) hx hb hX hbl hbA I.2.2.2.1 hL (dl_13 (j := 34) rfl) (dl_13 (j := 35) rfl) (dl_13 (j := 36) rfl) (dl_13 (j := 37) rfl) (dl_13 (j := 38) rfl) rfl (by omega) hl ?_
  refine lw_callC (as := [.int (xs (i + 1)), .int (xs (i + 2))]) (rest := []) C I (by decide) bC_rate (dl_13 (j := 39) rfl) (dd := 16) (by decide) e1 rfl rfl rfl rfl rfl rfl (Nat.le_of_ble_eq_true rfl) (Nat.le_of_ble_eq_true rfl) hl.1 (Nat.le_of_ble_eq_true rfl) (fun H1 locs1 I1 => ?_)
  refine lv_aload_n hx hb (dl_14 (j := 0) rfl) rfl (lv_at hl 2 rfl) ?_
  refine lw_arg (A := fun q => s.heap.size ≤ q) (aN := 1) hx hb hX hbl hbA I1.2.2.2.1 hL (dl_14 (j := 1) rfl) (dl_14 (j := 2) rfl) (dl_14 (j := 3) rfl) (dl_14 (j := 4) rfl) (dl_14 (j := 5) rfl) rfl (by omega) hl ?_
  refine lw_arg (A := fun q => s.heap.size ≤ q) (aN := 2) hx hb hX hbl hbA I1.2.2.2.1 hL (dl_14 (j := 6) rfl) (dl_14 (j := 7) rfl) (dl_14 (j := 8) rfl) (dl_14 (j := 9) rfl) (dl_14 (j := 10) rfl) rfl (by omega) hl ?_
  refine lw_callR (as := [.int (xs (i + 1)), .int (xs (i + 2))]) (rest := [.int v]) C I1 (by decide) bR_rate (dl_14 (j := 11) rfl) (dd := 16) (by decide) e2 rfl rfl rfl rfl rfl rfl (Nat.le_of_ble_eq_true rfl) (Nat.le_of_ble_eq_true rfl) hl.1 (Nat.le_of_ble_eq_true rfl) (fun H2 locs2 I2 => ?_)
  exact lv_icmp_eq (tgt := 960) hx hb (dl_14 (j := 12) rfl) (by decide) (fun _ => K _ _ _ _ _ _ I2 hR') (fun h => absurd rfl h)
theorem bC_keep : lawB 101 122 1 798 799 800 53 801 = true := by decide +kernel
theorem bR_keep : lawB 180 125 1 1144 1145 1146 62 1147 = true := by decide +kernel
set_option maxRecDepth 20000 in
theorem law_keep {i : Nat} {g h : RG} {tr : Int64} {ls : Array Slot} (C : LC p s m meth c b L xs D cI cZ cC cN bl bh) (hi : i + 4 ≤ L) (hl : lv_has ls 4 [(0, .ref b), (1, .ref s.heap.size), (2, .ref (s.heap.size + 95)), (3, .int (nI i))]) (I : INVP s D cI cZ cC cN bl bh ρ1 (wC g tr) (wR h tr) H locs) (hR : RL g h)
    (K : ∀ (ρ : Nat → Nat) (g' h' : RG) (tr' : Int64) (H1 : Heap) (locs1 : List Loc), INVP s D cI cZ cC cN bl bh ρ (wC g' tr') (wR h' tr') H1 locs1 → RL g' h' → W p l e room_1 s m #[Value.ref b] below meth c H1 locs1 111 1429 Q (F0 m 960 ls [])) : W p l e room_1 s m #[Value.ref b] below meth c H locs 111 1429 Q (F0 m 877 ls []) := by
  obtain ⟨⟨hx, hb, hr, hml, hown, hts, hX, hbl, hlocks, hgv⟩, hL, hK, hNW, hao, hST⟩ := id C
  have hbA : ¬ s.heap.size ≤ b := by omega
  obtain ⟨r, g', h', tr', e1, e2, hR'⟩ := k_keep tr hR (xs (i + 1))
  obtain ⟨v, rfl⟩ := e1.int rfl
  refine lv_aload_n hx hb (dl_14 (j := 15) rfl) rfl (lv_at hl 1 rfl) ?_
  refine lw_arg (A := fun q => s.heap.size ≤ q) (aN := 1) hx hb hX hbl hbA I.2.2.2.1 hL (dl_14 (j := 16) rfl) (dl_14 (j := 17) rfl) (dl_14 (j := 18) rfl) (dl_14 (j := 19) rfl) (dl_14 (j := 20) rfl) rfl (by omega) hl ?_
  refine lw_callC (as := [.int (xs (i + 1))]) (rest := []) C I (by decide) bC_keep (dl_14 (j := 21) rfl) (dd := 16) (by decide) e1 rfl rfl rfl rfl rfl rfl (Nat.le_of_ble_eq_true rfl) (Nat.le_of_ble_eq_true rfl) hl.1 (Nat.le_of_ble_eq_true rfl) (fun H1 locs1 I1 => ?_)
  refine lv_aload_n hx hb (dl_14 (j := 22) rfl) rfl (lv_at hl 2 rfl) ?_
  refine lw_arg (A := fun q => s.heap.size ≤ q) (aN := 1) hx hb hX hbl hbA I1.2.2.2.1 hL (dl_14 (j := 23) rfl) (dl_14 (j := 24) rfl) (dl_14 (j := 25) rfl) (dl_14 (j := 26) rfl) (dl_14 (j := 27) rfl) rfl (by omega) hl ?_
  refine lw_callR (as := [.int (xs (i + 1))]) (rest := [.int v]) C I1 (by decide) bR_keep (dl_14 (j := 28) rfl) (dd := 16) (by decide) e2 rfl rfl rfl rfl rfl rfl (Nat.le_of_ble_eq_true rfl) (Nat.le_of_ble_eq_true rfl) hl.1 (Nat.le_of_ble_eq_true rfl) (fun H2 locs2 I2 => ?_)
  exact lv_icmp_eq (tgt := 960) hx hb (dl_14 (j := 29) rfl) (by decide) (fun _ => K _ _ _ _ _ _ I2 hR') (fun h => absurd rfl h)
theorem bC_back : lawB 102 126 1 803 804 805 53 806 = true := by decide +kernel
theorem bR_back : lawB 181 129 1 1148 1149 1150 62 1151 = true := by decide +kernel
set_option maxRecDepth 20000 in
theorem law_back {i : Nat} {g h : RG} {tr : Int64} {ls : Array Slot} (C : LC p s m meth c b L xs D cI cZ cC cN bl bh) (hi : i + 4 ≤ L) (hl : lv_has ls 4 [(0, .ref b), (1, .ref s.heap.size), (2, .ref (s.heap.size + 95)), (3, .int (nI i))]) (I : INVP s D cI cZ cC cN bl bh ρ1 (wC g tr) (wR h tr) H locs) (hR : RL g h)
    (K : ∀ (ρ : Nat → Nat) (g' h' : RG) (tr' : Int64) (H1 : Heap) (locs1 : List Loc), INVP s D cI cZ cC cN bl bh ρ (wC g' tr') (wR h' tr') H1 locs1 → RL g' h' → W p l e room_1 s m #[Value.ref b] below meth c H1 locs1 111 1429 Q (F0 m 960 ls [])) : W p l e room_1 s m #[Value.ref b] below meth c H locs 111 1429 Q (F0 m 900 ls []) := by
  obtain ⟨⟨hx, hb, hr, hml, hown, hts, hX, hbl, hlocks, hgv⟩, hL, hK, hNW, hao, hST⟩ := id C
  have hbA : ¬ s.heap.size ≤ b := by omega
  obtain ⟨r, g', h', tr', e1, e2, hR'⟩ := k_back tr hR (xs (i + 1))
  obtain ⟨v, rfl⟩ := e1.int rfl
  refine lv_aload_n hx hb (dl_14 (j := 32) rfl) rfl (lv_at hl 1 rfl) ?_
  refine lw_arg (A := fun q => s.heap.size ≤ q) (aN := 1) hx hb hX hbl hbA I.2.2.2.1 hL (dl_14 (j := 33) rfl) (dl_14 (j := 34) rfl) (dl_14 (j := 35) rfl) (dl_14 (j := 36) rfl) (dl_14 (j := 37) rfl) rfl (by omega) hl ?_
  refine lw_callC (as := [.int (xs (i + 1))]) (rest := []) C I (by decide) bC_back (dl_14 (j := 38) rfl) (dd := 16) (by decide) e1 rfl rfl rfl rfl rfl rfl (Nat.le_of_ble_eq_true rfl) (Nat.le_of_ble_eq_true rfl) hl.1 (Nat.le_of_ble_eq_true rfl) (fun H1 locs1 I1 => ?_)
  refine lv_aload_n hx hb (dl_14 (j := 39) rfl) rfl (lv_at hl 2 rfl) ?_
  refine lw_arg (A := fun q => s.heap.size ≤ q) (aN := 1) hx hb hX hbl hbA I1.2.2.2.1 hL (dl_15 (j := 0) rfl) (dl_15 (j := 1) rfl) (dl_15 (j := 2) rfl) (dl_15 (j := 3) rfl) (dl_15 (j := 4) rfl) rfl (by omega) hl ?_
  refine lw_callR (as := [.int (xs (i + 1))]) (rest := [.int v]) C I1 (by decide) bR_back (dl_15 (j := 5) rfl) (dd := 16) (by decide) e2 rfl rfl rfl rfl rfl rfl (Nat.le_of_ble_eq_true rfl) (Nat.le_of_ble_eq_true rfl) hl.1 (Nat.le_of_ble_eq_true rfl) (fun H2 locs2 I2 => ?_)
  exact lv_icmp_eq (tgt := 960) hx hb (dl_15 (j := 6) rfl) (by decide) (fun _ => K _ _ _ _ _ _ I2 hR') (fun h => absurd rfl h)
theorem bC_count : lawB 103 130 1 807 808 809 53 810 = true := by decide +kernel
theorem bR_count : lawB 182 133 1 1152 1153 1154 62 1155 = true := by decide +kernel
set_option maxRecDepth 20000 in
theorem law_count {i : Nat} {g h : RG} {tr : Int64} {ls : Array Slot} (C : LC p s m meth c b L xs D cI cZ cC cN bl bh) (hi : i + 4 ≤ L) (hl : lv_has ls 4 [(0, .ref b), (1, .ref s.heap.size), (2, .ref (s.heap.size + 95)), (3, .int (nI i))]) (I : INVP s D cI cZ cC cN bl bh ρ1 (wC g tr) (wR h tr) H locs) (hR : RL g h)
    (K : ∀ (ρ : Nat → Nat) (g' h' : RG) (tr' : Int64) (H1 : Heap) (locs1 : List Loc), INVP s D cI cZ cC cN bl bh ρ (wC g' tr') (wR h' tr') H1 locs1 → RL g' h' → W p l e room_1 s m #[Value.ref b] below meth c H1 locs1 111 1429 Q (F0 m 960 ls [])) : W p l e room_1 s m #[Value.ref b] below meth c H locs 111 1429 Q (F0 m 923 ls []) := by
  obtain ⟨⟨hx, hb, hr, hml, hown, hts, hX, hbl, hlocks, hgv⟩, hL, hK, hNW, hao, hST⟩ := id C
  have hbA : ¬ s.heap.size ≤ b := by omega
  obtain ⟨r, g', h', tr', e1, e2, hR'⟩ := k_count tr hR (xs (i + 1))
  obtain ⟨v, rfl⟩ := e1.int rfl
  refine lv_aload_n hx hb (dl_15 (j := 9) rfl) rfl (lv_at hl 1 rfl) ?_
  refine lw_arg (A := fun q => s.heap.size ≤ q) (aN := 1) hx hb hX hbl hbA I.2.2.2.1 hL (dl_15 (j := 10) rfl) (dl_15 (j := 11) rfl) (dl_15 (j := 12) rfl) (dl_15 (j := 13) rfl) (dl_15 (j := 14) rfl) rfl (by omega) hl ?_
  refine lw_callC (as := [.int (xs (i + 1))]) (rest := []) C I (by decide) bC_count (dl_15 (j := 15) rfl) (dd := 16) (by decide) e1 rfl rfl rfl rfl rfl rfl (Nat.le_of_ble_eq_true rfl) (Nat.le_of_ble_eq_true rfl) hl.1 (Nat.le_of_ble_eq_true rfl) (fun H1 locs1 I1 => ?_)
  refine lv_aload_n hx hb (dl_15 (j := 16) rfl) rfl (lv_at hl 2 rfl) ?_
  refine lw_arg (A := fun q => s.heap.size ≤ q) (aN := 1) hx hb hX hbl hbA I1.2.2.2.1 hL (dl_15 (j := 17) rfl) (dl_15 (j := 18) rfl) (dl_15 (j := 19) rfl) (dl_15 (j := 20) rfl) (dl_15 (j := 21) rfl) rfl (by omega) hl ?_
  refine lw_callR (as := [.int (xs (i + 1))]) (rest := [.int v]) C I1 (by decide) bR_count (dl_15 (j := 22) rfl) (dd := 16) (by decide) e2 rfl rfl rfl rfl rfl rfl (Nat.le_of_ble_eq_true rfl) (Nat.le_of_ble_eq_true rfl) hl.1 (Nat.le_of_ble_eq_true rfl) (fun H2 locs2 I2 => ?_)
  exact lv_icmp_eq (tgt := 960) hx hb (dl_15 (j := 23) rfl) (by decide) (fun _ => K _ _ _ _ _ _ I2 hR') (fun h => absurd rfl h)
theorem bC_trace : lawB 104 134 0 811 812 813 53 814 = true := by decide +kernel
theorem bR_trace : lawB 183 138 0 1156 1157 1158 62 1159 = true := by decide +kernel
set_option maxRecDepth 20000 in
theorem law_trace {i : Nat} {g h : RG} {tr : Int64} {ls : Array Slot} (C : LC p s m meth c b L xs D cI cZ cC cN bl bh) (hi : i + 4 ≤ L) (hl : lv_has ls 4 [(0, .ref b), (1, .ref s.heap.size), (2, .ref (s.heap.size + 95)), (3, .int (nI i))]) (I : INVP s D cI cZ cC cN bl bh ρ1 (wC g tr) (wR h tr) H locs) (hR : RL g h)
    (K : ∀ (ρ : Nat → Nat) (g' h' : RG) (tr' : Int64) (H1 : Heap) (locs1 : List Loc), INVP s D cI cZ cC cN bl bh ρ (wC g' tr') (wR h' tr') H1 locs1 → RL g' h' → W p l e room_1 s m #[Value.ref b] below meth c H1 locs1 111 1429 Q (F0 m 960 ls [])) : W p l e room_1 s m #[Value.ref b] below meth c H locs 111 1429 Q (F0 m 946 ls []) := by
  obtain ⟨⟨hx, hb, hr, hml, hown, hts, hX, hbl, hlocks, hgv⟩, hL, hK, hNW, hao, hST⟩ := id C
  have hbA : ¬ s.heap.size ≤ b := by omega
  obtain ⟨r, g', h', tr', e1, e2, hR'⟩ := k_trace tr hR 
  obtain ⟨v, rfl⟩ := e1.long rfl
  refine lv_aload_n hx hb (dl_15 (j := 26) rfl) rfl (lv_at hl 1 rfl) ?_
  refine lw_callC (as := []) (rest := []) C I (by decide) bC_trace (dl_15 (j := 27) rfl) (dd := 16) (by decide) e1 rfl rfl rfl rfl rfl rfl (Nat.le_of_ble_eq_true rfl) (Nat.le_of_ble_eq_true rfl) hl.1 (Nat.le_of_ble_eq_true rfl) (fun H1 locs1 I1 => ?_)
  refine lv_aload_n hx hb (dl_15 (j := 28) rfl) rfl (lv_at hl 2 rfl) ?_
  refine lw_callR (as := []) (rest := [.long v]) C I1 (by decide) bR_trace (dl_15 (j := 29) rfl) (dd := 16) (by decide) e2 rfl rfl rfl rfl rfl rfl (Nat.le_of_ble_eq_true rfl) (Nat.le_of_ble_eq_true rfl) hl.1 (Nat.le_of_ble_eq_true rfl) (fun H2 locs2 I2 => ?_)
  refine W.lcmp hx hb (dl_15 (j := 30) rfl) ?_
  rw [show lg_cmp v v = 0 from by simp [lg_cmp, Int64.lt_irrefl]]
  exact lv_if_eq (tgt := 960) hx hb (dl_15 (j := 31) rfl) (by decide) (fun _ => K _ _ _ _ _ _ I2 hR') (fun h => absurd rfl h)
end LAW2
