/-! what a change of the registers does to the relation -/
section UPD
variable {n q dn k o c kt : Nat} {g h g' h' : RG}
theorem hst_keep (H : HST n q dn g h) (hg : ∀ x, 30 ≤ x → x ≤ 42 → g' x = g x) (hh : ∀ x, 2 ≤ x → x ≤ 6 → h' x = h x) : HST n q dn g' h' := by
  unfold HST
  rw [hg 42 (by omega) (by omega), hg 32 (by omega) (by omega), hg 34 (by omega) (by omega), hg 35 (by omega) (by omega), hg 37 (by omega) (by omega), hg 30 (by omega) (by omega), hg 31 (by omega) (by omega), hg 38 (by omega) (by omega), hg 39 (by omega) (by omega), hg 40 (by omega) (by omega), hg 41 (by omega) (by omega), hh 2 (by omega) (by omega), hh 3 (by omega) (by omega), hh 4 (by omega) (by omega), hh 5 (by omega) (by omega), hh 6 (by omega) (by omega)]
  exact H
theorem txt_keep (H : TXT k g h) (g0 : g' 0 0 = g 0 0) (g1 : g' 1 = g 1) (h0 : h' 0 0 = h 0 0) (h1 : h' 1 = h 1) : TXT k g' h' := by
  unfold TXT
  rw [g0, g1, h0, h1]
  exact H
theorem his_keep (H : HIS n q o c g h) (hg : ∀ x, 60 ≤ x → x ≤ 90 → g' x = g x) (h6 : h' 0 6 = h 0 6) (h10 : h' 10 = h 10) : HIS n q o c g' h' := by
  refine ⟨H.1, H.2.1, by rw [hg 90 (by omega) (by omega)]; exact H.2.2.1, by rw [hg 90 (by omega) (by omega)]; exact H.2.2.2.1, by rw [h6]; exact H.2.2.2.2.1, fun i hi => ?_⟩
  rw [hg (60 + _) (by omega) (by omega), hg (61 + _) (by omega) (by omega), hg (62 + _) (by omega) (by omega), h10]
  exact H.2.2.2.2.2 i hi
theorem img_keep (H : IMG n q g h) (hg : ∀ x, 91 ≤ x → x ≤ 97 → g' x = g x) (h8 : h' 8 = h 8) (h9 : h' 9 = h 9) : IMG n q g' h' := by
  intro i hi
  rw [hg 97 (by omega) (by omega), hg (91 + _) (by omega) (by omega), hg (92 + _) (by omega) (by omega), hg (93 + _) (by omega) (by omega), h8, h9]
  exact H i hi
theorem tri_keep (H : TRI n kt g h) (hg : ∀ x, 98 ≤ x → x ≤ 100 → g' x = g x) (h7 : h' 0 7 = h 0 7) (h11 : h' 11 = h 11) (h12 : h' 12 = h 12) : TRI n kt g' h' := by
  unfold TRI
  rw [hg 98 (by omega) (by omega), hg 99 (by omega) (by omega), hg 100 (by omega) (by omega), h7, h11, h12]
  exact H
theorem rl_same (H : RLX n q dn k o c kt g h) (hg : ∀ x, x ≤ 100 → g' x = g x) (hh : ∀ x, x ≤ 12 → h' x = h x) : RLX n q dn k o c kt g' h' := by
  obtain ⟨a1, a2, a3, a4, a5, a6⟩ := H
  refine ⟨hst_keep a1 (fun x _ _ => hg x (by omega)) (fun x _ _ => hh x (by omega)), ?_, txt_keep a3 (by rw [hg 0 (by omega)]) (hg 1 (by omega)) (by rw [hh 0 (by omega)]) (hh 1 (by omega)), his_keep a4 (fun x _ _ => hg x (by omega)) (by rw [hh 0 (by omega)]) (hh 10 (by omega)), img_keep a5 (fun x _ _ => hg x (by omega)) (hh 8 (by omega)) (hh 9 (by omega)), tri_keep a6 (fun x _ _ => hg x (by omega)) (by rw [hh 0 (by omega)]) (hh 11 (by omega)) (hh 12 (by omega))⟩
  rw [hg 50 (by omega), hg 51 (by omega), hg 52 (by omega), hh 7 (by omega)]
  exact a2
theorem snp_congr {a b e r a' b' e' r' : Nat → Int32} (H : SNP n q a b e r) (h1 : ∀ t, t < n → a' t = a t ∧ b' t = b t ∧ r' t = r t ∧ r' (6 + t) = r (6 + t)) (h2 : ∀ p, p < q → e' p = e p ∧ r' (12 + p) = r (12 + p)) : SNP n q a' b' e' r' := by
  refine ⟨fun t ht => ?_, fun p hp => ?_⟩
  · obtain ⟨x1, x2, x3, x4⟩ := h1 t ht
    rw [x1, x2, x3, x4]
    exact H.1 t ht
  · obtain ⟨x1, x2⟩ := h2 p hp
    rw [x1, x2]
    exact H.2 p hp
theorem rem_rl (H : RLX n q dn k o c kt g h) {g1 h1 : RG} (hr : RMB g g1 o c) (hn : NOT h h1 c) : ∃ o' c', RLX n q dn k o' c' kt g1 h1 := by
  obtain ⟨a1, a2, a3, a4, a5, a6⟩ := H
  obtain ⟨b1, b2, -⟩ := id a1.1
  obtain ⟨o', k', r, e1, e2, e3, e4, e5, e6, e7, e8, e9⟩ := hr
  obtain ⟨k2, f1, f2, f3, f4, f5, f6⟩ := hn
  have hk : k2 = k' := by
    rcases e4 with ⟨x, _, y⟩ | ⟨x, _, y⟩ <;> rcases f2 with ⟨z, w, _⟩ | ⟨z, w, _⟩ <;> omega
  subst hk
  have hr10 : r < 10 := by omega
  have hg : ∀ x, x ≠ 90 → (x < 60 ∨ 89 < x) → g1 x = g x := fun x x1 x2 => e7 x x1 (by omega)
  have hh : ∀ x, x ≠ 0 → x ≠ 10 → h1 x = h x := f5
  refine ⟨o', k2 + 1, hst_keep a1 (fun x _ _ => hg x (by omega) (by omega)) (fun x _ _ => hh x (by omega) (by omega)), ?_, txt_keep a3 (by rw [hg 0 (by omega) (by omega)]) (hg 1 (by omega) (by omega)) (f6 0 (by omega)) (hh 1 (by omega) (by omega)), ⟨e1, by omega, e5, e6, f3, fun i hi => ?_⟩, img_keep a5 (fun x _ _ => hg x (by omega) (by omega)) (hh 8 (by omega) (by omega)) (hh 9 (by omega) (by omega)), tri_keep a6 (fun x _ _ => hg x (by omega) (by omega)) (f6 7 (by omega)) (hh 11 (by omega) (by omega)) (hh 12 (by omega) (by omega))⟩
  · rw [hg 50 (by omega) (by omega), hg 51 (by omega) (by omega), hg 52 (by omega) (by omega), hh 7 (by omega) (by omega)]
    exact a2
  · by_cases hik : i = k2
    · subst hik
      rw [← e3]
      refine snp_congr a2 (fun t ht => ?_) (fun p hp => ?_)
      · exact ⟨(e8 t (by omega)).1, (e8 t (by omega)).2, f4 t (by omega), f4 (6 + t) (by omega)⟩
      · exact ⟨e9 p (by omega), f4 (12 + p) (by omega)⟩
    · have hi2 : i < k2 := by omega
      have hne : (o' + i) % 10 ≠ r := by omega
      rw [e7 (60 + 3 * ((o' + i) % 10)) (by omega) (by omega), e7 (61 + 3 * ((o' + i) % 10)) (by omega) (by omega), e7 (62 + 3 * ((o' + i) % 10)) (by omega) (by omega)]
      rcases e4 with ⟨x1, x2, x3⟩ | ⟨x1, x2, x3⟩
      · subst x2
        have hf : ∀ i, i < 17 * k2 → h1 10 i = h 10 i := by
          rcases f2 with ⟨_, _, y⟩ | ⟨y, _⟩
          · exact y
          · omega
        refine snp_congr (a4.2.2.2.2.2 i (by omega)) (fun t ht => ⟨rfl, rfl, hf _ (by omega), hf _ (by omega)⟩) (fun p hp => ⟨rfl, hf _ (by omega)⟩)
      · have hf : ∀ i, i < 17 * k2 → h1 10 i = h 10 (i + 17) := by
          rcases f2 with ⟨y, z, _⟩ | ⟨_, _, y⟩
          · omega
          · exact y
        have hmod : (o' + i) % 10 = (o + (i + 1)) % 10 := by omega
        rw [hmod]
        have hs := a4.2.2.2.2.2 (i + 1) (by omega)
        refine snp_congr hs (fun t ht => ⟨rfl, rfl, ?_, ?_⟩) (fun p hp => ⟨rfl, ?_⟩)
        · show h1 10 (17 * i + t) = h 10 (17 * (i + 1) + t)
          rw [hf _ (by omega)]; congr 1; omega
        · show h1 10 (17 * i + (6 + t)) = h 10 (17 * (i + 1) + (6 + t))
          rw [hf _ (by omega)]; congr 1; omega
        · show h1 10 (17 * i + (12 + p)) = h 10 (17 * (i + 1) + (12 + p))
          rw [hf _ (by omega)]; congr 1; omega
theorem set_rl (H : RLX n q dn k o c kt g h) (hg : ∀ x, x ≠ 50 → x ≠ 51 → x ≠ 52 → g' x = g x) (hh : ∀ x, x ≠ 7 → h' x = h x) (hS : SNP n q (g' 50) (g' 51) (g' 52) (h' 7)) : RLX n q dn k o c kt g' h' := by
  obtain ⟨a1, a2, a3, a4, a5, a6⟩ := H
  exact ⟨hst_keep a1 (fun x _ _ => hg x (by omega) (by omega) (by omega)) (fun x _ _ => hh x (by omega)), hS, txt_keep a3 (by rw [hg 0 (by omega) (by omega) (by omega)]) (hg 1 (by omega) (by omega) (by omega)) (by rw [hh 0 (by omega)]) (hh 1 (by omega)), his_keep a4 (fun x _ _ => hg x (by omega) (by omega) (by omega)) (by rw [hh 0 (by omega)]) (hh 10 (by omega)), img_keep a5 (fun x _ _ => hg x (by omega) (by omega) (by omega)) (hh 8 (by omega)) (hh 9 (by omega)), tri_keep a6 (fun x _ _ => hg x (by omega) (by omega) (by omega)) (by rw [hh 0 (by omega)]) (hh 11 (by omega)) (hh 12 (by omega))⟩
/-- what does not fit any more is nobody's, in both -/
def FRQ (n q : Nat) (f f' : Nat → Int32) (F' : Nat → Int32) : Prop := (∀ t, t < n → OWR q (f t) (f' t)) ∧ ∀ x, n ≤ x → f' x = F' x
theorem fre_rel (v : VW) (hq : q ≤ 5) {F' : Nat → Int32} : ∀ (j t : Nat) (f f' : Nat → Int32), t + j ≤ n → FRQ n q f f' F' → FRQ n q (fo (stFR v) j t f) (fo (stRR v) j t f') F'
  | 0, _, _, _, _, h => h
  | j + 1, t, f, f', hj, h => by
    rw [fo_s, fo_s]
    refine fre_rel v hq j (t + 1) _ _ (by omega) ?_
    unfold stFR stRR
    rcases h.1 t (by omega) with ⟨x1, x2⟩ | ⟨p, hp, x1, x2⟩
    · rw [if_pos x1, if_pos (by rw [x2]; decide)]
      exact h
    · rw [if_neg (show ¬ f t = -9 by rw [x1]; exact nI_n9 (by omega)), if_neg (show ¬ f' t ≤ 0 by rw [x2]; exact nI_nle (by omega) (by omega)), x1, x2, nI_pred, nI_clamp (by omega)]
      by_cases hf : fpB v t p = true
      · rw [if_pos hf, if_pos hf]; exact h
      · rw [if_neg hf, if_neg hf]
        refine ⟨fun y hy => ?_, fun y hy => ?_⟩
        · by_cases e : y = t
          · subst e; rw [pk_us, pk_us]; exact Or.inl ⟨rfl, rfl⟩
          · rw [pk_un e, pk_un e]; exact h.1 y hy
        · rw [pk_un (by omega)]; exact h.2 y hy
end UPD
