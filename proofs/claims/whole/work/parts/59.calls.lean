/-! THE CALLS: both answer alike, and the relation holds -/
theorem k_use {g h : RG} (tr : Int64) (hR : RL g h) (a b : Int32) : CQ 16 77 [.ref 0, .int a, .int b] 16 139 [.ref 0, .int a, .int b] g h tr := by
  obtain ⟨n, q, dn, k, o, c, kt, hX⟩ := hR
  have hC := core_C hX.1 hX.2.1
  have hI := core_R hX.1 hX.2.1
  have hv := core_v hX.1 hX.2.1
  refine ⟨.int (S_use (vC n q dn g) a b), g, h, tr, c_X8_use 15 g tr hC a b, ?_, ⟨n, q, dn, k, o, c, kt, hX⟩⟩
  rw [hv]
  exact c_X9_use 15 h tr hI a b
theorem k_thing {g h : RG} (tr : Int64) (hR : RL g h) (a b : Int32) : CQ 16 78 [.ref 0, .int a, .int b] 16 140 [.ref 0, .int a, .int b] g h tr := by
  obtain ⟨n, q, dn, k, o, c, kt, hX⟩ := hR
  have hC := core_C hX.1 hX.2.1
  have hI := core_R hX.1 hX.2.1
  have hv := core_v hX.1 hX.2.1
  refine ⟨.int (S_thing n q (vC n q dn g) a b), g, h, tr, c_X8_thing 13 g tr hC a b, ?_, ⟨n, q, dn, k, o, c, kt, hX⟩⟩
  rw [hv]
  exact c_X9_thing 12 h tr hI a b
theorem k_person {g h : RG} (tr : Int64) (hR : RL g h) (a b : Int32) : CQ 16 79 [.ref 0, .int a, .int b] 16 143 [.ref 0, .int a, .int b] g h tr := by
  obtain ⟨n, q, dn, k, o, c, kt, hX⟩ := hR
  have hC := core_C hX.1 hX.2.1
  have hI := core_R hX.1 hX.2.1
  have hv := core_v hX.1 hX.2.1
  refine ⟨.int (S_person n q (vC n q dn g) a b), g, h, tr, c_X8_person 15 g tr hC a b, ?_, ⟨n, q, dn, k, o, c, kt, hX⟩⟩
  rw [hv]
  exact c_X9_person 14 h tr hI a b
theorem k_door {g h : RG} (tr : Int64) (hR : RL g h) (a b : Int32) : CQ 16 80 [.ref 0, .int a, .int b] 16 144 [.ref 0, .int a, .int b] g h tr := by
  obtain ⟨n, q, dn, k, o, c, kt, hX⟩ := hR
  have hC := core_C hX.1 hX.2.1
  have hI := core_R hX.1 hX.2.1
  have hv := core_v hX.1 hX.2.1
  refine ⟨.int (S_door dn (vC n q dn g) a b), g, h, tr, c_X8_door 16 g tr hC a b, ?_, ⟨n, q, dn, k, o, c, kt, hX⟩⟩
  rw [hv]
  exact c_X9_door 15 h tr hI a b
theorem k_now {g h : RG} (tr : Int64) (hR : RL g h) (a : Int32) : CQ 16 81 [.ref 0, .int a] 16 148 [.ref 0, .int a] g h tr := by
  obtain ⟨n, q, dn, k, o, c, kt, hX⟩ := hR
  have hC := core_C hX.1 hX.2.1
  have hI := core_R hX.1 hX.2.1
  have hv := core_v hX.1 hX.2.1
  refine ⟨.int (S_now n q (vC n q dn g) (g 90 1) a), g, h, tr, c_X8_now 12 g tr hC a, ?_, ⟨n, q, dn, k, o, c, kt, hX⟩⟩
  rw [hv, hX.2.2.2.1.2.2.2.1, ← hX.2.2.2.1.2.2.2.2.1]
  exact c_X9_now 11 h tr hI a
theorem k_count {g h : RG} (tr : Int64) (hR : RL g h) (a : Int32) : CQ 16 103 [.ref 0, .int a] 16 182 [.ref 0, .int a] g h tr := by
  obtain ⟨n, q, dn, k, o, c, kt, hX⟩ := hR
  have hC := core_C hX.1 hX.2.1
  have hI := core_R hX.1 hX.2.1
  have hv := core_v hX.1 hX.2.1
  refine ⟨.int (S_count n q dn (g 100 0) (g 0 0) a), g, h, tr, c_X8_count 15 g tr hC a, ?_, ⟨n, q, dn, k, o, c, kt, hX⟩⟩
  rw [hX.2.2.2.2.2.2.1, hX.2.2.1.2.1, ← hX.2.2.2.2.2.2.2.1, ← hX.2.2.1.2.2.1]
  exact c_X9_count 15 h tr hI a
theorem k_mayBe {g h : RG} (tr : Int64) (hR : RL g h) (a b : Int32) : CQ 16 90 [.ref 0, .int a, .int b] 16 162 [.ref 0, .int a, .int b, .null, .null, .null] g h tr := by
  obtain ⟨n, q, dn, k, o, c, kt, hX⟩ := hR
  have hC := core_C hX.1 hX.2.1
  have hI := core_R hX.1 hX.2.1
  have hv := core_v hX.1 hX.2.1
  refine ⟨.int (S_mayBe kt (tC kt g) (vC n q dn g) a b), g, h, tr, c_X8_mayBe 12 g tr hC hX.2.2.2.2.2.2.1 (tri_TI hX.2.2.2.2.2) a b, ?_, ⟨n, q, dn, k, o, c, kt, hX⟩⟩
  rw [hv, tri_v hX.2.2.2.2.2]
  exact c_X9_mayBe 13 h tr hI hX.2.2.2.2.2.2.2.1 (tri_TR hX.2.2.2.2.2) a b
theorem k_next {g h : RG} (tr : Int64) (hR : RL g h) (a b : Int32) : CQ 16 91 [.ref 0, .int a, .int b, .null] 16 164 [.ref 0, .int a, .int b, .null, .null] g h tr := by
  obtain ⟨n, q, dn, k, o, c, kt, hX⟩ := hR
  have hC := core_C hX.1 hX.2.1
  have hI := core_R hX.1 hX.2.1
  have hv := core_v hX.1 hX.2.1
  refine ⟨.int (S_next n kt (tC kt g) (vC n q dn g) a b), g, h, tr, c_X8_next 11 g tr hC hX.2.2.2.2.2.2.1 (tri_TI hX.2.2.2.2.2) a b, ?_, ⟨n, q, dn, k, o, c, kt, hX⟩⟩
  rw [hv, tri_v hX.2.2.2.2.2]
  exact c_X9_next 12 h tr hI hX.2.2.2.2.2.2.2.1 (tri_TR hX.2.2.2.2.2) a b
theorem k_turnsOfAll {g h : RG} (tr : Int64) (hR : RL g h) : CQ 16 97 [.ref 0, .null, .null] 16 174 [.ref 0, .null, .null] g h tr := by
  obtain ⟨n, q, dn, k, o, c, kt, hX⟩ := hR
  have hC := core_C hX.1 hX.2.1
  have hI := core_R hX.1 hX.2.1
  have hv := core_v hX.1 hX.2.1
  refine ⟨.int (if (if nI q < CHR n (vC n q dn g) then nI q else CHR n (vC n q dn g)) = 0 then -9 else (ilt (nI q).toInt64 (if nI q < CHR n (vC n q dn g) then nI q else CHR n (vC n q dn g)).toInt64 0).toInt32), g, h, tr, c_X8_turnsOfAll 14 g tr hC, ?_, ⟨n, q, dn, k, o, c, kt, hX⟩⟩
  rw [hv]
  exact c_X9_turnsOfAll 15 h tr hI
theorem k_trace {g h : RG} (tr : Int64) (hR : RL g h) : CQ 16 104 [.ref 0] 16 183 [.ref 0] g h tr := by
  exact ⟨.long tr, g, h, tr, c_X8_trace 16 g tr, c_X9_trace 16 h tr, hR⟩
theorem k_rate {g h : RG} (tr : Int64) (hR : RL g h) (a b : Int32) : CQ 16 100 [.ref 0, .int a, .int b] 16 179 [.ref 0, .int a, .int b, .null, .null, .null] g h tr := by
  obtain ⟨n, q, dn, k, o, c, kt, hX⟩ := hR
  have hC := core_C hX.1 hX.2.1
  have hI := core_R hX.1 hX.2.1
  have hv := core_v hX.1 hX.2.1
  refine ⟨.int (S_rate n q (vC n q dn g) a b), g, h, S_trc n tr a b, c_X8_rate 12 g tr hC a b, ?_, ⟨n, q, dn, k, o, c, kt, hX⟩⟩
  rw [hv]
  exact c_X9_rate 12 h tr hI a b
theorem k_mean {g h : RG} (tr : Int64) (hR : RL g h) (a : Int32) : CQ 16 96 [.ref 0, .int a, .null, .null, .null] 16 173 [.ref 0, .int a, .null, .null, .null, .null, .null, .null, .null] g h tr := by
  obtain ⟨n, q, dn, k, o, c, kt, hX⟩ := hR
  have hC := core_C hX.1 hX.2.1
  have hI := core_R hX.1 hX.2.1
  have hv := core_v hX.1 hX.2.1
  cases hg : (decide (a = 0) || decide (a = 1)) with
  | false => exact ⟨.long (-1), g, h, tr, c_X8_mean_b 14 g tr hC a hg, c_X9_mean_b 15 h tr hI a hg, ⟨n, q, dn, k, o, c, kt, hX⟩⟩
  | true =>
    refine ⟨_, g, h, tr, c_X8_mean_s 14 g tr hC a hg, ?_, ⟨n, q, dn, k, o, c, kt, hX⟩⟩
    rw [hv]
    exact c_X9_mean_s 15 h tr hI a hg
theorem k_bestScale {g h : RG} (tr : Int64) (hR : RL g h) (a : Int32) : CQ 16 92 [.ref 0, .int a, .null] 16 166 [.ref 0, .int a, .null, .null] g h tr := by
  obtain ⟨n, q, dn, k, o, c, kt, hX⟩ := hR
  have hC := core_C hX.1 hX.2.1
  have hI := core_R hX.1 hX.2.1
  have hv := core_v hX.1 hX.2.1
  cases hg : (decide (a = 0) || decide (a = 1)) with
  | false => exact ⟨.int (-1), g, h, tr, c_X8_bestScale_b 14 g tr hC a hg, c_X9_bestScale_b 13 h tr hI a hg, ⟨n, q, dn, k, o, c, kt, hX⟩⟩
  | true =>
    refine ⟨_, _, h, tr, c_X8_bestScale_s 14 g tr hC a hg, ?_, ⟨n, q, dn, k, o, c, kt, rl_same hX (fun x hx => va_up_ne _ _ (by omega)) (fun x hx => rfl)⟩⟩
    rw [hv]
    exact c_X9_bestScale_s 13 h tr hI a hg
theorem k_oneMore {g h : RG} (tr : Int64) (hR : RL g h) (a b : Int32) : CQ 16 93 [.ref 0, .int a, .int b, .null] 16 168 [.ref 0, .int a, .int b, .null, .null] g h tr := by
  obtain ⟨n, q, dn, k, o, c, kt, hX⟩ := hR
  have hC := core_C hX.1 hX.2.1
  have hI := core_R hX.1 hX.2.1
  have hv := core_v hX.1 hX.2.1
  cases hg : gSz a b with
  | false => exact ⟨.int (-1), g, h, tr, c_X8_oneMore_b 13 g tr hC a b hg, c_X9_oneMore_b 13 h tr hI a b hg, ⟨n, q, dn, k, o, c, kt, hX⟩⟩
  | true =>
    refine ⟨_, _, h, tr, c_X8_oneMore_s 13 g tr hC a b hg, ?_, ⟨n, q, dn, k, o, c, kt, rl_same hX (fun x hx => va_up_ne _ _ (by omega)) (fun x hx => rfl)⟩⟩
    rw [hv]
    exact c_X9_oneMore_s 13 h tr hI a b hg
theorem k_housed {g h : RG} (tr : Int64) (hR : RL g h) (a : Int32) : CQ 16 86 [.ref 0, .int a, .null] 16 157 [.ref 0, .int a, .null] g h tr := by
  obtain ⟨n, q, dn, k, o, c, kt, hX⟩ := hR
  have hC := core_C hX.1 hX.2.1
  have hI := core_R hX.1 hX.2.1
  have hv := core_v hX.1 hX.2.1
  have hb := hC.b
  cases hg : (decide (a = 0) || decide (a = 1)) with
  | false => exact ⟨.int (-1), g, h, tr, c_X8_housed_b 15 g tr a hg, c_X9_housed_b 15 h tr a hg, ⟨n, q, dn, k, o, c, kt, hX⟩⟩
  | true =>
    obtain ⟨R, e⟩ := c_X8_housed_s g tr hC (D := 13) (by omega) a hg
    refine ⟨_, _, h, tr, e, ?_, ⟨n, q, dn, k, o, c, kt, rl_same hX (fun x hx => va_up_ne _ _ (by omega)) (fun x hx => rfl)⟩⟩
    rw [hv]
    exact c_X9_housed_s 11 h tr hI a hg
theorem k_laying {g h : RG} (tr : Int64) (hR : RL g h) (a b : Int32) : CQ 16 87 [.ref 0, .int a, .int b] 16 158 [.ref 0, .int a, .int b, .null, .null, .null, .null] g h tr := by
  obtain ⟨n, q, dn, k, o, c, kt, hX⟩ := hR
  have hC := core_C hX.1 hX.2.1
  have hI := core_R hX.1 hX.2.1
  have hv := core_v hX.1 hX.2.1
  have hb := hC.b
  cases hg : ((decide (0 ≤ a) && decide (a < nI q)) && (decide (0 ≤ b) && decide (b < 3))) with
  | false => exact ⟨.int (-1), g, h, tr, c_X8_laying_b 15 g tr hC a b hg, c_X9_laying_b 14 h tr hI a b hg, ⟨n, q, dn, k, o, c, kt, hX⟩⟩
  | true =>
    rw [Bool.and_eq_true] at hg
    obtain ⟨p, hp, rfl⟩ := ixB (by omega) hg.1
    obtain ⟨u, hu, rfl⟩ := ixB (n := 3) (by omega) hg.2
    obtain ⟨R, e⟩ := c_X8_laying_s g tr hC (D := 12) (by omega) hp hu
    obtain ⟨L, e2⟩ := c_X9_laying_s 11 h tr hI hp hu
    rw [← hv] at e2
    exact ⟨_, _, _, tr, e, e2, ⟨n, q, dn, k, o, c, kt, rl_same hX (fun x hx => va_up_ne _ _ (by omega)) (fun x hx => va_up_ne _ _ (by omega))⟩⟩
theorem k_carried {g h : RG} (tr : Int64) (hR : RL g h) (a : Int32) : CQ 16 95 [.ref 0, .int a, .null] 16 171 [.ref 0, .int a, .null, .null, .null, .null, .null] g h tr := by
  obtain ⟨n, q, dn, k, o, c, kt, hX⟩ := hR
  have hC := core_C hX.1 hX.2.1
  have hI := core_R hX.1 hX.2.1
  have hv := core_v hX.1 hX.2.1
  obtain ⟨g', e1, e2⟩ := c_X8_carried 12 g tr hC a
  obtain ⟨h', e3, e4⟩ := c_X9_carried 15 h tr hI a
  rw [← hv, ← car_eq hC.w] at e3
  exact ⟨_, _, _, tr, e1, e3, ⟨n, q, dn, k, o, c, kt, rl_same hX (fun x hx => e2 x (by omega) (by omega)) (fun x hx => e4 x (by omega) (by omega))⟩⟩
theorem k_share {g h : RG} (tr : Int64) (hR : RL g h) (a b : Int32) : CQ 16 98 [.ref 0, .int a, .int b, .null, .null, .null, .null] 16 175 [.ref 0, .int a, .int b, .null, .null, .null, .null, .null, .null, .null, .null] g h tr := by
  obtain ⟨n, q, dn, k, o, c, kt, hX⟩ := hR
  have hC := core_C hX.1 hX.2.1
  have hI := core_R hX.1 hX.2.1
  have hv := core_v hX.1 hX.2.1
  have hb := hC.b
  cases hg : ((decide (0 ≤ a) && decide (a < nI q)) && (decide (1 ≤ b) && decide (b ≤ 999))) with
  | false => exact ⟨.int (-1), g, h, tr, c_X8_share_b 14 g tr hC a b hg, c_X9_share_b 14 h tr hI a b hg, ⟨n, q, dn, k, o, c, kt, hX⟩⟩
  | true =>
    rw [Bool.and_eq_true] at hg
    obtain ⟨p, hp, rfl⟩ := ixB (by omega) hg.1
    refine ⟨_, g, h, tr, c_X8_share_s 14 g tr hC hp b hg.2, ?_, ⟨n, q, dn, k, o, c, kt, hX⟩⟩
    rw [hv]
    exact c_X9_share_s 14 h tr hI hp b hg.2
theorem k_odds {g h : RG} (tr : Int64) (hR : RL g h) (a b e : Int32) : CQ 16 99 [.ref 0, .int a, .int b, .int e, .null, .null, .null, .null] 16 178 [.ref 0, .int a, .int b, .int e, .null, .null, .null, .null] g h tr := by
  obtain ⟨n, q, dn, k, o, c, kt, hX⟩ := hR
  have hC := core_C hX.1 hX.2.1
  have hI := core_R hX.1 hX.2.1
  have hv := core_v hX.1 hX.2.1
  have hb := hC.b
  cases hg : ((decide (0 ≤ a) && decide (a ≤ 10)) && ((decide (0 ≤ b) && decide (b ≤ 6)) && (decide (e = 0) || decide (e = 1)))) with
  | false => exact ⟨.int (-1), g, h, tr, c_X8_odds_b 12 g tr hC a b e hg, c_X9_odds_b 11 h tr hI a b e hg, ⟨n, q, dn, k, o, c, kt, hX⟩⟩
  | true =>
    rw [Bool.and_eq_true, Bool.and_eq_true (decide (0 ≤ b) && decide (b ≤ 6))] at hg
    obtain ⟨p, hp, rfl⟩ := (rngB (k := 10) (by omega)).mp hg.1
    obtain ⟨j, hj, rfl⟩ := (rngB (k := 6) (by omega)).mp hg.2.1
    obtain ⟨mm, hm, hU⟩ := ULS_m hb.1 q (vC n q dn g)
    have hbc := bc64 mm hm
    have hu : bcI (ULS n q (vC n q dn g)) = nI ((bcI (nI mm)).toNatClampNeg) := by rw [hU]; exact hbc.1
    have hu2 : ONE (ULS n q (vR n q dn h)) = nI ((bcI (nI mm)).toNatClampNeg) := by rw [← hv, ONE_of ⟨mm, hm, hU⟩]; exact hu
    refine ⟨_, g, h, tr, c_X8_odds_s 12 g tr hC e ⟨nI_pos' (by omega), nI_le (b := 10) hp (by omega)⟩ hj hbc.2 hg.2.2 hu, ?_, ⟨n, q, dn, k, o, c, kt, hX⟩⟩
    exact c_X9_odds_s 11 h tr hI e hp hj hbc.2 hg.2.2 hu2
