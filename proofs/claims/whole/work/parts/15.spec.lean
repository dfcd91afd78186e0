/-! THE SPECIFICATION: what the house answers, over a view v of it. n THINGS, q PEOPLE, dn DOORS.
v 0 use, 1 scale, 2 size, 3 minutes of a THING; 4 scale, 5 size of a PERSON; 6 LOW, 7 HIGH of a use; 8 from, 9 until, 10 scale, 11 size of a DOOR; 12 whose a THING is (-9 none) -/
abbrev VW : Type := Nat → Nat → Int32
def cut (n : Nat) (f : Nat → Int32) : Nat → Int32 := fun t => if t < n then f t else 0
theorem cut_lt {n t : Nat} {f : Nat → Int32} (h : t < n) : cut n f t = f t := if_pos h
def vC (n q dn : Nat) (g : Nat → Nat → Int32) : VW := fun r => match r with
  | 0 => cut n (g 32) | 1 => cut n (g 51) | 2 => cut n (g 34) | 3 => cut n (g 35)
  | 4 => cut q (g 52) | 5 => cut q (g 37) | 6 => cut 3 (g 30) | 7 => cut 3 (g 31)
  | 8 => cut dn (g 38) | 9 => cut dn (g 39) | 10 => cut dn (g 40) | 11 => cut dn (g 41)
  | 12 => cut n (g 50) | _ => fun _ => 0
def vR (n q dn : Nat) (g : Nat → Nat → Int32) : VW := fun r => match r with
  | 0 => cut n (fun t => g 3 (4 * t)) | 1 => cut n (fun t => g 7 (6 + t)) | 2 => cut n (fun t => g 3 (4 * t + 2)) | 3 => cut n (fun t => g 3 (4 * t + 3))
  | 4 => cut q (fun t => g 7 (12 + t)) | 5 => cut q (fun t => g 4 (2 * t + 1)) | 6 => cut 3 (fun t => g 6 (2 * t)) | 7 => cut 3 (fun t => g 6 (2 * t + 1))
  | 8 => cut dn (fun t => g 5 (4 * t)) | 9 => cut dn (fun t => g 5 (4 * t + 1)) | 10 => cut dn (fun t => g 5 (4 * t + 2)) | 11 => cut dn (fun t => g 5 (4 * t + 3))
  | 12 => cut n (fun t => if g 7 t = 0 then -9 else g 7 t - 1) | _ => fun _ => 0
def btw (a b : Nat) (x : Int32) : Prop := ∃ k, a ≤ k ∧ k ≤ b ∧ x = nI k
/-- what holds of every house -/
def WF (n q dn : Nat) (v : VW) : Prop := (n ≤ 6 ∧ q ≤ 5 ∧ dn ≤ 3) ∧ (∀ t, t < n → btw 0 2 (v 0 t) ∧ btw 1 48 (v 1 t) ∧ btw 1 99 (v 2 t) ∧ btw 1 9 (v 3 t)) ∧ (∀ p, p < q → btw 1 48 (v 4 p) ∧ btw 1 99 (v 5 p)) ∧ (∀ u, u < 3 → btw 0 60 (v 6 u) ∧ btw 0 60 (v 7 u)) ∧
  (∀ k, k < dn → btw 0 60 (v 8 k) ∧ btw 0 99 (v 9 k) ∧ btw 1 48 (v 10 k) ∧ btw 1 99 (v 11 k)) ∧ (∀ t, t < n → v 12 t = -9 ∨ ∃ p, p < q ∧ v 12 t = nI p)
def CI (n q dn : Nat) (g : Nat → Nat → Int32) : Prop := g 42 0 = nI n ∧ g 42 1 = nI q ∧ g 42 2 = nI dn ∧ WF n q dn (vC n q dn g)
def RI (n q dn : Nat) (g : Nat → Nat → Int32) : Prop := g 2 0 = nI n ∧ g 2 1 = nI q ∧ g 2 2 = nI dn ∧ WF n q dn (vR n q dn g) ∧ ∀ t, t < n → g 7 t = 0 ∨ ∃ p, p < q ∧ g 7 t = nI (p + 1)
section CIL
variable {n q dn : Nat} {g : Nat → Nat → Int32}
theorem CI.b (h : CI n q dn g) : n ≤ 6 ∧ q ≤ 5 ∧ dn ≤ 3 := h.2.2.2.1
theorem RI.b (h : RI n q dn g) : n ≤ 6 ∧ q ≤ 5 ∧ dn ≤ 3 := h.2.2.2.1.1
theorem CI.hn (h : CI n q dn g) : g 42 0 = nI n := h.1
theorem CI.hq (h : CI n q dn g) : g 42 1 = nI q := h.2.1
theorem CI.hd (h : CI n q dn g) : g 42 2 = nI dn := h.2.2.1
theorem RI.hn (h : RI n q dn g) : g 2 0 = nI n := h.1
theorem RI.hq (h : RI n q dn g) : g 2 1 = nI q := h.2.1
theorem RI.hd (h : RI n q dn g) : g 2 2 = nI dn := h.2.2.1
theorem CI.w (h : CI n q dn g) : WF n q dn (vC n q dn g) := h.2.2.2
theorem RI.w (h : RI n q dn g) : WF n q dn (vR n q dn g) := h.2.2.2.1
theorem RI.o (h : RI n q dn g) : ∀ t, t < n → g 7 t = 0 ∨ ∃ p, p < q ∧ g 7 t = nI (p + 1) := h.2.2.2.2
theorem CI.use (h : CI n q dn g) {t : Nat} (ht : t < n) : ∃ u, u < 3 ∧ g 32 t = nI u := by
  obtain ⟨u, -, h2, h3⟩ := (h.w.2.1 t ht).1
  exact ⟨u, by omega, by rw [← h3]; exact (cut_lt ht).symm⟩
theorem RI.use (h : RI n q dn g) {t : Nat} (ht : t < n) : ∃ u, u < 3 ∧ g 3 (4 * t) = nI u := by
  obtain ⟨u, -, h2, h3⟩ := (h.w.2.1 t ht).1
  exact ⟨u, by omega, by rw [← h3]; exact (cut_lt (f := fun t => g 3 (4 * t)) ht).symm⟩
end CIL
def bI (b : Bool) : Int32 := if b = true then 1 else 0
theorem bI_0 {b : Bool} : bI b = 0 ↔ b = false := by cases b <;> simp [bI]
theorem bI_01 {b : Bool} : bI b = 0 ∨ bI b = 1 := by cases b <;> simp [bI]
theorem bI_nar {b : Bool} : rNar (some .boolean) (bI b) = true := by cases b <;> rfl
theorem Ev.brB {d M i : Nat} {ls st : List Value} {w w' : AW} {r : Option Value} {c : List Row} {row : Row} {i1 i2 : Nat} {ls' st' : List Value} {b : Bool} (hc : mP M = c) (hr : c[i]? = some row) (h : nx1 row i ls st w = some (if bI b = 0 then i1 else i2, ls', st')) (k1 : b = false → Ev d M i1 ls' st' w r w') (k2 : b = true → Ev d M i2 ls' st' w r w') : Ev d M i ls st w r w' :=
  Ev.br hc hr h (fun h => k1 (bI_0.mp h)) (fun h => k2 (by
    cases b
    · exact absurd rfl h
    · rfl))
theorem Ev.cg {d M i : Nat} {ls ls2 st : List Value} {w w' : AW} {r : Option Value} (h : Ev d M i ls st w r w') (e : ls = ls2) : Ev d M i ls2 st w r w' := e ▸ h
def anyN (f : Nat → Bool) : Nat → Nat → Bool
  | 0, _ => false
  | k + 1, p => if f p = true then true else anyN f k (p + 1)
def ux (v : VW) (t : Nat) : Nat := (v 0 t).toNatClampNeg
/-- a THING of a scale FITS one of a size at a scale -/
def fitB (v : VW) (t : Nat) (its sc size : Int32) : Bool := decide (v 6 (ux v t) * (size * its) ≤ 20 * v 2 t * sc) && decide (20 * v 2 t * sc ≤ v 7 (ux v t) * (size * its))
def fpB (v : VW) (t p : Nat) : Bool := fitB v t (v 1 t) (v 4 p) (v 5 p)
def PIF (q : Nat) (v : VW) (t : Nat) : Int32 := fo (fun p a => if fpB v t p = true then a ||| bitI p else a) q 0 0
def ULS (n q : Nat) (v : VW) : Int32 := fo (fun t a => if PIF q v t = 0 then a ||| bitI t else a) n 0 0
def BAR (n q : Nat) (v : VW) (u : Int32) : Int32 := fo (fun t a => if v 0 t = u then a &&& (PIF q v t ^^^ (-1)) else a) n 0 ((1 <<< (nI q &&& 31)) - 1)
def TOF (n : Nat) (v : VW) (p : Int32) : Int32 := fo (fun t a => if v 12 t = p then a ||| bitI t else a) n 0 0
def OWN (n : Nat) (v : VW) : Int32 := fo (fun t a => if v 12 t = -9 then a else a ||| bitI t) n 0 0
def HOO (n : Nat) (v : VW) (p u : Int32) : Bool := anyN (fun t => decide (v 12 t = p) && decide (v 0 t = u)) n 0
def TWO (n q : Nat) (v : VW) (s : Int32) : Int32 := fo (fun t a => fo (fun p a => if fitB v t s (v 4 p) (v 5 p) = true then a + 1 else a) q 0 a) n 0 0
def THF (n : Nat) (v : VW) (size sc : Int32) : Int32 := fo (fun t a => if fitB v t (v 1 t) sc size = true then a + 1 else a) n 0 0
def SMT (q : Nat) (v : VW) (p : Nat) : Int32 := fo (fun e a => if v 5 e * v 4 p < v 5 p * v 4 e then a + 1 else a) q 0 0
def CHR (n : Nat) (v : VW) : Int32 := fo (fun t a => if v 0 t = 0 then a + 1 else a) n 0 0
def COM (q : Nat) (v : VW) : Int64 := fo (fun p a => a * (v 4 p).toInt64) q 0 1
def HGT (v : VW) (p : Nat) (unit : Int64) : Int64 := if v 4 p = 0 then 0 else (v 5 p).toInt64 * (unit / (v 4 p).toInt64)
def HGA (q : Nat) (v : VW) (unit : Int64) : Int64 := fo (fun p a => a + HGT v p unit) q 0 0
