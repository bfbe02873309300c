/-! what the methods answer, in numbers -/
def zPl (ch ta ki lo d : Int) : Int := if ki = 2 then (if lo = d then (ch + ta + 3) / 2 + 2 else 0) else if ki = 1 then (ch + ta + (if lo = d then 3 else 0)) / 2 else ch + ta + (if lo = d then 3 else 0)
def zPC (w : zW) (g d : Int) : Int := zPl (w.1 7 d) (w.1 10 g) (w.1 9 g) (w.1 11 g) d
def zPM (w : zW) (g d : Int) : Int := zPl (w.1 34 d) (w.1 37 g) (w.1 36 g) (w.1 38 g) d
theorem zPl_in {ch ta ki lo d : Int} (h1 : 0 ≤ ch) (h2 : ch ≤ 9) (h3 : 0 ≤ ta) (h4 : ta ≤ 9) : 0 ≤ zPl ch ta ki lo d ∧ zPl ch ta ki lo d ≤ 21 := by
  unfold zPl
  (repeat' split) <;> omega
theorem zPC_in {w : zW} (h : zOk w) (g d : Int) : 0 ≤ zPC w g d ∧ zPC w g d ≤ 21 := zPl_in (h 7 d).1 (h 7 d).2 (h 10 g).1 (h 10 g).2
theorem zPM_in {w : zW} (h : zOk w) (g d : Int) : 0 ≤ zPM w g d ∧ zPM w g d ≤ 21 := zPl_in (h 34 d).1 (h 34 d).2 (h 37 g).1 (h 37 g).2
def zSet (P : Int → Bool) : Nat → Int
  | 0 => 0
  | n + 1 => if P (n : Int) then zior (zSet P n) (zshl 1 (n : Int)) else zSet P n
theorem zSet_0 (P : Int → Bool) : zSet P (Int.toNat 0) = 0 := rfl
theorem zSet_s (P : Int → Bool) {i : Int} (h : 0 ≤ i) : zSet P (i + 1).toNat = if P i then zior (zSet P i.toNat) (zshl 1 i) else zSet P i.toNat := by
  have e : (i + 1).toNat = i.toNat + 1 := by omega
  have e2 : ((i.toNat : Nat) : Int) = i := Int.toNat_of_nonneg h
  rw [e]
  show (if P ((i.toNat : Nat) : Int) then zior (zSet P i.toNat) (zshl 1 ((i.toNat : Nat) : Int)) else zSet P i.toNat) = _
  rw [e2]
theorem zior_in (x y : Int) : zin (zior x y) := zto_in _
theorem zSet_in (P : Int → Bool) : ∀ n, zin (zSet P n)
  | 0 => (⟨by decide, by decide⟩ : zin 0)
  | n + 1 => by
    unfold zSet
    split
    · exact zior_in _ _
    · exact zSet_in P n
theorem zior_0 {x : Int} (h : zin x) : zior x 0 = x := by
  unfold zior
  rw [show Int32.ofInt 0 = 0 from by decide +kernel, Int32.or_zero, zi_to h]
theorem zSet_eq {P Q : Int → Bool} {n : Nat} (h : ∀ i : Int, 0 ≤ i → i < n → P i = Q i) : zSet P n = zSet Q n := by
  induction n with
  | zero => rfl
  | succ n ih =>
    unfold zSet
    rw [ih (fun i h1 h2 => h i h1 (by omega)), h (n : Int) (by omega) (by omega)]
def zWC (w : zW) (d : Int) : Int := zSet (fun g => decide (w.1 1 1 ≤ zPC w g d)) (w.1 1 3).toNat
def zWMo (w : zW) (d : Int) : Int := zSet (fun g => decide (w.1 33 2 ≤ zPM w g d)) (w.1 33 6).toNat
