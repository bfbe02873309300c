/-! what the methods answer, in numbers -/
def zPl (ch ta ki lo d : Int) : Int := if ki = 2 then (if lo = d then (ch + ta + 3) / 2 + 2 else 0) else if ki = 1 then (ch + ta + (if lo = d then 3 else 0)) / 2 else ch + ta + (if lo = d then 3 else 0)
def zPC (w : zW) (g d : Int) : Int := zPl (w.1 7 d) (w.1 10 g) (w.1 9 g) (w.1 11 g) d
def zPM (w : zW) (g d : Int) : Int := zPl (w.1 34 d) (w.1 37 g) (w.1 36 g) (w.1 38 g) d
theorem zPl_in {ch ta ki lo d : Int} (h1 : 0 ≤ ch) (h2 : ch ≤ 9) (h3 : 0 ≤ ta) (h4 : ta ≤ 9) : 0 ≤ zPl ch ta ki lo d ∧ zPl ch ta ki lo d ≤ 21 := by
  unfold zPl
  (repeat' split) <;> omega
theorem zPC_in {w : zW} (h : zOk w) (g d : Int) : 0 ≤ zPC w g d ∧ zPC w g d ≤ 21 := zPl_in (h 7 d).1 (h 7 d).2 (h 10 g).1 (h 10 g).2
theorem zPM_in {w : zW} (h : zOk w) (g d : Int) : 0 ≤ zPM w g d ∧ zPM w g d ≤ 21 := zPl_in (h 34 d).1 (h 34 d).2 (h 37 g).1 (h 37 g).2
def zSet (P : Int → Bool) : Nat → Int
  | 0 => 0
  | n + 1 => if P (n : Int) then zior (zSet P n) (zshl 1 (n : Int)) else zSet P n
theorem zSet_0 (P : Int → Bool) : zSet P (Int.toNat 0) = 0 := rfl
theorem zSet_s (P : Int → Bool) {i : Int} (h : 0 ≤ i) : zSet P (i + 1).toNat = if P i then zior (zSet P i.toNat) (zshl 1 i) else zSet P i.toNat := by
  have e : (i + 1).toNat = i.toNat + 1 := by omega
  have e2 : ((i.toNat : Nat) : Int) = i := Int.toNat_of_nonneg h
  rw [e]
  show (if P ((i.toNat : Nat) : Int) then zior (zSet P i.toNat) (zshl 1 ((i.toNat : Nat) : Int)) else zSet P i.toNat) = _
  rw [e2]
theorem zior_in (x y : Int) : zin (zior x y) := zto_in _
theorem zSet_in (P : Int → Bool) : ∀ n, zin (zSet P n)
  | 0 => (⟨by decide, by decide⟩ : zin 0)
  | n + 1 => by
    unfold zSet
    split
    · exact zior_in _ _
    · exact zSet_in P n
theorem zior_0 {x : Int} (h : zin x) : zior x 0 = x := by
  unfold zior
  rw [show Int32.ofInt 0 = 0 from by decide +kernel, Int32.or_zero, zi_to h]
theorem zSet_eq {P Q : Int → Bool} {n : Nat} (h : ∀ i : Int, 0 ≤ i → i < n → P i = Q i) : zSet P n = zSet Q n := by
  induction n with
  | zero => rfl
  | succ n ih =>
    unfold zSet
    rw [ih (fun i h1 h2 => h i h1 (by omega)), h (n : Int) (by omega) (by omega)]
def zWC (w : zW) (d : Int) : Int := zSet (fun g => decide (w.1 1 1 ≤ zPC w g d)) (w.1 1 3).toNat
def zWMo (w : zW) (d : Int) : Int := zSet (fun g => decide (w.1 33 2 ≤ zPM w g d)) (w.1 33 6).toNat
def zAll (P : Int → Bool) : Nat → Bool
  | 0 => true
  | n + 1 => zAll P n && P (n : Int)
theorem zAll_s (P : Int → Bool) {i : Int} (h : 0 ≤ i) : zAll P (i + 1).toNat = (zAll P i.toNat && P i) := by
  have e : (i + 1).toNat = i.toNat + 1 := by omega
  have e2 : ((i.toNat : Nat) : Int) = i := Int.toNat_of_nonneg h
  rw [e]
  show (zAll P i.toNat && P ((i.toNat : Nat) : Int)) = _
  rw [e2]
theorem zAll_f (P : Int → Bool) {i : Int} (h : 0 ≤ i) (hp : P i = false) : ∀ n : Nat, i < n → zAll P n = false
  | 0, hn => absurd hn (by omega)
  | n + 1, hn => by
    unfold zAll
    by_cases e : (n : Int) = i
    · rw [e, hp, Bool.and_false]
    · rw [zAll_f P h hp n (by omega), Bool.false_and]
theorem zAll_eq {P Q : Int → Bool} {n : Nat} (h : ∀ i : Int, 0 ≤ i → i < n → P i = Q i) : zAll P n = zAll Q n := by
  induction n with
  | zero => rfl
  | succ n ih =>
    unfold zAll
    rw [ih (fun i h1 h2 => h i h1 (by omega)), h (n : Int) (by omega) (by omega)]
def zSoC (w : zW) : Bool := zAll (fun r => decide (w.1 1 1 ≤ zPC w (w.1 30 r) (w.1 31 r)) == decide (w.1 32 r = 1)) (w.1 6 3).toNat
def zSoM (w : zW) : Bool := zAll (fun r => decide (w.1 33 2 ≤ zPM w (w.1 45 r) (w.1 46 r)) == decide (w.1 47 r = 1)) (w.1 33 29).toNat
def zTr (t n : Int) : Int := znrm (31 * t + n)
def zCut (lane v : Int) : Int := if lane = 0 then zi2b v else if lane = 1 then zi2s v else v
theorem zCut_in {lane v : Int} (h : zin v) : zin (zCut lane v) := by
  unfold zCut
  split
  · exact zto_in _
  · split
    · exact zto_in _
    · exact h
theorem zgcd_step {x y : Int} (hx : 0 ≤ x) (hy : 0 < y) : Nat.gcd y.toNat (x % y).toNat = Nat.gcd x.toNat y.toNat := by
  have e : (x % y).toNat = x.toNat % y.toNat := by
    have h1 : x = ((x.toNat : Nat) : Int) := (Int.toNat_of_nonneg hx).symm
    have h2 : y = ((y.toNat : Nat) : Int) := (Int.toNat_of_nonneg (by omega)).symm
    have h3 : x % y = ((x.toNat % y.toNat : Nat) : Int) := by
      rw [Int.natCast_emod, ← h1, ← h2]
    rw [h3]
    rfl
  rw [e, Nat.gcd_comm x.toNat, Nat.gcd_rec y.toNat x.toNat, Nat.gcd_comm]
theorem zext {w w' : zW} (h1 : ∀ i k, w.1 i k = w'.1 i k) (h2 : w.2 = w'.2) : w = w' := Prod.ext (funext fun i => funext fun k => h1 i k) h2
