def zLOST : Int := -9223372036854775808
/-- what the next call may see: all but what a call writes anew before it reads it, and the two faults -/
def zkeep (i : Nat) (k : Int) : Bool :=
  !(i == 0 && k == 7) && !(i == 3) && !(i == 4) && !(i == 5) && !(decide (22 ≤ i) && decide (i ≤ 29)) && !(i == 33 && (k == 0 || (decide (10 ≤ k) && decide (k ≤ 14)) || (decide (20 ≤ k) && decide (k ≤ 24)) || (decide (26 ≤ k) && decide (k ≤ 28)))) && !(decide (39 ≤ i) && decide (i ≤ 44)) && !(i == 51)
def zEq (w w' : zW) : Prop := ∀ i k, zkeep i k = true → w'.1 i k = w.1 i k
theorem zEq.refl (w : zW) : zEq w w := fun _ _ _ => rfl
theorem zEq.trans {a b c : zW} (h1 : zEq a b) (h2 : zEq b c) : zEq a c := fun i k h => (h2 i k h).trans (h1 i k h)
theorem zEq.put {w w1 : zW} (h : zEq w w1) {i : Nat} {k v : Int} (hk : zkeep i k = false) : zEq w (zput w1 i k v) := fun i' k' h' => by
  rw [zput_e, if_neg (fun q => by rw [q.1, q.2, hk] at h'; cases h')]
  exact h i' k' h'
theorem zkeep_3 (k : Int) : zkeep 3 k = false := by simp [zkeep]
theorem zkeep_4 (k : Int) : zkeep 4 k = false := by simp [zkeep]
theorem zkeep_5 (k : Int) : zkeep 5 k = false := by simp [zkeep]
theorem zEq.out {w w1 w2 : zW} (h : zEq w w1) (j : Nat) (hj : ∀ k, zkeep j k = false) (h2 : ∀ i k, i ≠ j → w2.1 i k = w1.1 i k) : zEq w w2 := fun i k hk => by
  rw [h2 i k (fun q => by rw [q, hj] at hk; cases hk)]
  exact h i k hk
def fOfGuest (gs ki ta lo g what : Int) : Int := if g < 0 ∨ gs ≤ g then -1 else if what = 0 then ki else if what = 1 then ta else if what = 2 then lo else -2
def fStrict (gs s v : Int) : Int := if v < 1 ∨ 9 < v then -2 else if gs = 0 then -3 else s
def fStars (gs s v : Int) : Int := if v < 0 ∨ 5 < v then -2 else if gs = 0 then -3 else s
def fPleased (gs ds pl g d : Int) : Int := if g < 0 ∨ gs ≤ g ∨ d < 0 ∨ ds ≤ d then -1 else pl
def zDul (pl : Int → Int) (strict : Int) : Nat → Int × Int
  | 0 => (-9, -1)
  | n + 1 => if pl n < strict ∧ (zDul pl strict n).2 < pl n then ((n : Int), pl n) else zDul pl strict n
theorem zDul_s (pl : Int → Int) (strict : Int) {i : Int} (h : 0 ≤ i) : zDul pl strict (i + 1).toNat = if pl i < strict ∧ (zDul pl strict i.toNat).2 < pl i then (i, pl i) else zDul pl strict i.toNat := by
  have e : (i + 1).toNat = i.toNat + 1 := by omega
  have e2 : ((i.toNat : Nat) : Int) = i := Int.toNat_of_nonneg h
  rw [e]
  show (if pl ((i.toNat : Nat) : Int) < strict ∧ (zDul pl strict i.toNat).2 < pl ((i.toNat : Nat) : Int) then (((i.toNat : Nat) : Int), pl ((i.toNat : Nat) : Int)) else zDul pl strict i.toNat) = _
  rw [e2]
def fReading (gs ds sz g d : Int) : Int := if g < 0 ∨ gs ≤ g ∨ d < 0 ∨ ds ≤ d then -1 else if 8 ≤ sz then -4 else sz
def fBack (sz k : Int) : Int := if k < 0 ∨ sz < k then -2 else sz - k
def fTell (gs ki ta g : Int) : Int := if g < 0 ∨ gs ≤ g then -1 else if ki = 2 then 2 * ta + 100 else if ki = 1 then ta + 100 else ta
def fTellT (gs ki t g : Int) : Int := if g < 0 ∨ gs ≤ g then t else if ki = 2 then zTr (zTr (zTr (zTr t 3) 2) 1) 1 else if ki = 1 then zTr (zTr t 2) 1 else zTr t 1
def fGreet (gs ki g : Int) : Int := if g < 0 ∨ gs ≤ g then -1 else if ki = 2 then 50 else g
def fGreetT (gs ki t g : Int) : Int := if g < 0 ∨ gs ≤ g then t else if ki = 2 then zTr t 5 else zTr t 4
def fAs (gs ki g kind : Int) : Int := if g < 0 ∨ gs ≤ g then -1 else if kind < 0 ∨ 2 < kind then -2 else if ki < kind then -12 else 1
def fMany (gs ds st sr sz what : Int) : Int := if what = 0 then gs else if what = 1 then ds else if what = 2 then st else if what = 3 then sr else if what = 4 then sz else -2
def zSz (w : zW) (k : Int) : Int := if w.1 13 k = 0 then -1 else w.1 15 k
def fLose (sz k : Int) : Int := if k < 0 ∨ 4 ≤ k then -1 else if sz < 0 then 0 else 1
def fPut (sz k i : Int) : Int := if k < 0 ∨ 4 ≤ k then -1 else if sz < 0 then -11 else if i < 0 ∨ sz ≤ i then -13 else 1
def fCell (sz ln c k i lane : Int) : Int := if k < 0 ∨ 4 ≤ k ∨ lane < 0 ∨ 2 < lane ∨ sz < 0 ∨ ¬ ln = lane ∨ i < 0 ∨ sz ≤ i then zLOST else c
def fCopy (sk so lk lo k i o j n : Int) : Int := if k < 0 ∨ 4 ≤ k ∨ o < 0 ∨ 4 ≤ o then -1 else if sk < 0 ∨ so < 0 then -11 else if ¬ lk = lo then -12 else if i < 0 ∨ n < 0 ∨ sk < i + n ∨ j < 0 ∨ so < j + n then -13 else n
def fSheet (k lane n : Int) : Int := if k < 0 ∨ 4 ≤ k then -1 else if lane < 0 ∨ 2 < lane ∨ 60 < n then -2 else if n < 0 then -14 else 1
/-- what bars a row of pairs: 0 nothing -/
def zPB (gs ds : Int) (row : Int → Int) : Nat → Bool
  | 0 => true
  | n + 1 => zPB gs ds row n && decide (0 ≤ row (2 * n) ∧ row (2 * n) < gs ∧ 0 ≤ row (2 * n + 1) ∧ row (2 * n + 1) < ds)
theorem zPB_s (gs ds : Int) (row : Int → Int) {i : Int} (h : 0 ≤ i) : zPB gs ds row (i + 1).toNat = (zPB gs ds row i.toNat && decide (0 ≤ row (2 * i) ∧ row (2 * i) < gs ∧ 0 ≤ row (2 * i + 1) ∧ row (2 * i + 1) < ds)) := by
  have e : (i + 1).toNat = i.toNat + 1 := by omega
  have e2 : ((i.toNat : Nat) : Int) = i := Int.toNat_of_nonneg h
  rw [e]
  show (zPB gs ds row i.toNat && decide (0 ≤ row (2 * ((i.toNat : Nat) : Int)) ∧ row (2 * ((i.toNat : Nat) : Int)) < gs ∧ 0 ≤ row (2 * ((i.toNat : Nat) : Int) + 1) ∧ row (2 * ((i.toNat : Nat) : Int) + 1) < ds)) = _
  rw [e2]
theorem zPB_f {gs ds : Int} {row : Int → Int} {i : Int} (h : 0 ≤ i) (hp : ¬ (0 ≤ row (2 * i) ∧ row (2 * i) < gs ∧ 0 ≤ row (2 * i + 1) ∧ row (2 * i + 1) < ds)) : ∀ n : Nat, i < n → zPB gs ds row n = false
  | 0, hn => absurd hn (by omega)
  | n + 1, hn => by
    unfold zPB
    by_cases e : (n : Int) = i
    · rw [e, decide_eq_false hp, Bool.and_false]
    · rw [zPB_f h hp n (by omega), Bool.false_and]
theorem zPB_t {gs ds : Int} {row : Int → Int} : ∀ (n : Nat), zPB gs ds row n = true → ∀ i : Int, 0 ≤ i → i < n → 0 ≤ row (2 * i) ∧ row (2 * i) < gs ∧ 0 ≤ row (2 * i + 1) ∧ row (2 * i + 1) < ds
  | 0, _, i, h0, hi => absurd hi (by omega)
  | n + 1, h, i, h0, hi => by
    unfold zPB at h
    rw [Bool.and_eq_true, decide_eq_true_eq] at h
    by_cases e : (n : Int) = i
    · rw [← e]; exact h.2
    · exact zPB_t n h.1 i h0 (by omega)
theorem zPB_eq {gs ds : Int} {r1 r2 : Int → Int} {n : Nat} (h : ∀ j : Int, 0 ≤ j → j < 2 * n → r1 j = r2 j) : zPB gs ds r1 n = zPB gs ds r2 n := by
  induction n with
  | zero => rfl
  | succ n ih =>
    unfold zPB
    rw [ih (fun j h1 h2 => h j h1 (by omega)), h (2 * (n : Int)) (by omega) (by omega), h (2 * (n : Int) + 1) (by omega) (by omega)]
def fPairs (gs ds sz ln lane i n : Int) (row : Int → Int) : Int := if sz < 0 then -11 else if ¬ ln = lane then -12 else if i < 0 ∨ sz < i + 2 * n then -13 else if zPB gs ds row n.toNat = true then 0 else -1
