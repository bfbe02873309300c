theorem zPC_put {w : zW} {i : Nat} {k v g d : Int} (h : i ≠ 7 ∧ i ≠ 9 ∧ i ≠ 10 ∧ i ≠ 11) : zPC (zput w i k v) g d = zPC w g d := by
  unfold zPC
  rw [zput_i _ _ _ _ h.1.symm, zput_i _ _ _ _ h.2.1.symm, zput_i _ _ _ _ h.2.2.1.symm, zput_i _ _ _ _ h.2.2.2.symm]
theorem zPM_put {w : zW} {i : Nat} {k v g d : Int} (h : i ≠ 34 ∧ i ≠ 36 ∧ i ≠ 37 ∧ i ≠ 38) : zPM (zput w i k v) g d = zPM w g d := by
  unfold zPM
  rw [zput_i _ _ _ _ h.1.symm, zput_i _ _ _ _ h.2.1.symm, zput_i _ _ _ _ h.2.2.1.symm, zput_i _ _ _ _ h.2.2.2.symm]
theorem zPC_eq {w w' : zW} (h : ∀ i k, 7 ≤ i → i ≤ 11 → w'.1 i k = w.1 i k) (g d : Int) : zPC w' g d = zPC w g d := by
  unfold zPC
  rw [h 7 _ (by omega) (by omega), h 9 _ (by omega) (by omega), h 10 _ (by omega) (by omega), h 11 _ (by omega) (by omega)]
theorem zPM_eq {w w' : zW} (h : ∀ i k, 34 ≤ i → i ≤ 38 → w'.1 i k = w.1 i k) (g d : Int) : zPM w' g d = zPM w g d := by
  unfold zPM
  rw [h 34 _ (by omega) (by omega), h 36 _ (by omega) (by omega), h 37 _ (by omega) (by omega), h 38 _ (by omega) (by omega)]
/-! seasons: stars, first wrong, empty, left, pleasure -/
abbrev zSt : Type := Int × Int × Int × Int × Int
def zStep (cost : Int → Int) (pl : Int → Int → Int) (strict insp x g d : Int) (s : zSt) : zSt :=
  if s.2.1 = -9 then
    if s.2.2.2.1 < cost d then (s.1, x, s.2.2.1, s.2.2.2.1, s.2.2.2.2)
    else if g = insp ∧ strict ≤ pl g d ∧ 0 < s.1 then (s.1 - 1, -9, if s.1 - 1 = 0 then x else s.2.2.1, s.2.2.2.1 - cost d, s.2.2.2.2 + pl g d)
    else (s.1, -9, s.2.2.1, s.2.2.2.1 - cost d, s.2.2.2.2 + pl g d)
  else s
def zSea (st0 strict : Int) (cost : Int → Int) (pl : Int → Int → Int) (row : Int → Int) (insp : Int) : Nat → zSt
  | 0 => (st0, -9, -9, 12, 0)
  | n + 1 => zStep cost pl strict insp (n : Int) (row (2 * n)) (row (2 * n + 1)) (zSea st0 strict cost pl row insp n)
theorem zSea_s {st0 strict : Int} {cost : Int → Int} {pl : Int → Int → Int} {row : Int → Int} {insp x : Int} (h : 0 ≤ x) : zSea st0 strict cost pl row insp (x + 1).toNat = zStep cost pl strict insp x (row (2 * x)) (row (2 * x + 1)) (zSea st0 strict cost pl row insp x.toNat) := by
  have e : (x + 1).toNat = x.toNat + 1 := by omega
  have e2 : ((x.toNat : Nat) : Int) = x := Int.toNat_of_nonneg h
  rw [e]
  show zStep cost pl strict insp ((x.toNat : Nat) : Int) (row (2 * ((x.toNat : Nat) : Int))) (row (2 * ((x.toNat : Nat) : Int) + 1)) _ = _
  rw [e2]
theorem zSea_stop {st0 strict : Int} {cost : Int → Int} {pl : Int → Int → Int} {row : Int → Int} {insp : Int} {m : Nat} (h : ¬ (zSea st0 strict cost pl row insp m).2.1 = -9) : ∀ n, m ≤ n → zSea st0 strict cost pl row insp n = zSea st0 strict cost pl row insp m := by
  intro n hn
  obtain ⟨j, rfl⟩ := Nat.exists_eq_add_of_le hn
  clear hn
  induction j with
  | zero => rfl
  | succ j ih =>
    show zStep _ _ _ _ _ _ _ (zSea st0 strict cost pl row insp (m + j)) = _
    rw [ih]
    unfold zStep
    rw [if_neg h]
theorem zSea_wr {st0 strict : Int} {cost : Int → Int} {pl : Int → Int → Int} {row : Int → Int} (i1 i2 : Int) (n : Nat) : (zSea st0 strict cost pl row i1 n).2.1 = (zSea st0 strict cost pl row i2 n).2.1 ∧ (zSea st0 strict cost pl row i1 n).2.2.2.1 = (zSea st0 strict cost pl row i2 n).2.2.2.1 := by
  induction n with
  | zero => exact ⟨rfl, rfl⟩
  | succ n ih =>
    unfold zSea zStep
    rw [ih.1, ih.2]
    (repeat' split) <;> first | exact ⟨rfl, rfl⟩ | exact ih
theorem zSea_eq {st0 strict : Int} {cost : Int → Int} {pl : Int → Int → Int} {r1 r2 : Int → Int} (insp : Int) {n : Nat} (h : ∀ j : Int, 0 ≤ j → j < 2 * n → r1 j = r2 j) : zSea st0 strict cost pl r1 insp n = zSea st0 strict cost pl r2 insp n := by
  induction n with
  | zero => rfl
  | succ n ih =>
    unfold zSea
    rw [ih (fun j h1 h2 => h j h1 (by omega)), h (2 * (n : Int)) (by omega) (by omega), h (2 * (n : Int) + 1) (by omega) (by omega)]
def zSeaC (w : zW) (r : Nat) (f g : Int) (n : Nat) : zSt := zSea (w.1 1 0) (w.1 1 1) (fun d => w.1 8 d) (fun g d => zPC w g d) (fun j => w.1 r (f + j)) g n
theorem zSeaC_eq {w w' : zW} (h : ∀ i k, i ≠ 0 → i ≠ 4 → w'.1 i k = w.1 i k) {r : Nat} (hr : 16 ≤ r) (f g : Int) (n : Nat) : zSeaC w' r f g n = zSeaC w r f g n := by
  unfold zSeaC
  rw [h 1 0 (by omega) (by omega), h 1 1 (by omega) (by omega), show (fun d => w'.1 8 d) = (fun d => w.1 8 d) from funext fun d => h 8 d (by omega) (by omega), show (fun g d => zPC w' g d) = (fun g d => zPC w g d) from funext fun g => funext fun d => zPC_eq (fun i k h1 h2 => h i k (by omega) (by omega)) g d, show (fun j => w'.1 r (f + j)) = (fun j => w.1 r (f + j)) from funext fun j => h r _ (by omega) (by omega)]
def zCnt (P : Int → Bool) : Nat → Int
  | 0 => 0
  | n + 1 => if P (n : Int) then zCnt P n + 1 else zCnt P n
theorem zCnt_s (P : Int → Bool) {i : Int} (h : 0 ≤ i) : zCnt P (i + 1).toNat = if P i then zCnt P i.toNat + 1 else zCnt P i.toNat := by
  have e : (i + 1).toNat = i.toNat + 1 := by omega
  have e2 : ((i.toNat : Nat) : Int) = i := Int.toNat_of_nonneg h
  rw [e]
  show (if P ((i.toNat : Nat) : Int) then _ else _) = _
  rw [e2]
theorem zCnt_in (P : Int → Bool) : ∀ n : Nat, 0 ≤ zCnt P n ∧ zCnt P n ≤ n
  | 0 => ⟨Int.le_refl 0, Int.le_refl 0⟩
  | n + 1 => by
    have h := zCnt_in P n
    unfold zCnt
    split <;> omega
theorem zCnt_eq {P Q : Int → Bool} {n : Nat} (h : ∀ i : Int, 0 ≤ i → i < n → P i = Q i) : zCnt P n = zCnt Q n := by
  induction n with
  | zero => rfl
  | succ n ih =>
    unfold zCnt
    rw [ih (fun i h1 h2 => h i h1 (by omega)), h (n : Int) (by omega) (by omega)]
def fShare (up gs which : Int) : Int := if which = 0 then up / (Nat.gcd up.toNat gs.toNat : Nat) else gs / (Nat.gcd up.toNat gs.toNat : Nat)
/-! ask -/
def zFirst (x : Int) : Int := if ¬ ziand (zshr x 0) 1 = 0 then 0 else if ¬ ziand (zshr x 1) 1 = 0 then 1 else if ¬ ziand (zshr x 2) 1 = 0 then 2 else if ¬ ziand (zshr x 3) 1 = 0 then 3 else if ¬ ziand (zshr x 4) 1 = 0 then 4 else if ¬ ziand (zshr x 5) 1 = 0 then 5 else 6
theorem zFirst_of {x a : Int} (h : 0 ≤ a ∧ a ≤ 6 ∧ (∀ j : Int, 0 ≤ j → j < a → ziand (zshr x j) 1 = 0) ∧ (a < 6 → ¬ ziand (zshr x a) 1 = 0)) : a = zFirst x := by
  obtain ⟨h0, h1, h2, h3⟩ := h
  unfold zFirst
  rcases (by omega : a = 0 ∨ a = 1 ∨ a = 2 ∨ a = 3 ∨ a = 4 ∨ a = 5 ∨ a = 6) with rfl | rfl | rfl | rfl | rfl | rfl | rfl
  · rw [if_pos (h3 (by decide))]
  · rw [if_neg (fun q => q (h2 0 (by decide) (by decide))), if_pos (h3 (by decide))]
  · rw [if_neg (fun q => q (h2 0 (by decide) (by decide))), if_neg (fun q => q (h2 1 (by decide) (by decide))), if_pos (h3 (by decide))]
  · rw [if_neg (fun q => q (h2 0 (by decide) (by decide))), if_neg (fun q => q (h2 1 (by decide) (by decide))), if_neg (fun q => q (h2 2 (by decide) (by decide))), if_pos (h3 (by decide))]
  · rw [if_neg (fun q => q (h2 0 (by decide) (by decide))), if_neg (fun q => q (h2 1 (by decide) (by decide))), if_neg (fun q => q (h2 2 (by decide) (by decide))), if_neg (fun q => q (h2 3 (by decide) (by decide))), if_pos (h3 (by decide))]
  · rw [if_neg (fun q => q (h2 0 (by decide) (by decide))), if_neg (fun q => q (h2 1 (by decide) (by decide))), if_neg (fun q => q (h2 2 (by decide) (by decide))), if_neg (fun q => q (h2 3 (by decide) (by decide))), if_neg (fun q => q (h2 4 (by decide) (by decide))), if_pos (h3 (by decide))]
  · rw [if_neg (fun q => q (h2 0 (by decide) (by decide))), if_neg (fun q => q (h2 1 (by decide) (by decide))), if_neg (fun q => q (h2 2 (by decide) (by decide))), if_neg (fun q => q (h2 3 (by decide) (by decide))), if_neg (fun q => q (h2 4 (by decide) (by decide))), if_neg (fun q => q (h2 5 (by decide) (by decide)))]
theorem zFirst_in (x : Int) : 0 ≤ zFirst x ∧ zFirst x ≤ 6 := by
  unfold zFirst
  (repeat' split) <;> omega
def zAsk (shown cost : Int → Int) (L0 : Int) : Nat → Int × Int
  | 0 => (-9, L0)
  | n + 1 => if ¬ shown n = 0 ∧ cost n < (zAsk shown cost L0 n).2 then (10 * zFirst (shown n) + n, cost n) else zAsk shown cost L0 n
theorem zAsk_s (shown cost : Int → Int) (L0 : Int) {i : Int} (h : 0 ≤ i) : zAsk shown cost L0 (i + 1).toNat = if ¬ shown i = 0 ∧ cost i < (zAsk shown cost L0 i.toNat).2 then (10 * zFirst (shown i) + i, cost i) else zAsk shown cost L0 i.toNat := by
  have e : (i + 1).toNat = i.toNat + 1 := by omega
  have e2 : ((i.toNat : Nat) : Int) = i := Int.toNat_of_nonneg h
  rw [e]
  show (if ¬ shown ((i.toNat : Nat) : Int) = 0 ∧ cost ((i.toNat : Nat) : Int) < (zAsk shown cost L0 i.toNat).2 then (10 * zFirst (shown ((i.toNat : Nat) : Int)) + ((i.toNat : Nat) : Int), cost ((i.toNat : Nat) : Int)) else zAsk shown cost L0 i.toNat) = _
  rw [e2]
theorem fPairs_in {gs ds sz ln lane i n : Int} {row : Int → Int} : -13 ≤ fPairs gs ds sz ln lane i n row ∧ fPairs gs ds sz ln lane i n row ≤ 0 := by
  unfold fPairs
  (repeat' split) <;> omega
theorem zdiv_in {x y : Int} (h0 : 0 ≤ x) (h1 : x ≤ 6) (hy : 0 < y) : zin (x / y) := by
  have a := Int.ediv_nonneg h0 (Int.le_of_lt hy)
  have b := Int.ediv_le_self y h0
  exact ⟨by omega, by omega⟩
