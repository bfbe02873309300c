/-! fewest: the least weight from a guest on, by what is left -/
def zMin (f : Int → Int) : Nat → Int
  | 0 => 1000000
  | n + 1 => if f n < zMin f n then f n else zMin f n
theorem zMin_s (f : Int → Int) {i : Int} (h : 0 ≤ i) : zMin f (i + 1).toNat = if f i < zMin f i.toNat then f i else zMin f i.toNat := by
  have e : (i + 1).toNat = i.toNat + 1 := by omega
  have e2 : ((i.toNat : Nat) : Int) = i := Int.toNat_of_nonneg h
  rw [e]
  show (if f ((i.toNat : Nat) : Int) < zMin f i.toNat then f ((i.toNat : Nat) : Int) else zMin f i.toNat) = _
  rw [e2]
theorem zMin_le (f : Int → Int) : ∀ (n : Nat) (d : Int), 0 ≤ d → d < n → zMin f n ≤ f d
  | 0, d, h0, h1 => absurd h1 (by omega)
  | n + 1, d, h0, h1 => by
    unfold zMin
    by_cases e : d = n
    · subst e
      split <;> omega
    · have := zMin_le f n d h0 (by omega)
      split <;> omega
theorem zMin_top (f : Int → Int) (n : Nat) : zMin f n ≤ 1000000 := by
  induction n with
  | zero => exact Int.le_refl _
  | succ n ih =>
    unfold zMin
    split <;> omega
theorem zMin_at (f : Int → Int) : ∀ n : Nat, zMin f n = 1000000 ∨ ∃ d : Int, 0 ≤ d ∧ d < n ∧ f d = zMin f n
  | 0 => Or.inl rfl
  | n + 1 => by
    unfold zMin
    split
    · exact Or.inr ⟨n, by omega, by omega, rfl⟩
    · rcases zMin_at f n with h | ⟨d, h1, h2, h3⟩
      · exact Or.inl h
      · exact Or.inr ⟨d, h1, by omega, h3⟩
theorem zMin_eq {f g : Int → Int} {n : Nat} (h : ∀ d : Int, 0 ≤ d → d < n → f d = g d) : zMin f n = zMin g n := by
  induction n with
  | zero => rfl
  | succ n ih =>
    unfold zMin
    rw [ih (fun d h1 h2 => h d h1 (by omega)), h (n : Int) (by omega) (by omega)]
def zPk (f : Int → Int) (t : Int) : Nat → Int → Int
  | 0, _ => 0
  | n + 1, d => if f d = t then d else zPk f t n (d + 1)
theorem zPk_ok {f : Int → Int} {t : Int} : ∀ (n : Nat) (k d : Int), k ≤ d → d < k + n → f d = t → k ≤ zPk f t n k ∧ zPk f t n k ≤ d ∧ f (zPk f t n k) = t ∧ ∀ j : Int, k ≤ j → j < zPk f t n k → ¬ f j = t
  | 0, k, d, h1, h2, h3 => absurd h2 (by omega)
  | n + 1, k, d, h1, h2, h3 => by
    unfold zPk
    by_cases e : f k = t
    · rw [if_pos e]
      exact ⟨by omega, by omega, e, fun j a b => by omega⟩
    · rw [if_neg e]
      have hkd : k ≠ d := fun q => e (by rw [q]; exact h3)
      obtain ⟨a1, a2, a3, a4⟩ := zPk_ok n (k + 1) d (by omega) (by omega) h3
      exact ⟨by omega, by omega, a3, fun j b1 b2 => by
        by_cases z : j = k
        · rw [z]; exact e
        · exact a4 j (by omega) b2⟩
theorem zPk_r {f : Int → Int} {t n k : Int} (h : k < n) : zPk f t (n - k).toNat k = if f k = t then k else zPk f t (n - (k + 1)).toNat (k + 1) := by
  have e : (n - k).toNat = (n - (k + 1)).toNat + 1 := by omega
  rw [e]
  rfl
theorem zPk_eq {f g : Int → Int} {t : Int} : ∀ (n : Nat) (k : Int), (∀ d : Int, k ≤ d → d < k + n → f d = g d) → zPk f t n k = zPk g t n k
  | 0, _, _ => rfl
  | n + 1, k, h => by
    unfold zPk
    rw [h k (by omega) (by omega), zPk_eq n (k + 1) (fun d a b => h d (by omega) (by omega))]
/-- weight of a doing for a guest, by what the guests behind weigh -/
def zWt (cost : Int → Int) (own : Int → Int → Int) (tab : Int → Int) (g l d : Int) : Int := if l - cost d < 0 ∨ tab (l - cost d) = 1000000 then 1000000 else own g d + tab (l - cost d)
def zL (ds gs : Int) (cost : Int → Int) (own : Int → Int → Int) : Nat → Int → Int
  | 0, _ => 0
  | m + 1, l => zMin (zWt cost own (zL ds gs cost own m) (gs - (m + 1)) l) ds.toNat
theorem zL_in {ds gs : Int} {cost : Int → Int} {own : Int → Int → Int} (ho : ∀ g d, -21 ≤ own g d ∧ own g d ≤ 1000) : ∀ (m : Nat) (l : Int), m ≤ 6 → zL ds gs cost own m l = 1000000 ∨ (-21 * (m : Int) ≤ zL ds gs cost own m l ∧ zL ds gs cost own m l ≤ 1000 * m)
  | 0, _, _ => Or.inr ⟨by unfold zL; omega, by unfold zL; omega⟩
  | m + 1, l, hm => by
    unfold zL
    rcases zMin_at (zWt cost own (zL ds gs cost own m) (gs - (m + 1)) l) ds.toNat with h | ⟨d, h1, h2, h3⟩
    · exact Or.inl h
    · rw [← h3]
      unfold zWt
      split
      · exact Or.inl rfl
      · rename_i q
        rcases zL_in ho m (l - cost d) (by omega) with h | h
        · exact absurd (Or.inr h) q
        · have := ho (gs - (m + 1)) d
          exact Or.inr (by omega)
/-- the choice, guest by guest: what is left ahead of guest g, and which doing -/
def zDgOf (ds gs : Int) (cost : Int → Int) (own : Int → Int → Int) (g l : Int) : Int := zPk (zWt cost own (zL ds gs cost own (gs - (g + 1)).toNat) g l) (zL ds gs cost own (gs - g).toNat l) ds.toNat 0
def zLf (ds gs : Int) (cost : Int → Int) (own : Int → Int → Int) : Nat → Int
  | 0 => 12
  | n + 1 => zLf ds gs cost own n - cost (zDgOf ds gs cost own n (zLf ds gs cost own n))
def zDg (ds gs : Int) (cost : Int → Int) (own : Int → Int → Int) (g : Int) : Int := zDgOf ds gs cost own g (zLf ds gs cost own g.toNat)
theorem zLf_s {ds gs : Int} {cost : Int → Int} {own : Int → Int → Int} {g : Int} (h : 0 ≤ g) : zLf ds gs cost own (g + 1).toNat = zLf ds gs cost own g.toNat - cost (zDg ds gs cost own g) := by
  have e : (g + 1).toNat = g.toNat + 1 := by omega
  have e2 : ((g.toNat : Nat) : Int) = g := Int.toNat_of_nonneg h
  rw [e]
  show zLf ds gs cost own g.toNat - cost (zDgOf ds gs cost own ((g.toNat : Nat) : Int) (zLf ds gs cost own g.toNat)) = _
  rw [e2]
  rfl
theorem zWt_L {ds gs : Int} {cost : Int → Int} {own : Int → Int → Int} {g l : Int} (h0 : 0 ≤ g) (h1 : g < gs) : zL ds gs cost own (gs - g).toNat l = zMin (zWt cost own (zL ds gs cost own (gs - (g + 1)).toNat) g l) ds.toNat := by
  have e : (gs - g).toNat = (gs - (g + 1)).toNat + 1 := by omega
  rw [e]
  show zMin (zWt cost own (zL ds gs cost own (gs - (g + 1)).toNat) (gs - (((gs - (g + 1)).toNat : Nat) + 1 : Int)) l) ds.toNat = _
  rw [show gs - (((gs - (g + 1)).toNat : Nat) + 1 : Int) = g by omega]
/-- a choice that can be paid stays one -/
theorem zDg_ok {ds gs : Int} {cost : Int → Int} {own : Int → Int → Int} {g l : Int} (h0 : 0 ≤ g) (h1 : g < gs) (hl : ¬ zL ds gs cost own (gs - g).toNat l = 1000000) : 0 ≤ zDgOf ds gs cost own g l ∧ zDgOf ds gs cost own g l < ds ∧ 0 ≤ l - cost (zDgOf ds gs cost own g l) ∧ ¬ zL ds gs cost own (gs - (g + 1)).toNat (l - cost (zDgOf ds gs cost own g l)) = 1000000 ∧ zL ds gs cost own (gs - g).toNat l = own g (zDgOf ds gs cost own g l) + zL ds gs cost own (gs - (g + 1)).toNat (l - cost (zDgOf ds gs cost own g l)) ∧ ∀ j : Int, 0 ≤ j → j < zDgOf ds gs cost own g l → ¬ zWt cost own (zL ds gs cost own (gs - (g + 1)).toNat) g l j = zL ds gs cost own (gs - g).toNat l := by
  have e := zWt_L (ds := ds) (cost := cost) (own := own) (l := l) h0 h1
  rcases zMin_at (zWt cost own (zL ds gs cost own (gs - (g + 1)).toNat) g l) ds.toNat with h | ⟨d, a1, a2, a3⟩
  · exact absurd (e.trans h) hl
  · obtain ⟨b1, b2, b3, b4⟩ := zPk_ok (f := zWt cost own (zL ds gs cost own (gs - (g + 1)).toNat) g l) (t := zL ds gs cost own (gs - g).toNat l) ds.toNat 0 d a1 (by omega) (by rw [a3, e])
    have b3' : zWt cost own (zL ds gs cost own (gs - (g + 1)).toNat) g l (zDgOf ds gs cost own g l) = zL ds gs cost own (gs - g).toNat l := b3
    have b1' : 0 ≤ zDgOf ds gs cost own g l := b1
    have b2' : zDgOf ds gs cost own g l ≤ d := b2
    refine ⟨b1', by omega, ?_⟩
    generalize hq : zDgOf ds gs cost own g l = q at b1' b2' b3' ⊢
    unfold zWt at b3'
    by_cases z : l - cost q < 0 ∨ zL ds gs cost own (gs - (g + 1)).toNat (l - cost q) = 1000000
    · rw [if_pos z] at b3'
      exact absurd b3'.symm hl
    · rw [if_neg z] at b3'
      exact ⟨by omega, fun q2 => z (Or.inr q2), b3'.symm, fun j c1 c2 => b4 j c1 (by
        have : zPk (zWt cost own (zL ds gs cost own (gs - (g + 1)).toNat) g l) (zL ds gs cost own (gs - g).toNat l) ds.toNat 0 = q := hq
        omega)⟩
def zOwnC (w : zW) (g d : Int) : Int := (if w.1 1 1 ≤ zPC w g d then 1000 else 0) - zPC w g d
theorem zOwnC_in {w : zW} (h : zOk w) (g d : Int) : -21 ≤ zOwnC w g d ∧ zOwnC w g d ≤ 1000 := by
  have := zPC_in h g d
  unfold zOwnC
  split <;> omega
def zLC (w : zW) : Nat → Int → Int := zL (w.1 1 2) (w.1 1 3) (fun d => w.1 8 d) (zOwnC w)
def zDgC (w : zW) (g : Int) : Int := zDg (w.1 1 2) (w.1 1 3) (fun d => w.1 8 d) (zOwnC w) g
def zLfC (w : zW) : Nat → Int := zLf (w.1 1 2) (w.1 1 3) (fun d => w.1 8 d) (zOwnC w)
def zWnC (w : zW) (n : Nat) : Int := zCnt (fun g => decide (w.1 1 1 ≤ zPC w g (zDgC w g))) n
def zSameH (w w' : zW) : Prop := ∀ i k, i = 1 ∨ (7 ≤ i ∧ i ≤ 11) → w'.1 i k = w.1 i k
theorem zSameH.pl {w w' : zW} (h : zSameH w w') (g d : Int) : zPC w' g d = zPC w g d := zPC_eq (fun i k h1 h2 => h i k (Or.inr ⟨h1, h2⟩)) g d
theorem zSameH.own {w w' : zW} (h : zSameH w w') : zOwnC w' = zOwnC w := funext fun g => funext fun d => by
  unfold zOwnC
  rw [h.pl, h 1 1 (Or.inl rfl)]
theorem zSameH.L {w w' : zW} (h : zSameH w w') : zLC w' = zLC w := by
  unfold zLC
  rw [h.own, h 1 2 (Or.inl rfl), h 1 3 (Or.inl rfl), show (fun d => w'.1 8 d) = (fun d => w.1 8 d) from funext fun d => h 8 d (Or.inr ⟨by decide, by decide⟩)]
theorem zWt_eq {cost : Int → Int} {own : Int → Int → Int} {t1 t2 : Int → Int} {g l d : Int} (h : ¬ l - cost d < 0 → t1 (l - cost d) = t2 (l - cost d)) : zWt cost own t1 g l d = zWt cost own t2 g l d := by
  unfold zWt
  by_cases z : l - cost d < 0
  · rw [if_pos (Or.inl z), if_pos (Or.inl z)]
  · rw [h z]
theorem zkeep_tab {i : Nat} (h : 22 ≤ i ∧ i ≤ 29) (k : Int) : zkeep i k = false := by
  obtain ⟨h1, h2⟩ := h
  simp [zkeep, h1, h2]
