/-! a text: where it goes on -/
theorem zput_self (w : zW) (i : Nat) (k : Int) : zput w i k (w.1 i k) = w := zext (fun i' k' => by
  rw [zput_e]
  split
  · rename_i q
    rw [q.1, q.2]
  · rfl) rfl
def zDs (c : Int → Int) (n : Int) : Nat → Int → Bool × Int × Int
  | 0, k => (decide (0 < k), k, 3 + 3 * k)
  | f + 1, k => if 3 + 3 * k < n ∧ c (3 + 3 * k) = 47 then (if 4 + 3 * k < n ∧ 48 ≤ c (4 + 3 * k) ∧ c (4 + 3 * k) ≤ 57 then (if 5 + 3 * k < n ∧ 48 ≤ c (5 + 3 * k) ∧ c (5 + 3 * k) ≤ 51 then zDs c n f (k + 1) else (false, k, 5 + 3 * k)) else (false, k, 4 + 3 * k)) else (decide (0 < k), k, 3 + 3 * k)
def zGs (c : Int → Int) (n nd : Int) : Nat → Int → Bool × Int × Int
  | 0, j => (decide (2 ≤ j), j, 3 + 3 * nd + 4 * j)
  | f + 1, j => if 3 + 3 * nd + 4 * j < n ∧ c (3 + 3 * nd + 4 * j) = 59 then (if 4 + 3 * nd + 4 * j < n ∧ (c (4 + 3 * nd + 4 * j) = 103 ∨ c (4 + 3 * nd + 4 * j) = 99 ∨ c (4 + 3 * nd + 4 * j) = 112) then (if 5 + 3 * nd + 4 * j < n ∧ 48 ≤ c (5 + 3 * nd + 4 * j) ∧ c (5 + 3 * nd + 4 * j) ≤ 57 then (if 6 + 3 * nd + 4 * j < n ∧ 48 ≤ c (6 + 3 * nd + 4 * j) ∧ c (6 + 3 * nd + 4 * j) ≤ 47 + nd then zGs c n nd f (j + 1) else (false, j, 6 + 3 * nd + 4 * j)) else (false, j, 5 + 3 * nd + 4 * j)) else (false, j, 4 + 3 * nd + 4 * j)) else (decide (2 ≤ j), j, 3 + 3 * nd + 4 * j)
/-- taken, place, doings, guests -/
def zTx (c : Int → Int) (n : Int) : Bool × Int × Int × Int :=
  if 0 < n ∧ c 0 = 122 then
    if 1 < n ∧ 48 ≤ c 1 ∧ c 1 ≤ 53 then
      if 2 < n ∧ 49 ≤ c 2 ∧ c 2 ≤ 57 then
        if (zDs c n 4 0).1 = true then
          if (zGs c n (zDs c n 4 0).2.1 6 0).1 = true then (decide ((zGs c n (zDs c n 4 0).2.1 6 0).2.2 = n), (zGs c n (zDs c n 4 0).2.1 6 0).2.2, (zDs c n 4 0).2.1, (zGs c n (zDs c n 4 0).2.1 6 0).2.1)
          else (false, (zGs c n (zDs c n 4 0).2.1 6 0).2.2, 0, 0)
        else (false, (zDs c n 4 0).2.2, 0, 0)
      else (false, 2, 0, 0)
    else (false, 1, 0, 0)
  else (false, 0, 0, 0)
theorem zDs_ok {c : Int → Int} {n : Int} : ∀ (f : Nat) (k : Int), 0 ≤ k → (zDs c n f k).1 = true → k ≤ (zDs c n f k).2.1 ∧ (zDs c n f k).2.1 ≤ k + f ∧ 0 < (zDs c n f k).2.1 ∧ (zDs c n f k).2.2 = 3 + 3 * (zDs c n f k).2.1 ∧ ∀ d : Int, k ≤ d → d < (zDs c n f k).2.1 → 48 ≤ c (4 + 3 * d) ∧ c (4 + 3 * d) ≤ 57 ∧ 48 ≤ c (5 + 3 * d) ∧ c (5 + 3 * d) ≤ 51
  | 0, k, hk, h => by
    unfold zDs at h ⊢
    have h1 : 0 < k := of_decide_eq_true h
    exact ⟨Int.le_refl _, by simp, h1, rfl, fun d h2 h3 => absurd h3 (by simp at h3 ⊢; omega)⟩
  | f + 1, k, hk, h => by
    unfold zDs at h ⊢
    by_cases a : 3 + 3 * k < n ∧ c (3 + 3 * k) = 47
    · rw [if_pos a] at h ⊢
      by_cases b : 4 + 3 * k < n ∧ 48 ≤ c (4 + 3 * k) ∧ c (4 + 3 * k) ≤ 57
      · rw [if_pos b] at h ⊢
        by_cases e : 5 + 3 * k < n ∧ 48 ≤ c (5 + 3 * k) ∧ c (5 + 3 * k) ≤ 51
        · rw [if_pos e] at h ⊢
          obtain ⟨i1, i2, i3, i4, i5⟩ := zDs_ok f (k + 1) (by omega) h
          refine ⟨by omega, by omega, i3, i4, fun d h2 h3 => ?_⟩
          by_cases z : d = k
          · subst z
            exact ⟨b.2.1, b.2.2, e.2.1, e.2.2⟩
          · exact i5 d (by omega) h3
        · rw [if_neg e] at h
          cases h
      · rw [if_neg b] at h
        cases h
    · rw [if_neg a] at h ⊢
      have h1 : 0 < k := of_decide_eq_true h
      exact ⟨Int.le_refl _, by show k ≤ k + _; omega, h1, rfl, fun d h2 h3 => absurd (show d < k from h3) (by omega)⟩
theorem zGs_ok {c : Int → Int} {n nd : Int} : ∀ (f : Nat) (k : Int), 0 ≤ k → (zGs c n nd f k).1 = true → k ≤ (zGs c n nd f k).2.1 ∧ (zGs c n nd f k).2.1 ≤ k + f ∧ 2 ≤ (zGs c n nd f k).2.1 ∧ (zGs c n nd f k).2.2 = 3 + 3 * nd + 4 * (zGs c n nd f k).2.1 ∧ ∀ d : Int, k ≤ d → d < (zGs c n nd f k).2.1 → (c (4 + 3 * nd + 4 * d) = 103 ∨ c (4 + 3 * nd + 4 * d) = 99 ∨ c (4 + 3 * nd + 4 * d) = 112) ∧ 48 ≤ c (5 + 3 * nd + 4 * d) ∧ c (5 + 3 * nd + 4 * d) ≤ 57 ∧ 48 ≤ c (6 + 3 * nd + 4 * d) ∧ c (6 + 3 * nd + 4 * d) ≤ 47 + nd
  | 0, k, hk, h => by
    unfold zGs at h ⊢
    have h1 : 2 ≤ k := of_decide_eq_true h
    exact ⟨Int.le_refl _, by simp, h1, rfl, fun d h2 h3 => absurd (show d < k from h3) (by omega)⟩
  | f + 1, k, hk, h => by
    unfold zGs at h ⊢
    by_cases a : 3 + 3 * nd + 4 * k < n ∧ c (3 + 3 * nd + 4 * k) = 59
    · rw [if_pos a] at h ⊢
      by_cases b : 4 + 3 * nd + 4 * k < n ∧ (c (4 + 3 * nd + 4 * k) = 103 ∨ c (4 + 3 * nd + 4 * k) = 99 ∨ c (4 + 3 * nd + 4 * k) = 112)
      · rw [if_pos b] at h ⊢
        by_cases e : 5 + 3 * nd + 4 * k < n ∧ 48 ≤ c (5 + 3 * nd + 4 * k) ∧ c (5 + 3 * nd + 4 * k) ≤ 57
        · rw [if_pos e] at h ⊢
          by_cases e2 : 6 + 3 * nd + 4 * k < n ∧ 48 ≤ c (6 + 3 * nd + 4 * k) ∧ c (6 + 3 * nd + 4 * k) ≤ 47 + nd
          · rw [if_pos e2] at h ⊢
            obtain ⟨i1, i2, i3, i4, i5⟩ := zGs_ok f (k + 1) (by omega) h
            refine ⟨by omega, by omega, i3, i4, fun d h2 h3 => ?_⟩
            by_cases z : d = k
            · subst z
              exact ⟨b.2, e.2.1, e.2.2, e2.2.1, e2.2.2⟩
            · exact i5 d (by omega) h3
          · rw [if_neg e2] at h
            cases h
        · rw [if_neg e] at h
          cases h
      · rw [if_neg b] at h
        cases h
    · rw [if_neg a] at h ⊢
      have h1 : 2 ≤ k := of_decide_eq_true h
      exact ⟨Int.le_refl _, by show k ≤ k + _; omega, h1, rfl, fun d h2 h3 => absurd (show d < k from h3) (by omega)⟩
theorem zTx_ok {c : Int → Int} {n : Int} (h : (zTx c n).1 = true) : (zTx c n).2.1 = n ∧ 1 ≤ (zTx c n).2.2.1 ∧ (zTx c n).2.2.1 ≤ 4 ∧ 2 ≤ (zTx c n).2.2.2 ∧ (zTx c n).2.2.2 ≤ 6 ∧ n = 3 + 3 * (zTx c n).2.2.1 + 4 * (zTx c n).2.2.2 ∧ (48 ≤ c 1 ∧ c 1 ≤ 53) ∧ (49 ≤ c 2 ∧ c 2 ≤ 57) ∧ (∀ d : Int, 0 ≤ d → d < (zTx c n).2.2.1 → 48 ≤ c (4 + 3 * d) ∧ c (4 + 3 * d) ≤ 57 ∧ 48 ≤ c (5 + 3 * d) ∧ c (5 + 3 * d) ≤ 51) ∧ ∀ g : Int, 0 ≤ g → g < (zTx c n).2.2.2 → (c (4 + 3 * (zTx c n).2.2.1 + 4 * g) = 103 ∨ c (4 + 3 * (zTx c n).2.2.1 + 4 * g) = 99 ∨ c (4 + 3 * (zTx c n).2.2.1 + 4 * g) = 112) ∧ 48 ≤ c (5 + 3 * (zTx c n).2.2.1 + 4 * g) ∧ c (5 + 3 * (zTx c n).2.2.1 + 4 * g) ≤ 57 ∧ 48 ≤ c (6 + 3 * (zTx c n).2.2.1 + 4 * g) ∧ c (6 + 3 * (zTx c n).2.2.1 + 4 * g) ≤ 47 + (zTx c n).2.2.1 := by
  unfold zTx at h ⊢
  by_cases a : 0 < n ∧ c 0 = 122
  · rw [if_pos a] at h ⊢
    by_cases b : 1 < n ∧ 48 ≤ c 1 ∧ c 1 ≤ 53
    · rw [if_pos b] at h ⊢
      by_cases e : 2 < n ∧ 49 ≤ c 2 ∧ c 2 ≤ 57
      · rw [if_pos e] at h ⊢
        by_cases d : (zDs c n 4 0).1 = true
        · rw [if_pos d] at h ⊢
          by_cases g : (zGs c n (zDs c n 4 0).2.1 6 0).1 = true
          · rw [if_pos g] at h ⊢
            obtain ⟨d1, d2, d3, d4, d5⟩ := zDs_ok 4 0 (by decide) d
            obtain ⟨g1, g2, g3, g4, g5⟩ := zGs_ok 6 0 (by decide) g
            have h1 : (zGs c n (zDs c n 4 0).2.1 6 0).2.2 = n := of_decide_eq_true h
            exact ⟨h1, by show 1 ≤ (zDs c n 4 0).2.1; omega, by show (zDs c n 4 0).2.1 ≤ 4; omega, g3, by show (zGs c n (zDs c n 4 0).2.1 6 0).2.1 ≤ 6; omega, by show n = 3 + 3 * (zDs c n 4 0).2.1 + 4 * (zGs c n (zDs c n 4 0).2.1 6 0).2.1; omega, b.2, e.2, d5, g5⟩
          · rw [if_neg g] at h; cases h
        · rw [if_neg d] at h; cases h
      · rw [if_neg e] at h; cases h
    · rw [if_neg b] at h; cases h
  · rw [if_neg a] at h; cases h
def zKd (x : Int) : Int := if x = 112 then 2 else if x = 99 then 1 else 0
theorem zKd_in (x : Int) : 0 ≤ zKd x ∧ zKd x ≤ 2 := by
  unfold zKd
  (repeat' split) <;> omega
def fHotel (sz ln k lane i n : Int) (T : Bool × Int × Int × Int) : Int := if k < 0 ∨ 4 ≤ k then -1 else if lane < 0 ∨ 2 < lane then -2 else if sz < 0 then -11 else if ¬ ln = lane then -12 else if n < 0 then -14 else if i < 0 ∨ sz < i + n then -13 else if T.1 = true then T.2.2.2 else -100 - T.2.1
/-- the text's walk stands at p: its row, its codes c, its length n -/
def zTS (w : zW) (c : Int → Int) (n p : Int) : Prop := (zS w.2 = .inl (0, 60) ∧ (∀ k, zB w.2 k = (-2147483648, 2147483647)) ∧ 16 ≤ w.2) ∧ w.1 3 1 + w.1 3 2 ≤ 60 ∧ (∀ q, w.1 w.2 (w.1 3 1 + q) = c q) ∧ w.1 3 2 = n ∧ w.1 3 3 = p
theorem zTS.put {w : zW} {c : Int → Int} {n p v : Int} (h : zTS w c n p) : zTS (zput w 3 3 v) c n v := by
  obtain ⟨⟨h1, h2, h3⟩, h4, h5, h6, h7⟩ := h
  exact ⟨⟨h1, h2, h3⟩, h4, fun q => (zput_i w _ _ _ (by show w.2 ≠ 3; omega)).trans (h5 q), h6, zput_s w 3 3 v⟩
theorem zTS.put2 {w : zW} {c : Int → Int} {n p v k : Int} (h : zTS w c n p) (hk : k = 4 ∨ k = 5) : zTS (zput w 3 k v) c n p := by
  obtain ⟨⟨h1, h2, h3⟩, h4, h5, h6, h7⟩ := h
  have e1 : (zput w 3 k v).1 3 1 = w.1 3 1 := zput_k w v (by omega)
  have e2 : (zput w 3 k v).1 3 2 = w.1 3 2 := zput_k w v (by omega)
  have e3 : (zput w 3 k v).1 3 3 = w.1 3 3 := zput_k w v (by omega)
  exact ⟨⟨h1, h2, h3⟩, by rw [e1, e2]; exact h4, fun q => by rw [e1]; exact (zput_i w _ _ _ (by show w.2 ≠ 3; omega)).trans (h5 q), e2.trans h6, e3.trans h7⟩
theorem zDs_r {c : Int → Int} {n k : Int} (h : k < 4) : zDs c n (4 - k).toNat k = if 3 + 3 * k < n ∧ c (3 + 3 * k) = 47 then (if 4 + 3 * k < n ∧ 48 ≤ c (4 + 3 * k) ∧ c (4 + 3 * k) ≤ 57 then (if 5 + 3 * k < n ∧ 48 ≤ c (5 + 3 * k) ∧ c (5 + 3 * k) ≤ 51 then zDs c n (4 - (k + 1)).toNat (k + 1) else (false, k, 5 + 3 * k)) else (false, k, 4 + 3 * k)) else (decide (0 < k), k, 3 + 3 * k) := by
  have e : (4 - k).toNat = (4 - (k + 1)).toNat + 1 := by omega
  rw [e]
  rfl
theorem zGs_r {c : Int → Int} {n nd j : Int} (h : j < 6) : zGs c n nd (6 - j).toNat j = if 3 + 3 * nd + 4 * j < n ∧ c (3 + 3 * nd + 4 * j) = 59 then (if 4 + 3 * nd + 4 * j < n ∧ (c (4 + 3 * nd + 4 * j) = 103 ∨ c (4 + 3 * nd + 4 * j) = 99 ∨ c (4 + 3 * nd + 4 * j) = 112) then (if 5 + 3 * nd + 4 * j < n ∧ 48 ≤ c (5 + 3 * nd + 4 * j) ∧ c (5 + 3 * nd + 4 * j) ≤ 57 then (if 6 + 3 * nd + 4 * j < n ∧ 48 ≤ c (6 + 3 * nd + 4 * j) ∧ c (6 + 3 * nd + 4 * j) ≤ 47 + nd then zGs c n nd (6 - (j + 1)).toNat (j + 1) else (false, j, 6 + 3 * nd + 4 * j)) else (false, j, 5 + 3 * nd + 4 * j)) else (false, j, 4 + 3 * nd + 4 * j)) else (decide (2 ≤ j), j, 3 + 3 * nd + 4 * j) := by
  have e : (6 - j).toNat = (6 - (j + 1)).toNat + 1 := by omega
  rw [e]
  rfl
/-- what a text that is taken makes of the hotel (the class's cells) -/
def zHoC (w : zW) (c : Int → Int) (nd ng : Int) (i : Nat) (k : Int) : Int :=
  if i = 1 ∧ k = 0 then c 1 - 48 else if i = 1 ∧ k = 1 then c 2 - 48 else if i = 1 ∧ k = 2 then nd else if i = 1 ∧ k = 3 then ng
  else if i = 7 ∧ 0 ≤ k ∧ k < nd then c (4 + 3 * k) - 48 else if i = 8 ∧ 0 ≤ k ∧ k < nd then c (5 + 3 * k) - 48
  else if i = 9 ∧ 0 ≤ k ∧ k < ng then zKd (c (4 + 3 * nd + 4 * k)) else if i = 10 ∧ 0 ≤ k ∧ k < ng then c (5 + 3 * nd + 4 * k) - 48 else if i = 11 ∧ 0 ≤ k ∧ k < ng then c (6 + 3 * nd + 4 * k) - 48
  else w.1 i k
theorem zHoC_e (w : zW) (r : Nat) (f nd ng : Int) (i : Nat) (k : Int) : zHoC w (fun q => w.1 r (f + q)) nd ng i k =
  if i = 1 ∧ k = 0 then w.1 r (f + 1) - 48 else if i = 1 ∧ k = 1 then w.1 r (f + 2) - 48 else if i = 1 ∧ k = 2 then nd else if i = 1 ∧ k = 3 then ng
  else if i = 7 ∧ 0 ≤ k ∧ k < nd then w.1 r (f + (4 + 3 * k)) - 48 else if i = 8 ∧ 0 ≤ k ∧ k < nd then w.1 r (f + (5 + 3 * k)) - 48
  else if i = 9 ∧ 0 ≤ k ∧ k < ng then zKd (w.1 r (f + (4 + 3 * nd + 4 * k))) else if i = 10 ∧ 0 ≤ k ∧ k < ng then w.1 r (f + (5 + 3 * nd + 4 * k)) - 48 else if i = 11 ∧ 0 ≤ k ∧ k < ng then w.1 r (f + (6 + 3 * nd + 4 * k)) - 48
  else w.1 i k := rfl
