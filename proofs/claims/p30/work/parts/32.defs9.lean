/-! the reference's reading, whole -/
def zFr5 (w w' : zW) : Prop := ∀ i j, ¬ (i = 33 ∧ 10 ≤ j ∧ j ≤ 14) → ¬ (39 ≤ i ∧ i ≤ 43) → w'.1 i j = w.1 i j
theorem zFr5.trans {a b c : zW} (h : zFr5 a b) (h2 : zFr5 b c) : zFr5 a c := fun i j q1 q2 => (h2 i j q1 q2).trans (h i j q1 q2)
def zI1 (w : zW) (b : Int) (c : Int → Int) (n : Int) : Prop := zHd c n ∧ zRS w b c (3 + 3 * w.1 33 13) ∧ 3 + 3 * w.1 33 13 ≤ n ∧ zDs c n 4 0 = zDs c n (4 - w.1 33 13).toNat (w.1 33 13) ∧ w.1 33 14 = 0 ∧ w.1 33 11 = c 1 - 48 ∧ w.1 33 12 = c 2 - 48 ∧ (∀ d : Int, 0 ≤ d → d < w.1 33 13 → w.1 39 d = c (4 + 3 * d) - 48 ∧ w.1 40 d = c (5 + 3 * d) - 48)
def zI2 (w : zW) (b : Int) (c : Int → Int) (n : Int) : Prop := zHd c n ∧ zRS w b c (3 + 3 * w.1 33 13 + 4 * w.1 33 14) ∧ 3 + 3 * w.1 33 13 + 4 * w.1 33 14 ≤ n ∧ (1 ≤ w.1 33 13 ∧ w.1 33 13 ≤ 4) ∧ zDs c n 4 0 = (true, w.1 33 13, 3 + 3 * w.1 33 13) ∧ zGs c n (w.1 33 13) 6 0 = zGs c n (w.1 33 13) (6 - w.1 33 14).toNat (w.1 33 14) ∧ w.1 33 11 = c 1 - 48 ∧ w.1 33 12 = c 2 - 48 ∧ (∀ d : Int, 0 ≤ d → d < w.1 33 13 → w.1 39 d = c (4 + 3 * d) - 48 ∧ w.1 40 d = c (5 + 3 * d) - 48) ∧ (∀ g : Int, 0 ≤ g → g < w.1 33 14 → w.1 41 g = zKd (c (4 + 3 * w.1 33 13 + 4 * g)) ∧ w.1 42 g = c (5 + 3 * w.1 33 13 + 4 * g) - 48 ∧ w.1 43 g = c (6 + 3 * w.1 33 13 + 4 * g) - 48)
theorem zI1.step {w w' : zW} {b : Int} {c : Int → Int} {n k : Int} (h : zI1 w b c n) (hk : w.1 33 13 = k) (h0 : 0 ≤ k) (h1 : k < 4 ∧ 3 + 3 * k < n ∧ c (3 + 3 * k) = 47) (h2 : 4 + 3 * k < n ∧ 48 ≤ c (4 + 3 * k) ∧ c (4 + 3 * k) ≤ 57) (h3 : 5 + 3 * k < n ∧ 48 ≤ c (5 + 3 * k) ∧ c (5 + 3 * k) ≤ 51) (hp : w'.1 33 10 = 6 + 3 * k) (hk' : w'.1 33 13 = k + 1)
    (hw : ∀ i j, ¬ (i = 33 ∧ (j = 10 ∨ j = 13)) → w'.1 i j = (if i = 39 ∧ j = k then c (4 + 3 * k) - 48 else if i = 40 ∧ j = k then c (5 + 3 * k) - 48 else w.1 i j)) : zI1 w' b c n := by
  obtain ⟨a1, a2, a3, a4, a5, a6, a7, a8⟩ := h
  rw [hk] at a2 a3 a4 a8
  unfold zI1
  rw [hk']
  refine ⟨a1, a2.fr (fun q => by rw [hw 50 q (by omega), if_neg (by omega), if_neg (by omega)]) (by omega), by omega, ?_, ?_, ?_, ?_, fun d d0 d1 => ?_⟩
  · rw [a4, zDs_r h1.1, if_pos h1.2, if_pos h2, if_pos h3]
  · rw [hw 33 14 (by omega), if_neg (by omega), if_neg (by omega)]; exact a5
  · rw [hw 33 11 (by omega), if_neg (by omega), if_neg (by omega)]; exact a6
  · rw [hw 33 12 (by omega), if_neg (by omega), if_neg (by omega)]; exact a7
  · rw [hw 39 d (by omega), hw 40 d (by omega)]
    by_cases e : d = k
    · rw [if_pos ⟨rfl, e⟩, if_neg (by omega), if_pos ⟨rfl, e⟩, e]
      exact ⟨rfl, rfl⟩
    · rw [if_neg (by omega), if_neg (by omega), if_neg (by omega), if_neg (by omega)]
      exact a8 d d0 (by omega)
theorem zI1.fin {w : zW} {b : Int} {c : Int → Int} {n : Int} (h : zI1 w b c n) (h0 : 0 < w.1 33 13) (h4 : w.1 33 13 ≤ 4) (hc : w.1 33 13 = 4 ∨ ¬ (3 + 3 * w.1 33 13 < n ∧ c (3 + 3 * w.1 33 13) = 47)) : zI2 w b c n := by
  obtain ⟨a1, a2, a3, a4, a5, a6, a7, a8⟩ := h
  have e := zDs_end h0 h4 a4 hc
  unfold zI2
  rw [a5]
  exact ⟨a1, by rw [show 3 + 3 * w.1 33 13 + 4 * 0 = 3 + 3 * w.1 33 13 by omega]; exact a2, by omega, ⟨by omega, h4⟩, e, rfl, a6, a7, a8, fun g g0 g1 => absurd g1 (by omega)⟩
theorem zI2.step {w w' : zW} {b : Int} {c : Int → Int} {n nd k : Int} (h : zI2 w b c n) (hnd : w.1 33 13 = nd) (hk : w.1 33 14 = k) (h0 : 0 ≤ k) (h1 : k < 6 ∧ 3 + 3 * nd + 4 * k < n ∧ c (3 + 3 * nd + 4 * k) = 59) (h2 : 4 + 3 * nd + 4 * k < n ∧ (c (4 + 3 * nd + 4 * k) = 103 ∨ c (4 + 3 * nd + 4 * k) = 99 ∨ c (4 + 3 * nd + 4 * k) = 112)) (h3 : 5 + 3 * nd + 4 * k < n ∧ 48 ≤ c (5 + 3 * nd + 4 * k) ∧ c (5 + 3 * nd + 4 * k) ≤ 57) (h4 : 6 + 3 * nd + 4 * k < n ∧ 48 ≤ c (6 + 3 * nd + 4 * k) ∧ c (6 + 3 * nd + 4 * k) ≤ 47 + nd) (hp : w'.1 33 10 = 7 + 3 * nd + 4 * k) (hk' : w'.1 33 14 = k + 1)
    (hw : ∀ i j, ¬ (i = 33 ∧ (j = 10 ∨ j = 14)) → w'.1 i j = (if i = 41 ∧ j = k then zKd (c (4 + 3 * nd + 4 * k)) else if i = 42 ∧ j = k then c (5 + 3 * nd + 4 * k) - 48 else if i = 43 ∧ j = k then c (6 + 3 * nd + 4 * k) - 48 else w.1 i j)) : zI2 w' b c n := by
  obtain ⟨a1, a2, a3, a4, a5, a6, a7, a8, a9, a10⟩ := h
  have hnd' : w'.1 33 13 = nd := by rw [hw 33 13 (by omega), if_neg (by omega), if_neg (by omega), if_neg (by omega)]; exact hnd
  rw [hnd, hk] at a2 a3 a6
  rw [hnd] at a4 a5 a9 a10
  rw [hk] at a10
  unfold zI2
  rw [hk', hnd']
  refine ⟨a1, a2.fr (fun q => by rw [hw 50 q (by omega), if_neg (by omega), if_neg (by omega), if_neg (by omega)]) (by omega), by omega, a4, a5, ?_, ?_, ?_, fun d d0 d1 => ?_, fun g g0 g1 => ?_⟩
  · rw [a6, zGs_r h1.1, if_pos h1.2, if_pos h2, if_pos h3, if_pos h4]
  · rw [hw 33 11 (by omega), if_neg (by omega), if_neg (by omega), if_neg (by omega)]; exact a7
  · rw [hw 33 12 (by omega), if_neg (by omega), if_neg (by omega), if_neg (by omega)]; exact a8
  · rw [hw 39 d (by omega), hw 40 d (by omega), if_neg (by omega), if_neg (by omega), if_neg (by omega), if_neg (by omega), if_neg (by omega), if_neg (by omega)]
    exact a9 d d0 d1
  · rw [hw 41 g (by omega), hw 42 g (by omega), hw 43 g (by omega)]
    by_cases e : g = k
    · rw [if_pos ⟨rfl, e⟩, if_neg (by omega), if_pos ⟨rfl, e⟩, if_neg (by omega), if_neg (by omega), if_pos ⟨rfl, e⟩, e]
      exact ⟨rfl, rfl, rfl⟩
    · rw [if_neg (by omega), if_neg (by omega), if_neg (by omega), if_neg (by omega), if_neg (by omega), if_neg (by omega), if_neg (by omega), if_neg (by omega), if_neg (by omega)]
      exact a10 g g0 (by omega)
theorem zI2.fin {w : zW} {b : Int} {c : Int → Int} {n : Int} (h : zI2 w b c n) (h2 : 2 ≤ w.1 33 14) (h6 : w.1 33 14 ≤ 6) (hp : n ≤ w.1 33 10) : zTx c n = (true, n, w.1 33 13, w.1 33 14) := by
  obtain ⟨a1, a2, a3, a4, a5, a6, a7, a8, a9, a10⟩ := h
  have hp2 := a2.2
  have e := zGs_end h6 a6 (by omega)
  rw [decide_eq_true h2] at e
  rw [zTx_t a1 a5 e, show 3 + 3 * w.1 33 13 + 4 * w.1 33 14 = n by omega, decide_eq_true rfl]
/-- what a text that is taken makes of the hotel (the reference's cells) -/
def zHoM (w : zW) (c : Int → Int) (nd ng : Int) (i : Nat) (k : Int) : Int :=
  if i = 33 ∧ k = 1 then c 1 - 48 else if i = 33 ∧ k = 2 then c 2 - 48 else if i = 33 ∧ k = 3 then nd else if i = 33 ∧ k = 6 then ng
  else if i = 34 ∧ 0 ≤ k ∧ k < nd then c (4 + 3 * k) - 48 else if i = 35 ∧ 0 ≤ k ∧ k < nd then c (5 + 3 * k) - 48
  else if i = 36 ∧ 0 ≤ k ∧ k < ng then zKd (c (4 + 3 * nd + 4 * k)) else if i = 37 ∧ 0 ≤ k ∧ k < ng then c (5 + 3 * nd + 4 * k) - 48 else if i = 38 ∧ 0 ≤ k ∧ k < ng then c (6 + 3 * nd + 4 * k) - 48
  else w.1 i k
theorem zkeep_5s {i : Nat} {k : Int} (h : zkeep i k = true) : ¬ (i = 33 ∧ 10 ≤ k ∧ k ≤ 14) ∧ ¬ (39 ≤ i ∧ i ≤ 43) := by
  constructor
  · rintro ⟨rfl, q1, q2⟩
    rcases (by omega : k = 10 ∨ k = 11 ∨ k = 12 ∨ k = 13 ∨ k = 14) with rfl | rfl | rfl | rfl | rfl <;> exact absurd h (by decide)
  · rintro ⟨q1, q2⟩
    rcases (by omega : i = 39 ∨ i = 40 ∨ i = 41 ∨ i = 42 ∨ i = 43) with rfl | rfl | rfl | rfl | rfl <;> (revert h; simp [zkeep])
