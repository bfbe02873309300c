/-! the reference's reading of a text -/
theorem z48 {c : Int} (h1 : -2147483648 ≤ c) (h2 : c ≤ 2147483647) : zin (znrm (c - 48)) ∧ (znrm (c - 48) = c - 48 ∨ (c - 48 < -2147483648 ∧ 10 < znrm (c - 48))) := by
  refine ⟨zto_in _, ?_⟩
  by_cases z : -2147483648 ≤ c - 48
  · exact Or.inl (zi_to ⟨z, by omega⟩)
  · refine Or.inr ⟨by omega, ?_⟩
    have e : Int32.ofInt (c - 48) = Int32.ofInt (c - 48 + 4294967296) := by
      rw [← Int32.toInt_inj, Int32.toInt_ofInt, Int32.toInt_ofInt]
      unfold Int.bmod
      have e1 : (c - 48 + 4294967296) % ((2 ^ 32 : Nat) : Int) = (c - 48) % ((2 ^ 32 : Nat) : Int) := by
        show (c - 48 + 4294967296) % 4294967296 = (c - 48) % 4294967296
        omega
      first
        | rw [e1]
        | (simp only [Int32.size]; omega)
        | omega
    show 10 < (Int32.ofInt (c - 48)).toInt
    rw [e, zi_to ⟨by omega, by omega⟩]
    omega
/-- the reference's reading stands at p: its codes c from cell b of the sheets -/
def zRS (w : zW) (b : Int) (c : Int → Int) (p : Int) : Prop := (∀ q, w.1 50 (b + q) = c q) ∧ w.1 33 10 = p
theorem zRS.fr {w w' : zW} {b : Int} {c : Int → Int} {p p' : Int} (h : zRS w b c p) (h2 : ∀ q, w'.1 50 q = w.1 50 q) (h3 : w'.1 33 10 = p') : zRS w' b c p' := ⟨fun q => (h2 _).trans (h.1 q), h3⟩
def zHd (c : Int → Int) (n : Int) : Prop := (0 < n ∧ c 0 = 122) ∧ (1 < n ∧ 48 ≤ c 1 ∧ c 1 ≤ 53) ∧ (2 < n ∧ 49 ≤ c 2 ∧ c 2 ≤ 57)
def zFl (c : Int → Int) (n p : Int) : Prop := (zTx c n).1 = false ∧ (zTx c n).2.1 = p
theorem zFl_0 {c : Int → Int} {n : Int} (h : ¬ (0 < n ∧ c 0 = 122)) : zFl c n 0 := by
  unfold zFl zTx
  rw [if_neg h]
  exact ⟨rfl, rfl⟩
theorem zFl_1 {c : Int → Int} {n : Int} (h0 : 0 < n ∧ c 0 = 122) (h : ¬ (1 < n ∧ 48 ≤ c 1 ∧ c 1 ≤ 53)) : zFl c n 1 := by
  unfold zFl zTx
  rw [if_pos h0, if_neg h]
  exact ⟨rfl, rfl⟩
theorem zFl_2 {c : Int → Int} {n : Int} (h0 : 0 < n ∧ c 0 = 122) (h1 : 1 < n ∧ 48 ≤ c 1 ∧ c 1 ≤ 53) (h : ¬ (2 < n ∧ 49 ≤ c 2 ∧ c 2 ≤ 57)) : zFl c n 2 := by
  unfold zFl zTx
  rw [if_pos h0, if_pos h1, if_neg h]
  exact ⟨rfl, rfl⟩
theorem zTx_d {c : Int → Int} {n k p : Int} (h : zHd c n) (hd : zDs c n 4 0 = (false, k, p)) : zFl c n p := by
  unfold zFl zTx
  rw [if_pos h.1, if_pos h.2.1, if_pos h.2.2, hd, if_neg Bool.false_ne_true]
  exact ⟨rfl, rfl⟩
theorem zTx_g {c : Int → Int} {n nd q j p : Int} (h : zHd c n) (hd : zDs c n 4 0 = (true, nd, q)) (hg : zGs c n nd 6 0 = (false, j, p)) : zFl c n p := by
  unfold zFl zTx
  rw [if_pos h.1, if_pos h.2.1, if_pos h.2.2, hd, if_pos rfl, hg, if_neg Bool.false_ne_true]
  exact ⟨rfl, rfl⟩
theorem zTx_t {c : Int → Int} {n nd q j p : Int} (h : zHd c n) (hd : zDs c n 4 0 = (true, nd, q)) (hg : zGs c n nd 6 0 = (true, j, p)) : zTx c n = (decide (p = n), p, nd, j) := by
  unfold zTx
  rw [if_pos h.1, if_pos h.2.1, if_pos h.2.2, hd, if_pos rfl, hg, if_pos rfl]
theorem zFl_t {c : Int → Int} {n nd q j p : Int} (h : zHd c n) (hd : zDs c n 4 0 = (true, nd, q)) (hg : zGs c n nd 6 0 = (true, j, p)) (hp : ¬ p = n) : zFl c n p := by
  unfold zFl
  rw [zTx_t h hd hg]
  exact ⟨decide_eq_false hp, rfl⟩
theorem zDs_end {c : Int → Int} {n k : Int} (h1 : 0 < k) (h4 : k ≤ 4) (hz : zDs c n 4 0 = zDs c n (4 - k).toNat k) (hc : k = 4 ∨ ¬ (3 + 3 * k < n ∧ c (3 + 3 * k) = 47)) : zDs c n 4 0 = (true, k, 3 + 3 * k) := by
  rw [hz]
  by_cases e : k = 4
  · subst e
    rfl
  · rw [zDs_r (by omega), if_neg (by omega), decide_eq_true h1]
theorem zGs_end {c : Int → Int} {n nd j : Int} (h4 : j ≤ 6) (hz : zGs c n nd 6 0 = zGs c n nd (6 - j).toNat j) (hc : j = 6 ∨ ¬ (3 + 3 * nd + 4 * j < n ∧ c (3 + 3 * nd + 4 * j) = 59)) : zGs c n nd 6 0 = (decide (2 ≤ j), j, 3 + 3 * nd + 4 * j) := by
  rw [hz]
  by_cases e : j = 6
  · subst e
    rfl
  · rw [zGs_r (by omega), if_neg (by omega)]
theorem zFl_d {c : Int → Int} {n k p : Int} (h : zHd c n) (h0 : 0 ≤ k) (h4 : k ≤ 4) (hz : zDs c n 4 0 = zDs c n (4 - k).toNat k) (hk : k = 0 ∨ (3 + 3 * k < n ∧ c (3 + 3 * k) = 47))
    (hc : ((k = 4 ∨ n ≤ 3 + 3 * k ∨ ¬ c (3 + 3 * k) = 47) ∧ p = 3 + 3 * k) ∨ ((k < 4 ∧ 3 + 3 * k < n ∧ c (3 + 3 * k) = 47) ∧ (n ≤ 4 + 3 * k ∨ c (4 + 3 * k) < 48 ∨ 57 < c (4 + 3 * k)) ∧ p = 4 + 3 * k) ∨ ((k < 4 ∧ 3 + 3 * k < n ∧ c (3 + 3 * k) = 47) ∧ (4 + 3 * k < n ∧ 48 ≤ c (4 + 3 * k) ∧ c (4 + 3 * k) ≤ 57) ∧ (n ≤ 5 + 3 * k ∨ c (5 + 3 * k) < 48 ∨ 51 < c (5 + 3 * k)) ∧ p = 5 + 3 * k)) : zFl c n p := by
  rcases hc with ⟨a, rfl⟩ | ⟨a, b, rfl⟩ | ⟨a, b, d, rfl⟩
  · by_cases e : k = 4
    · have e2 := zDs_end (by omega) h4 hz (Or.inl e)
      subst e
      exact zTx_g h e2 (j := 0) (by show (if 3 + 3 * 4 + 4 * 0 < n ∧ c (3 + 3 * 4 + 4 * 0) = 59 then _ else (decide ((2 : Int) ≤ 0), (0 : Int), (3 + 3 * 4 + 4 * 0 : Int))) = _; rw [if_neg (by show ¬ (15 < n ∧ c 15 = 59); have q : c 15 = 47 := (by rcases hk with q | q; exact absurd q (by decide); exact q.2); omega)]; rfl)
    · have e2 : k = 0 := by omega
      subst e2
      exact zTx_d h (k := 0) (by rw [hz, zDs_r (by omega), if_neg (by omega)]; rfl)
  · exact zTx_d h (k := k) (by rw [hz, zDs_r (by omega), if_pos (by omega), if_neg (by omega)])
  · exact zTx_d h (k := k) (by rw [hz, zDs_r (by omega), if_pos (by omega), if_pos (by omega), if_neg (by omega)])
theorem zFl_g {c : Int → Int} {n nd j p : Int} (h : zHd c n) (hd : zDs c n 4 0 = (true, nd, 3 + 3 * nd)) (h4 : j ≤ 6) (hz : zGs c n nd 6 0 = zGs c n nd (6 - j).toNat j) (hk : j < 2 ∨ 3 + 3 * nd + 4 * j < n)
    (hc : ((j = 6 ∨ n ≤ 3 + 3 * nd + 4 * j ∨ ¬ c (3 + 3 * nd + 4 * j) = 59) ∧ p = 3 + 3 * nd + 4 * j) ∨ ((j < 6 ∧ 3 + 3 * nd + 4 * j < n ∧ c (3 + 3 * nd + 4 * j) = 59) ∧ (n ≤ 4 + 3 * nd + 4 * j ∨ ¬ (c (4 + 3 * nd + 4 * j) = 103 ∨ c (4 + 3 * nd + 4 * j) = 99 ∨ c (4 + 3 * nd + 4 * j) = 112)) ∧ p = 4 + 3 * nd + 4 * j)
      ∨ ((j < 6 ∧ 3 + 3 * nd + 4 * j < n ∧ c (3 + 3 * nd + 4 * j) = 59) ∧ (4 + 3 * nd + 4 * j < n ∧ (c (4 + 3 * nd + 4 * j) = 103 ∨ c (4 + 3 * nd + 4 * j) = 99 ∨ c (4 + 3 * nd + 4 * j) = 112)) ∧ (n ≤ 5 + 3 * nd + 4 * j ∨ c (5 + 3 * nd + 4 * j) < 48 ∨ 57 < c (5 + 3 * nd + 4 * j)) ∧ p = 5 + 3 * nd + 4 * j)
      ∨ ((j < 6 ∧ 3 + 3 * nd + 4 * j < n ∧ c (3 + 3 * nd + 4 * j) = 59) ∧ (4 + 3 * nd + 4 * j < n ∧ (c (4 + 3 * nd + 4 * j) = 103 ∨ c (4 + 3 * nd + 4 * j) = 99 ∨ c (4 + 3 * nd + 4 * j) = 112)) ∧ (5 + 3 * nd + 4 * j < n ∧ 48 ≤ c (5 + 3 * nd + 4 * j) ∧ c (5 + 3 * nd + 4 * j) ≤ 57) ∧ (n ≤ 6 + 3 * nd + 4 * j ∨ c (6 + 3 * nd + 4 * j) < 48 ∨ 47 + nd < c (6 + 3 * nd + 4 * j)) ∧ p = 6 + 3 * nd + 4 * j)) : zFl c n p := by
  rcases hc with ⟨a, rfl⟩ | ⟨a, b, rfl⟩ | ⟨a, b, d, rfl⟩ | ⟨a, b, d, e, rfl⟩
  · have e2 := zGs_end h4 hz (by omega)
    by_cases q : 2 ≤ j
    · rw [decide_eq_true q] at e2
      exact zFl_t h hd e2 (by omega)
    · rw [decide_eq_false q] at e2
      exact zTx_g h hd e2
  · exact zTx_g h hd (j := j) (by rw [hz, zGs_r (by omega), if_pos (by omega), if_neg (by omega)])
  · exact zTx_g h hd (j := j) (by rw [hz, zGs_r (by omega), if_pos (by omega), if_pos (by omega), if_neg (by omega)])
  · exact zTx_g h hd (j := j) (by rw [hz, zGs_r (by omega), if_pos (by omega), if_pos (by omega), if_pos (by omega), if_neg (by omega)])
