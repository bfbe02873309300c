/-! ask, as the reference does it -/
theorem zshl1_in {n : Int} (h0 : 0 ≤ n) (h1 : n ≤ 6) : 1 ≤ zshl 1 n ∧ zshl 1 n ≤ 64 := by
  rcases (by omega : n = 0 ∨ n = 1 ∨ n = 2 ∨ n = 3 ∨ n = 4 ∨ n = 5 ∨ n = 6) with rfl | rfl | rfl | rfl | rfl | rfl | rfl <;> decide +kernel
theorem zSet_6 : ∀ a b c d e f : Bool, ∀ n : Fin 7, 0 ≤ zSet (zB6 a b c d e f) n.val ∧ zSet (zB6 a b c d e f) n.val ≤ 63 := by decide +kernel
theorem zSet_63 (P : Int → Bool) {n : Nat} (hn : n ≤ 6) : 0 ≤ zSet P n ∧ zSet P n ≤ 63 := by
  have h := zSet_6 (P 0) (P 1) (P 2) (P 3) (P 4) (P 5) ⟨n, by omega⟩
  rw [show zSet (zB6 (P 0) (P 1) (P 2) (P 3) (P 4) (P 5)) (⟨n, by omega⟩ : Fin 7).val = zSet P n from zSet_eq (fun i a b => zB6_of P a (by omega))] at h
  exact h
theorem zbit_hi : ∀ s : Fin 64, ∀ n : Fin 7, ∀ j : Fin 6, n.val ≤ j.val → (s.val : Int) < zshl 1 (n.val : Int) → ¬ ziand (zshr (s.val : Int) (j.val : Int)) 1 = 1 := by decide +kernel
theorem zand_bit : ∀ s t : Fin 64, ∀ j : Fin 6, (ziand (zshr (ziand (s.val : Int) (t.val : Int)) (j.val : Int)) 1 = 0 ↔ ¬ (ziand (zshr (s.val : Int) (j.val : Int)) 1 = 1 ∧ ziand (zshr (t.val : Int) (j.val : Int)) 1 = 1)) := by decide +kernel
theorem zand_nil : ∀ s : Fin 64, ((s.val : Int) = 0 ↔ ∀ j : Fin 6, ziand (zshr (s.val : Int) (j.val : Int)) 1 = 0) := by decide +kernel
theorem zand_in : ∀ s t : Fin 64, 0 ≤ ziand (s.val : Int) (t.val : Int) ∧ ziand (s.val : Int) (t.val : Int) < 64 := by decide +kernel
theorem zfin {x : Int} {n : Nat} (h0 : 0 ≤ x) (h1 : x < n) : ∃ s : Fin n, (s.val : Int) = x := ⟨⟨x.toNat, by omega⟩, Int.toNat_of_nonneg h0⟩
theorem zand_b {s t j : Int} (s0 : 0 ≤ s) (s1 : s < 64) (t0 : 0 ≤ t) (t1 : t < 64) (j0 : 0 ≤ j) (j1 : j < 6) : ziand (zshr (ziand s t) j) 1 = 0 ↔ ¬ (ziand (zshr s j) 1 = 1 ∧ ziand (zshr t j) 1 = 1) := by
  obtain ⟨a, rfl⟩ := zfin (n := 64) s0 s1
  obtain ⟨b, rfl⟩ := zfin (n := 64) t0 t1
  obtain ⟨c, rfl⟩ := zfin (n := 6) j0 j1
  exact zand_bit a b c
theorem zand_0 {s t : Int} (s0 : 0 ≤ s) (s1 : s < 64) (t0 : 0 ≤ t) (t1 : t < 64) : ziand s t = 0 ↔ ∀ j : Int, 0 ≤ j → j < 6 → ¬ (ziand (zshr s j) 1 = 1 ∧ ziand (zshr t j) 1 = 1) := by
  have hin : 0 ≤ ziand s t ∧ ziand s t < 64 := by
    obtain ⟨a, rfl⟩ := zfin (n := 64) s0 s1
    obtain ⟨b, rfl⟩ := zfin (n := 64) t0 t1
    exact zand_in a b
  have hn : ziand s t = 0 ↔ ∀ j : Fin 6, ziand (zshr (ziand s t) (j.val : Int)) 1 = 0 := by
    obtain ⟨a, ha⟩ := zfin (n := 64) hin.1 hin.2
    rw [← ha]
    exact zand_nil a
  rw [hn]
  constructor
  · intro h j j0 j1
    obtain ⟨c, rfl⟩ := zfin (n := 6) j0 j1
    exact (zand_b s0 s1 t0 t1 j0 j1).mp (h c)
  · intro h j
    exact (zand_b s0 s1 t0 t1 (by omega) (by omega)).mpr (h j.val (by omega) (by omega))
def zInn (P : Int → Prop) (cost i best least g bs ls : Int) : Prop := ((least ≤ cost ∨ ∀ j : Int, 0 ≤ j → j < g → ¬ P j) ∧ bs = best ∧ ls = least) ∨ (cost < least ∧ ls = cost ∧ ∃ g0 : Int, 0 ≤ g0 ∧ g0 < g ∧ P g0 ∧ (∀ j : Int, 0 ≤ j → j < g0 → ¬ P j) ∧ bs = 10 * g0 + i)
theorem zInn.step {P : Int → Prop} {cost i best least g bs ls nb nl : Int} (h : zInn P cost i best least g bs ls) (g0 : 0 ≤ g) (hs : ((P g ∧ cost < ls) ∧ nb = 10 * g + i ∧ nl = cost) ∨ (¬ (P g ∧ cost < ls) ∧ nb = bs ∧ nl = ls)) : zInn P cost i best least (g + 1) nb nl := by
  rcases h with ⟨h1, h2, h3⟩ | ⟨h1, h2, q, q0, q1, q2, q3, q4⟩
  · rcases hs with ⟨⟨a, b⟩, c, d⟩ | ⟨a, c, d⟩
    · refine Or.inr ⟨by omega, d, g, g0, by omega, a, fun j j0 j1 => ?_, c⟩
      rcases h1 with z | z
      · omega
      · exact z j j0 j1
    · refine Or.inl ⟨?_, c.trans h2, d.trans h3⟩
      rcases h1 with z | z
      · exact Or.inl z
      · by_cases e : least ≤ cost
        · exact Or.inl e
        · refine Or.inr (fun j j0 j1 => ?_)
          by_cases e2 : j = g
          · rw [e2]
            exact fun u => a ⟨u, by omega⟩
          · exact z j j0 (by omega)
  · rcases hs with ⟨⟨a, b⟩, c, d⟩ | ⟨a, c, d⟩
    · omega
    · exact Or.inr ⟨h1, d.trans h2, q, q0, by omega, q2, q3, c.trans q4⟩
theorem zInn.fin {w : zW} {set cost i best least bs ls : Int} (hG : 0 ≤ w.1 33 6 ∧ w.1 33 6 ≤ 6) (s0 : 0 ≤ set) (s1 : set < zshl 1 (w.1 33 6)) (h : zInn (fun g => ziand (zshr set g) 1 = 1 ∧ w.1 33 2 ≤ zPM w g i) cost i best least (w.1 33 6) bs ls) : (bs, ls) = if ¬ ziand set (zWMo w i) = 0 ∧ cost < least then (10 * zFirst (ziand set (zWMo w i)) + i, cost) else (best, least) := by
  have hl := zshl1_in hG.1 hG.2
  have hw : 0 ≤ zWMo w i ∧ zWMo w i ≤ 63 := zSet_63 _ (by omega)
  have hb : ∀ j : Int, 0 ≤ j → j < w.1 33 6 → (ziand (zshr (zWMo w i) j) 1 = 1 ↔ w.1 33 2 ≤ zPM w j i) := fun j j0 j1 => by
    have q := zSet_bit (fun g => decide (w.1 33 2 ≤ zPM w g i)) (n := (w.1 33 6).toNat) (g := j) (by omega) j0 (by omega)
    rw [decide_eq_true_eq] at q
    exact q
  have hh : ∀ j : Int, w.1 33 6 ≤ j → j < 6 → ¬ ziand (zshr set j) 1 = 1 := fun j j0 j1 => by
    obtain ⟨a, ha⟩ := zfin (n := 64) s0 (by omega)
    obtain ⟨b, hb⟩ := zfin (n := 7) hG.1 (by omega)
    obtain ⟨c, hc⟩ := zfin (n := 6) (show 0 ≤ j by omega) j1
    rw [← ha, ← hc]
    exact zbit_hi a b c (by omega) (by rw [ha, hb]; exact s1)
  have h0 := zand_0 s0 (by omega) hw.1 (show zWMo w i < 64 by omega)
  rcases h with ⟨h1, h2, h3⟩ | ⟨h1, h2, q, q0, q1, q2, q3, q4⟩
  · rw [if_neg, h2, h3]
    rintro ⟨z1, z2⟩
    rcases h1 with e | e
    · omega
    · refine z1 (h0.mpr (fun j j0 j1 u => ?_))
      by_cases e2 : j < w.1 33 6
      · exact e j j0 e2 ⟨u.1, (hb j j0 e2).mp u.2⟩
      · exact hh j (by omega) j1 u.1
  · have hf : q = zFirst (ziand set (zWMo w i)) := zFirst_of ⟨q0, by omega, fun j j0 j1 => (zand_b s0 (by omega) hw.1 (by omega) j0 (by omega)).mpr (fun u => q3 j j0 j1 ⟨u.1, (hb j j0 (by omega)).mp u.2⟩), fun _ u => (zand_b s0 (by omega) hw.1 (by omega) q0 (by omega)).mp u ⟨q2.1, (hb q q0 q1).mpr q2.2⟩⟩
    rw [if_pos ⟨fun u => h0.mp u q q0 (by omega) ⟨q2.1, (hb q q0 q1).mpr q2.2⟩, h1⟩, ← hf, q4, h2]
theorem zAsk_99 {shown cost : Int → Int} (hc : ∀ d, cost d ≤ 12) : ∀ n : Nat, (zAsk shown cost 13 n = (-9, 13) ∧ zAsk shown cost 99 n = (-9, 99)) ∨ zAsk shown cost 13 n = zAsk shown cost 99 n
  | 0 => Or.inl ⟨rfl, rfl⟩
  | n + 1 => by
    have h := hc n
    unfold zAsk
    rcases zAsk_99 hc n with ⟨a, b⟩ | a
    · rw [a, b]
      by_cases z : shown n = 0
      · rw [if_neg (fun q => q.1 z), if_neg (fun q => q.1 z)]
        exact Or.inl ⟨rfl, rfl⟩
      · rw [if_pos ⟨z, by show cost n < 13; omega⟩, if_pos ⟨z, by show cost n < 99; omega⟩]
        exact Or.inr rfl
    · rw [a]
      exact Or.inr rfl
def zp4 (x : Int) : Int := if x = 0 then 1 else if x = 1 then 4 else if x = 2 then 16 else if x = 3 then 64 else if x = 4 then 256 else if x = 5 then 1024 else 4096
theorem zp4_s {x p d : Int} (h0 : 0 ≤ x) (h1 : x < 6) (hp0 : 0 ≤ p) (hp : p ≤ zp4 x) (d0 : 0 ≤ d) (d1 : d ≤ 4) : 0 ≤ p * d ∧ p * d ≤ zp4 (x + 1) := by
  unfold zp4 at hp ⊢
  rcases (by omega : d = 0 ∨ d = 1 ∨ d = 2 ∨ d = 3 ∨ d = 4) with rfl | rfl | rfl | rfl | rfl <;> rcases (by omega : x = 0 ∨ x = 1 ∨ x = 2 ∨ x = 3 ∨ x = 4 ∨ x = 5) with rfl | rfl | rfl | rfl | rfl | rfl <;> simp at hp ⊢ <;> omega
theorem zp4_in {x : Int} (h0 : 0 ≤ x) (h1 : x ≤ 6) : zp4 x ≤ 4096 := by
  unfold zp4
  (repeat' split) <;> omega
theorem zkF {w w' : zW} (h : ∀ i k, ¬ (i = 33 ∧ 26 ≤ k ∧ k ≤ 28) → i ≠ 44 → w'.1 i k = w.1 i k) : zEq w w' := fun i k hk => h i k (fun q => by
  obtain ⟨rfl, q1, q2⟩ := q
  rcases (by omega : k = 26 ∨ k = 27 ∨ k = 28) with rfl | rfl | rfl <;> exact absurd hk (by decide)) (fun q => by
  rw [q] at hk
  revert hk
  simp [zkeep])
