/-! ask, as the reference does it -/
theorem zshl1_in {n : Int} (h0 : 0 ≤ n) (h1 : n ≤ 6) : 1 ≤ zshl 1 n ∧ zshl 1 n ≤ 64 := by
  rcases (by omega : n = 0 ∨ n = 1 ∨ n = 2 ∨ n = 3 ∨ n = 4 ∨ n = 5 ∨ n = 6) with rfl | rfl | rfl | rfl | rfl | rfl | rfl <;> decide +kernel
theorem zSet_6 : ∀ a b c d e f : Bool, ∀ n : Fin 7, 0 ≤ zSet (zB6 a b c d e f) n.val ∧ zSet (zB6 a b c d e f) n.val ≤ 63 := by decide +kernel
theorem zSet_63 (P : Int → Bool) {n : Nat} (hn : n ≤ 6) : 0 ≤ zSet P n ∧ zSet P n ≤ 63 := by
  have h := zSet_6 (P 0) (P 1) (P 2) (P 3) (P 4) (P 5) ⟨n, by omega⟩
  rw [show zSet (zB6 (P 0) (P 1) (P 2) (P 3) (P 4) (P 5)) (⟨n, by omega⟩ : Fin 7).val = zSet P n from zSet_eq (fun i a b => zB6_of P a (by omega))] at h
  exact h
theorem zbit_hi : ∀ s : Fin 64, ∀ n : Fin 7, ∀ j : Fin 6, n.val ≤ j.val → (s.val : Int) < zshl 1 (n.val : Int) → ¬ ziand (zshr (s.val : Int) (j.val : Int)) 1 = 1 := by decide +kernel
theorem zand_bit : ∀ s t : Fin 64, ∀ j : Fin 6, (ziand (zshr (ziand (s.val : Int) (t.val : Int)) (j.val : Int)) 1 = 0 ↔ ¬ (ziand (zshr (s.val : Int) (j.val : Int)) 1 = 1 ∧ ziand (zshr (t.val : Int) (j.val : Int)) 1 = 1)) := by decide +kernel
theorem zand_nil : ∀ s : Fin 64, ((s.val : Int) = 0 ↔ ∀ j : Fin 6, ziand (zshr (s.val : Int) (j.val : Int)) 1 = 0) := by decide +kernel
theorem zand_in : ∀ s t : Fin 64, 0 ≤ ziand (s.val : Int) (t.val : Int) ∧ ziand (s.val : Int) (t.val : Int) < 64 := by decide +kernel
theorem zfin {x : Int} {n : Nat} (h0 : 0 ≤ x) (h1 : x < n) : ∃ s : Fin n, (s.val : Int) = x := ⟨⟨x.toNat, by omega⟩, Int.toNat_of_nonneg h0⟩
theorem zand_b {s t j : Int} (s0 : 0 ≤ s) (s1 : s < 64) (t0 : 0 ≤ t) (t1 : t < 64) (j0 : 0 ≤ j) (j1 : j < 6) : ziand (zshr (ziand s t) j) 1 = 0 ↔ ¬ (ziand (zshr s j) 1 = 1 ∧ ziand (zshr t j) 1 = 1) := by
  obtain ⟨a, rfl⟩ := zfin (n := 64) s0 s1
  obtain ⟨b, rfl⟩ := zfin (n := 64) t0 t1
  obtain ⟨c, rfl⟩ := zfin (n := 6) j0 j1
  exact zand_bit a b c
theorem zand_0 {s t : Int} (s0 : 0 ≤ s) (s1 : s < 64) (t0 : 0 ≤ t) (t1 : t < 64) : ziand s t = 0 ↔ ∀ j : Int, 0 ≤ j → j < 6 → ¬ (ziand (zshr s j) 1 = 1 ∧ ziand (zshr t j) 1 = 1) := by
  have hin : 0 ≤ ziand s t ∧ ziand s t < 64 := by
    obtain ⟨a, rfl⟩ := zfin (n := 64) s0 s1
    obtain ⟨b, rfl⟩ := zfin (n := 64) t0 t1
    exact zand_in a b
  have hn : ziand s t = 0 ↔ ∀ j : Fin 6, ziand (zshr (ziand s t) (j.val : Int)) 1 = 0 := by
    obtain ⟨a, ha⟩ := zfin (n := 64) hin.1 hin.2
    rw [← ha]
    exact zand_nil a
  rw [hn]
  constructor
  · intro h j j0 j1
    obtain ⟨c, rfl⟩ := zfin (n := 6) j0 j1
    exact (zand_b s0 s1 t0 t1 j0 j1).mp (h c)
  · intro h j
    exact (zand_b s0 s1 t0 t1 (by omega) (by omega)).mpr (h j.val (by omega) (by omega))
def zInn (P : Int → Prop) (cost i best least g bs ls : Int) : Prop := ((least ≤ cost ∨ ∀ j : Int, 0 ≤ j → j < g → ¬ P j) ∧ bs = best ∧ ls = least) ∨ (cost < least ∧ ls = cost ∧ ∃ g0 : Int, 0 ≤ g0 ∧ g0 < g ∧ P g0 ∧ (∀ j : Int, 0 ≤ j → j < g0 → ¬ P j) ∧ bs = 10 * g0 + i)
theorem zInn.step {P : Int → Prop} {cost i best least g bs ls nb nl : Int} (h : zInn P cost i best least g bs ls) (g0 : 0 ≤ g) (hs : ((P g ∧ cost < ls) ∧ nb = 10 * g + i ∧ nl = cost) ∨ (¬ (P g ∧ cost < ls) ∧ nb = bs ∧ nl = ls)) : zInn P cost i best least (g + 1) nb nl := by
  rcases h with ⟨h1, h2, h3⟩ | ⟨h1, h2, q, q0, q1, q2, q3, q4⟩
  · rcases hs with ⟨⟨a, b⟩, c, d⟩ | ⟨a, c, d⟩
    · refine Or.inr ⟨by omega, d, g, g0, by omega, a, fun j j0 j1 => ?_, c⟩
      rcases h1 with z | z
      · omega
      · exact z j j0 j1
    · refine Or.inl ⟨?_, c.trans h2, d.trans h3⟩
      rcases h1 with z | z
      · exact Or.inl z
      · by_cases e : least ≤ cost
        · exact Or.inl e
        · refine Or.inr (fun j j0 j1 => ?_)
          by_cases e2 : j = g
          · rw [e2]
            exact fun u => a ⟨u, by omega⟩
          · exact z j j0 (by omega)
  · rcases hs with ⟨⟨a, b⟩, c, d⟩ | ⟨a, c, d⟩
    · omega
    · exact Or.inr ⟨h1, d.trans h2, q, q0, by omega, q2, q3, c.trans q4⟩
theorem zInn.fin {w : zW} {set cost i best least bs ls : Int} (hG : 0 ≤ w.1 33 6 ∧ w.1 33 6 ≤ 6) (s0 : 0 ≤ set) (s1 : set < zshl 1 (w.1 33 6)) (h : zInn (fun g => ziand (zshr set g) 1 = 1 ∧ w.1 33 2 ≤ zPM w g i) cost i best least (w.1 33 6) bs ls) : (bs, ls) = if ¬ ziand set (zWMo w i) = 0 ∧ cost < least then (10 * zFirst (ziand set (zWMo w i)) + i, cost) else (best, least) := by
  have hl := zshl1_in hG.1 hG.2
  have hw : 0 ≤ zWMo w i ∧ zWMo w i ≤ 63 := zSet_63 _ (by omega)
  have hb : ∀ j : Int, 0 ≤ j → j < w.1 33 6 → (ziand (zshr (zWMo w i) j) 1 = 1 ↔ w.1 33 2 ≤ zPM w j i) := fun j j0 j1 => by
    have q := zSet_bit (fun g => decide (w.1 33 2 ≤ zPM w g i)) (n := (w.1 33 6).toNat) (g := j) (by omega) j0 (by omega)
    rw [decide_eq_true_eq] at q
    exact q
  have hh : ∀ j : Int, w.1 33 6 ≤ j → j < 6 → ¬ ziand (zshr set j) 1 = 1 := fun j j0 j1 => by
    obtain ⟨a, ha⟩ := zfin (n := 64) s0 (by omega)
    obtain ⟨b, hb⟩ := zfin (n := 7) hG.1 (by omega)
    obtain ⟨c, hc⟩ := zfin (n := 6) (show 0 ≤ j by omega) j1
    rw [← ha, ← hc]
    exact zbit_hi a b c (by omega) (by rw [ha, hb]; exact s1)
  have h0 := zand_0 s0 (by omega) hw.1 (show zWMo w i < 64 by omega)
  rcases h with ⟨h1, h2, h3⟩ | ⟨h1, h2, q, q0, q1, q2, q3, q4⟩
  · rw [if_neg, h2, h3]
    rintro ⟨z1, z2⟩
    rcases h1 with e | e
    · omega
    · refine z1 (h0.mpr (fun j j0 j1 u => ?_))
      by_cases e2 : j < w.1 33 6
      · exact e j j0 e2 ⟨u.1, (hb j j0 e2).mp u.2⟩
      · exact hh j (by omega) j1 u.1
  · have hf : q = zFirst (ziand set (zWMo w i)) := zFirst_of ⟨q0, by omega, fun j j0 j1 => (zand_b s0 (by omega) hw.1 (by omega) j0 (by omega)).mpr (fun u => q3 j j0 j1 ⟨u.1, (hb j j0 (by omega)).mp u.2⟩), fun _ u => (zand_b s0 (by omega) hw.1 (by omega) q0 (by omega)).mp u ⟨q2.1, (hb q q0 q1).mpr q2.2⟩⟩
    rw [if_pos ⟨fun u => h0.mp u q q0 (by omega) ⟨q2.1, (hb q q0 q1).mpr q2.2⟩, h1⟩, ← hf, q4, h2]
theorem zAsk_99 {shown cost : Int → Int} (hc : ∀ d, cost d ≤ 12) : ∀ n : Nat, (zAsk shown cost 13 n = (-9, 13) ∧ zAsk shown cost 99 n = (-9, 99)) ∨ zAsk shown cost 13 n = zAsk shown cost 99 n
  | 0 => Or.inl ⟨rfl, rfl⟩
  | n + 1 => by
    have h := hc n
    unfold zAsk
    rcases zAsk_99 hc n with ⟨a, b⟩ | a
    · rw [a, b]
      by_cases z : shown n = 0
      · rw [if_neg (fun q => q.1 z), if_neg (fun q => q.1 z)]
        exact Or.inl ⟨rfl, rfl⟩
      · rw [if_pos ⟨z, by show cost n < 13; omega⟩, if_pos ⟨z, by show cost n < 99; omega⟩]
        exact Or.inr rfl
    · rw [a]
      exact Or.inr rfl
def zp4 (x : Int) : Int := if x = 0 then 1 else if x = 1 then 4 else if x = 2 then 16 else if x = 3 then 64 else if x = 4 then 256 else if x = 5 then 1024 else 4096
theorem zp4_s {x p d : Int} (h0 : 0 ≤ x) (h1 : x < 6) (hp0 : 0 ≤ p) (hp : p ≤ zp4 x) (d0 : 0 ≤ d) (d1 : d ≤ 4) : 0 ≤ p * d ∧ p * d ≤ zp4 (x + 1) := by
  unfold zp4 at hp ⊢
  rcases (by omega : d = 0 ∨ d = 1 ∨ d = 2 ∨ d = 3 ∨ d = 4) with rfl | rfl | rfl | rfl | rfl <;> rcases (by omega : x = 0 ∨ x = 1 ∨ x = 2 ∨ x = 3 ∨ x = 4 ∨ x = 5) with rfl | rfl | rfl | rfl | rfl | rfl <;> simp at hp ⊢ <;> omega
theorem zp4_in {x : Int} (h0 : 0 ≤ x) (h1 : x ≤ 6) : zp4 x ≤ 4096 := by
  unfold zp4
  (repeat' split) <;> omega
theorem zkF {w w' : zW} (h : ∀ i k, ¬ (i = 33 ∧ 26 ≤ k ∧ k ≤ 28) → i ≠ 44 → w'.1 i k = w.1 i k) : zEq w w' := fun i k hk => h i k (fun q => by
  obtain ⟨rfl, q1, q2⟩ := q
  rcases (by omega : k = 26 ∨ k = 27 ∨ k = 28) with rfl | rfl | rfl <;> exact absurd hk (by decide)) (fun q => by
  rw [q] at hk
  revert hk
  simp [zkeep])
/-! fewest, by brute force: a row of doings as a code, the last guest's doing its least digit -/
def zPw (ds : Int) : Nat → Int
  | 0 => 1
  | n + 1 => ds * zPw ds n
theorem zPw_1 {ds : Int} (h : 1 ≤ ds) : ∀ n : Nat, 1 ≤ zPw ds n
  | 0 => Int.le_refl 1
  | n + 1 => by
    have q := Int.mul_le_mul h (zPw_1 h n) (by decide) (by omega)
    show 1 ≤ ds * zPw ds n
    omega
def zRr (ds c : Int) : Nat → Int
  | 0 => c
  | n + 1 => zRr ds c n / ds
def zRd (ds c : Int) (n : Nat) : Int := zRr ds c n % ds
def zRs (f : Int → Int → Int) (ds gs c : Int) : Nat → Int
  | 0 => 0
  | n + 1 => zRs f ds gs c n + f (gs - 1 - n) (zRd ds c n)
theorem zmul3 (d ds p c : Int) : d * (ds * p) + c = c + ds * (d * p) := by
  rw [Int.add_comm, ← Int.mul_assoc, Int.mul_comm d ds, Int.mul_assoc]
theorem zRr_top {ds : Int} (h : 1 ≤ ds) (d c : Int) : ∀ (n k : Nat), zRr ds (d * zPw ds (n + k) + c) n = d * zPw ds k + zRr ds c n
  | 0, k => by
    show d * zPw ds (0 + k) + c = d * zPw ds k + c
    rw [Nat.zero_add]
  | n + 1, k => by
    show zRr ds (d * zPw ds (n + 1 + k) + c) n / ds = d * zPw ds k + zRr ds c n / ds
    rw [show n + 1 + k = n + (k + 1) by omega, zRr_top h d c n (k + 1), show zPw ds (k + 1) = ds * zPw ds k from rfl, zmul3, Int.add_mul_ediv_left _ _ (by omega), Int.add_comm]
theorem zRd_top {ds : Int} (h : 1 ≤ ds) (d c : Int) {n m : Nat} (hn : n < m) : zRd ds (d * zPw ds m + c) n = zRd ds c n := by
  obtain ⟨k, rfl⟩ : ∃ k, m = n + (k + 1) := ⟨m - n - 1, by omega⟩
  unfold zRd
  rw [zRr_top h d c n (k + 1), show zPw ds (k + 1) = ds * zPw ds k from rfl, zmul3, Int.add_mul_emod_self_left]
theorem zRs_top (f : Int → Int → Int) {ds gs : Int} (h : 1 ≤ ds) (d c : Int) : ∀ (n m : Nat), n ≤ m → zRs f ds gs (d * zPw ds m + c) n = zRs f ds gs c n
  | 0, _, _ => rfl
  | n + 1, m, hm => by
    unfold zRs
    rw [zRs_top f h d c n m (by omega), zRd_top h d c (by omega)]
theorem zRr_s {ds : Int} : ∀ (n : Nat) (c : Int), zRr ds c (n + 1) = zRr ds (c / ds) n
  | 0, _ => rfl
  | n + 1, c => by
    show zRr ds c (n + 1) / ds = zRr ds (c / ds) n / ds
    rw [zRr_s n c]
theorem zRr_0 {ds : Int} (h : 1 ≤ ds) : ∀ (n : Nat) (c : Int), 0 ≤ c → c < zPw ds n → zRr ds c n = 0
  | 0, c, h0, h1 => by
    have h2 : c < 1 := h1
    show c = 0
    omega
  | n + 1, c, h0, h1 => by
    have h2 : c < ds * zPw ds n := h1
    rw [zRr_s]
    exact zRr_0 h n (c / ds) (Int.ediv_nonneg h0 (by omega)) (Int.ediv_lt_of_lt_mul (by omega) (by rw [Int.mul_comm]; exact h2))
theorem zRd_d {ds : Int} (h : 1 ≤ ds) {d c : Int} {m : Nat} (d0 : 0 ≤ d) (d1 : d < ds) (c0 : 0 ≤ c) (c1 : c < zPw ds m) : zRd ds (d * zPw ds m + c) m = d := by
  have e := zRr_top h d c m 0
  rw [Nat.add_zero, show zPw ds 0 = 1 from rfl, Int.mul_one, zRr_0 h m c c0 c1, Int.add_zero] at e
  unfold zRd
  rw [e]
  exact Int.emod_eq_of_lt d0 d1
theorem zRs_s (f : Int → Int → Int) {ds gs : Int} (h : 1 ≤ ds) {d c : Int} {m : Nat} (d0 : 0 ≤ d) (d1 : d < ds) (c0 : 0 ≤ c) (c1 : c < zPw ds m) : zRs f ds gs (d * zPw ds m + c) (m + 1) = zRs f ds gs c m + f (gs - 1 - m) d := by
  show zRs f ds gs (d * zPw ds m + c) m + f (gs - 1 - m) (zRd ds (d * zPw ds m + c) m) = _
  rw [zRs_top f h d c m m (Nat.le_refl m), zRd_d h d0 d1 c0 c1]
/-- a code is its first guest's doing and the code of those behind -/
theorem zsplit {ds : Int} (h : 1 ≤ ds) {m : Nat} {c : Int} (c0 : 0 ≤ c) (c1 : c < zPw ds (m + 1)) : ∃ d r : Int, c = d * zPw ds m + r ∧ 0 ≤ d ∧ d < ds ∧ 0 ≤ r ∧ r < zPw ds m := by
  have hp := zPw_1 h m
  have h2 : c < ds * zPw ds m := c1
  refine ⟨c / zPw ds m, c % zPw ds m, ?_, Int.ediv_nonneg c0 (by omega), Int.ediv_lt_of_lt_mul (by omega) h2, Int.emod_nonneg _ (by omega), Int.emod_lt_of_pos _ (by omega)⟩
  have e := Int.mul_ediv_add_emod c (zPw ds m)
  rw [Int.mul_comm] at e
  exact e.symm
theorem zRs_0 {f : Int → Int → Int} {ds gs c : Int} (h : ∀ g d, 0 ≤ f g d) : ∀ n : Nat, 0 ≤ zRs f ds gs c n
  | 0 => Int.le_refl 0
  | n + 1 => by
    have a := zRs_0 (ds := ds) (gs := gs) (c := c) h n
    have b := h (gs - 1 - n) (zRd ds c n)
    show 0 ≤ zRs f ds gs c n + f (gs - 1 - n) (zRd ds c n)
    omega
/-- the code of the choice, guest by guest -/
def zBc (ds gs : Int) (cost : Int → Int) (own : Int → Int → Int) : Nat → Int → Int
  | 0, _ => 0
  | m + 1, l => zDgOf ds gs cost own (gs - (m + 1)) l * zPw ds m + zBc ds gs cost own m (l - cost (zDgOf ds gs cost own (gs - (m + 1)) l))
section ZBF
variable {ds gs : Int} {cost : Int → Int} {own : Int → Int → Int}
theorem zL_s (m : Nat) (l : Int) : zL ds gs cost own (m + 1) l = zMin (zWt cost own (zL ds gs cost own m) (gs - (m + 1)) l) ds.toNat := rfl
/-- no row is lighter than the table says -/
theorem zBf_le (h : 1 ≤ ds) (ho : ∀ g d, -21 ≤ own g d ∧ own g d ≤ 1000) (hc : ∀ d, 0 ≤ cost d) : ∀ (m : Nat), m ≤ 6 → ∀ (l c : Int), 0 ≤ c → c < zPw ds m → zRs (fun _ d => cost d) ds gs c m ≤ l →
    zL ds gs cost own m l ≤ zRs own ds gs c m ∧ ¬ zL ds gs cost own m l = 1000000
  | 0, _, l, c, _, _, _ => ⟨Int.le_refl 0, by unfold zL; decide⟩
  | m + 1, hm, l, c, c0, c1, hl => by
    obtain ⟨d, r, rfl, d0, d1, r0, r1⟩ := zsplit h c0 c1
    rw [zRs_s _ h d0 d1 r0 r1] at hl
    rw [zRs_s _ h d0 d1 r0 r1]
    have hl : zRs (fun _ d => cost d) ds gs r m + cost d ≤ l := hl
    have hn : 0 ≤ zRs (fun _ d => cost d) ds gs r m := zRs_0 (fun _ d => hc d) m
    obtain ⟨a1, a2⟩ := zBf_le h ho hc m (by omega) (l - cost d) r r0 r1 (by omega)
    have b := zMin_le (zWt cost own (zL ds gs cost own m) (gs - (m + 1)) l) ds.toNat d d0 (by omega)
    have e : zWt cost own (zL ds gs cost own m) (gs - (m + 1)) l d = own (gs - (m + 1)) d + zL ds gs cost own m (l - cost d) := by
      unfold zWt
      rw [if_neg (fun q => q.elim (fun q => by omega) a2)]
    rw [e] at b
    rw [zL_s, show gs - 1 - (m : Int) = gs - (m + 1) by omega]
    have b2 := ho (gs - (m + 1)) d
    rcases zL_in ho (ds := ds) (gs := gs) (cost := cost) m (l - cost d) (by omega) with q | q
    · exact absurd q a2
    · constructor
      · omega
      · omega
/-- the choice is a row, as light as the table says, and the first such -/
theorem zBf_b (h : 1 ≤ ds) (ho : ∀ g d, -21 ≤ own g d ∧ own g d ≤ 1000) (hc : ∀ d, 0 ≤ cost d) : ∀ (m : Nat), m ≤ 6 → (m : Int) ≤ gs → ∀ (l : Int), 0 ≤ l → ¬ zL ds gs cost own m l = 1000000 →
    0 ≤ zBc ds gs cost own m l ∧ zBc ds gs cost own m l < zPw ds m ∧ zRs (fun _ d => cost d) ds gs (zBc ds gs cost own m l) m ≤ l ∧ zRs own ds gs (zBc ds gs cost own m l) m = zL ds gs cost own m l ∧
    ∀ c : Int, 0 ≤ c → c < zBc ds gs cost own m l → zRs (fun _ d => cost d) ds gs c m ≤ l → zL ds gs cost own m l < zRs own ds gs c m
  | 0, _, _, l, hl, _ => ⟨Int.le_refl 0, by show (0 : Int) < 1; decide, hl, rfl, fun c c0 c1 _ => by have c2 : c < 0 := c1; omega⟩
  | m + 1, hm, hg, l, hl, hz => by
    have e1 : (gs - (gs - ((m : Int) + 1))).toNat = m + 1 := by omega
    have e2 : (gs - (gs - ((m : Int) + 1) + 1)).toNat = m := by omega
    have hD := zDg_ok (ds := ds) (gs := gs) (cost := cost) (own := own) (g := gs - ((m : Int) + 1)) (l := l) (by omega) (by omega) (by rw [e1]; exact hz)
    rw [e1, e2] at hD
    show 0 ≤ zDgOf ds gs cost own (gs - (m + 1)) l * zPw ds m + zBc ds gs cost own m (l - cost (zDgOf ds gs cost own (gs - (m + 1)) l)) ∧ zDgOf ds gs cost own (gs - (m + 1)) l * zPw ds m + zBc ds gs cost own m (l - cost (zDgOf ds gs cost own (gs - (m + 1)) l)) < zPw ds (m + 1) ∧ zRs (fun _ d => cost d) ds gs (zDgOf ds gs cost own (gs - (m + 1)) l * zPw ds m + zBc ds gs cost own m (l - cost (zDgOf ds gs cost own (gs - (m + 1)) l))) (m + 1) ≤ l ∧ zRs own ds gs (zDgOf ds gs cost own (gs - (m + 1)) l * zPw ds m + zBc ds gs cost own m (l - cost (zDgOf ds gs cost own (gs - (m + 1)) l))) (m + 1) = zL ds gs cost own (m + 1) l ∧ ∀ c : Int, 0 ≤ c → c < zDgOf ds gs cost own (gs - (m + 1)) l * zPw ds m + zBc ds gs cost own m (l - cost (zDgOf ds gs cost own (gs - (m + 1)) l)) → zRs (fun _ d => cost d) ds gs c (m + 1) ≤ l → zL ds gs cost own (m + 1) l < zRs own ds gs c (m + 1)
    generalize zDgOf ds gs cost own (gs - ((m : Int) + 1)) l = D at hD ⊢
    obtain ⟨d0, d1, d2, d3, d4, d5⟩ := hD
    obtain ⟨b0, b1, b2, b3, b4⟩ := zBf_b h ho hc m (by omega) (by omega) (l - cost D) (by omega) d3
    generalize zBc ds gs cost own m (l - cost D) = B at b0 b1 b2 b3 b4 ⊢
    have hp := zPw_1 h m
    have q1 : 0 ≤ D * zPw ds m := Int.mul_nonneg d0 (by omega)
    have q2 : (D + 1) * zPw ds m ≤ ds * zPw ds m := Int.mul_le_mul_of_nonneg_right (by omega) (by omega)
    have q3 : (D + 1) * zPw ds m = D * zPw ds m + zPw ds m := by rw [Int.add_mul, Int.one_mul]
    have hlt : D * zPw ds m + B < zPw ds (m + 1) := by
      show _ < ds * zPw ds m
      omega
    refine ⟨by omega, hlt, ?_, ?_, fun c c0 c1 hcl => ?_⟩
    · rw [zRs_s _ h d0 d1 b0 b1]
      show zRs (fun _ d => cost d) ds gs B m + cost D ≤ l
      omega
    · rw [zRs_s _ h d0 d1 b0 b1, b3, d4, show gs - 1 - (m : Int) = gs - (m + 1) by omega]
      omega
    · obtain ⟨d, r, rfl, x0, x1, r0, r1⟩ := zsplit h c0 (Int.lt_trans c1 hlt)
      have hcl2 := hcl
      rw [zRs_s _ h x0 x1 r0 r1] at hcl2
      have hcl2 : zRs (fun _ d => cost d) ds gs r m + cost d ≤ l := hcl2
      have hn : 0 ≤ zRs (fun _ d => cost d) ds gs r m := zRs_0 (fun _ d => hc d) m
      rw [zRs_s _ h x0 x1 r0 r1, show gs - 1 - (m : Int) = gs - (m + 1) by omega]
      have hdD : d ≤ D := by
        rcases Int.lt_or_le D d with z | z
        · exfalso
          have q4 : (D + 1) * zPw ds m ≤ d * zPw ds m := Int.mul_le_mul_of_nonneg_right (by omega) (by omega)
          omega
        · exact z
      by_cases e : d = D
      · subst e
        have q5 := b4 r r0 (by omega) (by omega)
        omega
      · obtain ⟨a1, a2⟩ := zBf_le h ho hc (gs := gs) m (by omega) (l - cost d) r r0 r1 (by omega)
        have w1 : zWt cost own (zL ds gs cost own m) (gs - (m + 1)) l d = own (gs - (m + 1)) d + zL ds gs cost own m (l - cost d) := by
          unfold zWt
          rw [if_neg (fun q => q.elim (fun q => by omega) a2)]
        have w2 := zMin_le (zWt cost own (zL ds gs cost own m) (gs - (m + 1)) l) ds.toNat d x0 (by omega)
        have w3 := d5 d x0 (by omega)
        rw [← zL_s] at w2
        omega
/-- the digits of the choice -/
theorem zBc_t (h : 1 ≤ ds) (ho : ∀ g d, -21 ≤ own g d ∧ own g d ≤ 1000) (hc : ∀ d, 0 ≤ cost d) {G : Nat} (hG : gs = (G : Int)) (hG6 : G ≤ 6) (hz : ¬ zL ds gs cost own G 12 = 1000000) : ∀ (x : Nat), x ≤ G → 0 ≤ zLf ds gs cost own x ∧ ¬ zL ds gs cost own (G - x) (zLf ds gs cost own x) = 1000000 ∧ ∃ t : Int, zBc ds gs cost own G 12 = t * zPw ds (G - x) + zBc ds gs cost own (G - x) (zLf ds gs cost own x)
  | 0, _ => ⟨by show (0 : Int) ≤ 12; decide, hz, 0, by rw [Int.zero_mul, Int.zero_add]; rfl⟩
  | x + 1, hx => by
    obtain ⟨a1, a2, t, a3⟩ := zBc_t h ho hc hG hG6 hz x (by omega)
    obtain ⟨m, hm⟩ : ∃ m, G - x = m + 1 := ⟨G - x - 1, by omega⟩
    have hm2 : G - (x + 1) = m := by omega
    rw [hm] at a2 a3
    rw [hm2]
    have e0 : gs - ((m : Int) + 1) = (x : Int) := by omega
    have e1 : (gs - (x : Int)).toNat = m + 1 := by omega
    have e2 : (gs - ((x : Int) + 1)).toNat = m := by omega
    have hD := zDg_ok (ds := ds) (gs := gs) (cost := cost) (own := own) (g := (x : Int)) (l := zLf ds gs cost own x) (by omega) (by omega) (by rw [e1]; exact a2)
    rw [e1, e2] at hD
    have e3 : zLf ds gs cost own (x + 1) = zLf ds gs cost own x - cost (zDgOf ds gs cost own x (zLf ds gs cost own x)) := rfl
    have e4 : zBc ds gs cost own (m + 1) (zLf ds gs cost own x) = zDgOf ds gs cost own (gs - ((m : Int) + 1)) (zLf ds gs cost own x) * zPw ds m + zBc ds gs cost own m (zLf ds gs cost own x - cost (zDgOf ds gs cost own (gs - ((m : Int) + 1)) (zLf ds gs cost own x))) := rfl
    rw [e0] at e4
    rw [e3]
    obtain ⟨d0, d1, d2, d3, d4, d5⟩ := hD
    refine ⟨d2, d3, t * ds + zDgOf ds gs cost own x (zLf ds gs cost own x), ?_⟩
    rw [a3, e4, show zPw ds (m + 1) = ds * zPw ds m from rfl, Int.add_mul, Int.mul_assoc, Int.add_assoc]
theorem zBc_d (h : 1 ≤ ds) (ho : ∀ g d, -21 ≤ own g d ∧ own g d ≤ 1000) (hc : ∀ d, 0 ≤ cost d) {G : Nat} (hG : gs = (G : Int)) (hG6 : G ≤ 6) (hz : ¬ zL ds gs cost own G 12 = 1000000) {x : Nat} (hx : x < G) : zRd ds (zBc ds gs cost own G 12) (G - 1 - x) = zDg ds gs cost own x := by
  obtain ⟨a1, a2, t, a3⟩ := zBc_t h ho hc hG hG6 hz x (by omega)
  obtain ⟨m, hm⟩ : ∃ m, G - x = m + 1 := ⟨G - x - 1, by omega⟩
  rw [hm] at a2 a3
  rw [show G - 1 - x = m by omega, a3, zRd_top h _ _ (Nat.lt_succ_self m)]
  have e0 : gs - ((m : Int) + 1) = (x : Int) := by omega
  have e1 : (gs - (x : Int)).toNat = m + 1 := by omega
  have e2 : (gs - ((x : Int) + 1)).toNat = m := by omega
  have hD := zDg_ok (ds := ds) (gs := gs) (cost := cost) (own := own) (g := (x : Int)) (l := zLf ds gs cost own x) (by omega) (by omega) (by rw [e1]; exact a2)
  rw [e1, e2] at hD
  have e4 : zBc ds gs cost own (m + 1) (zLf ds gs cost own x) = zDgOf ds gs cost own (gs - ((m : Int) + 1)) (zLf ds gs cost own x) * zPw ds m + zBc ds gs cost own m (zLf ds gs cost own x - cost (zDgOf ds gs cost own (gs - ((m : Int) + 1)) (zLf ds gs cost own x))) := rfl
  rw [e0] at e4
  rw [e4]
  obtain ⟨d0, d1, d2, d3, d4, d5⟩ := hD
  obtain ⟨b0, b1, -, -, -⟩ := zBf_b h ho hc m (by omega) (by omega) _ d2 d3
  rw [zRd_d h d0 d1 b0 b1]
  rfl
end ZBF
/-! the reference's fewest: a row laid, the best row so far -/
def zLo (w : zW) (g d : Int) : Int := if w.1 33 2 ≤ zPM w g d then 1 else 0
def zOwnM (w : zW) (g d : Int) : Int := (if w.1 33 2 ≤ zPM w g d then 1000 else 0) - zPM w g d
theorem zOwnM_in {w : zW} (h : zOk w) (g d : Int) : -21 ≤ zOwnM w g d ∧ zOwnM w g d ≤ 1000 := by
  have := zPM_in h g d
  unfold zOwnM
  split <;> omega
def zLM (w : zW) : Nat → Int → Int := zL (w.1 33 3) (w.1 33 6) (fun d => w.1 35 d) (zOwnM w)
def zDgM (w : zW) (g : Int) : Int := zDg (w.1 33 3) (w.1 33 6) (fun d => w.1 35 d) (zOwnM w) g
def zWnM (w : zW) (n : Nat) : Int := zCnt (fun g => decide (w.1 33 2 ≤ zPM w g (zDgM w g))) n
def zCo (w : zW) (n : Nat) (c : Int) : Int := zRs (fun _ d => w.1 35 d) (w.1 33 3) (w.1 33 6) c n
def zLs (w : zW) (n : Nat) (c : Int) : Int := zRs (zLo w) (w.1 33 3) (w.1 33 6) c n
def zPs (w : zW) (n : Nat) (c : Int) : Int := zRs (zPM w) (w.1 33 3) (w.1 33 6) c n
theorem zRs_own (w : zW) (ds gs c : Int) : ∀ n : Nat, zRs (zOwnM w) ds gs c n = 1000 * zRs (zLo w) ds gs c n - zRs (zPM w) ds gs c n
  | 0 => rfl
  | n + 1 => by
    unfold zRs
    rw [zRs_own w ds gs c n]
    generalize zRd ds c n = d
    generalize gs - 1 - (n : Int) = g
    unfold zOwnM zLo
    split <;> omega
theorem zPs_in {w : zW} (h : zOk w) (c : Int) : ∀ n : Nat, 0 ≤ zPs w n c ∧ zPs w n c ≤ 21 * (n : Int)
  | 0 => ⟨Int.le_refl 0, Int.le_refl 0⟩
  | n + 1 => by
    have a := zPs_in h c n
    have b := zPM_in h (w.1 33 6 - 1 - n) (zRd (w.1 33 3) c n)
    have e : zPs w (n + 1) c = zPs w n c + zPM w (w.1 33 6 - 1 - n) (zRd (w.1 33 3) c n) := rfl
    omega
/-- the row of code c, laid down to guest g -/
def zLay (w wl : zW) (c r g : Int) : Prop := r = zRr (w.1 33 3) c (w.1 33 6 - 1 - g).toNat ∧ wl.1 33 26 = zCo w (w.1 33 6 - 1 - g).toNat c ∧ wl.1 33 27 = zLs w (w.1 33 6 - 1 - g).toNat c ∧ wl.1 33 28 = zPs w (w.1 33 6 - 1 - g).toNat c ∧ ∀ x : Int, g < x → x < w.1 33 6 → wl.1 44 x = zRd (w.1 33 3) c (w.1 33 6 - 1 - x).toNat
theorem zLay.init {w wl : zW} {c g : Int} (hg : g = w.1 33 6 - 1) (h1 : wl.1 33 26 = 0) (h2 : wl.1 33 27 = 0) (h3 : wl.1 33 28 = 0) : zLay w wl c c g := by
  have e : (w.1 33 6 - 1 - g).toNat = 0 := by omega
  unfold zLay
  rw [e]
  exact ⟨rfl, h1, h2, h3, fun x a b => absurd b (by omega)⟩
theorem zRs_i (f : Int → Int → Int) {ds gs c g : Int} (h0 : 0 ≤ g) (h1 : g < gs) : zRs f ds gs c (gs - 1 - (g + -1)).toNat = zRs f ds gs c (gs - 1 - g).toNat + f g (zRd ds c (gs - 1 - g).toNat) := by
  have e : (gs - 1 - (g + -1)).toNat = (gs - 1 - g).toNat + 1 := by omega
  rw [e]
  show zRs f ds gs c (gs - 1 - g).toNat + f (gs - 1 - ((gs - 1 - g).toNat : Int)) _ = _
  rw [show gs - 1 - ((gs - 1 - g).toNat : Int) = g by omega]
theorem zLay.step {w wl w' : zW} {c r g r' d : Int} (h : zLay w wl c r g) (h0 : 0 ≤ g) (h1 : g < w.1 33 6) (er : r' = r / w.1 33 3) (ed : d = r % w.1 33 3) (h26 : w'.1 33 26 = wl.1 33 26 + w.1 35 d) (h27 : w'.1 33 27 = wl.1 33 27 + zLo w g d) (h28 : w'.1 33 28 = wl.1 33 28 + zPM w g d) (h44 : w'.1 44 g = d) (h44' : ∀ x : Int, x ≠ g → w'.1 44 x = wl.1 44 x) : zLay w w' c r' (g + -1) := by
  obtain ⟨a1, a2, a3, a4, a5⟩ := h
  have e : (w.1 33 6 - 1 - (g + -1)).toNat = (w.1 33 6 - 1 - g).toNat + 1 := by omega
  have hd : d = zRd (w.1 33 3) c (w.1 33 6 - 1 - g).toNat := by
    rw [ed, a1]
    rfl
  refine ⟨?_, ?_, ?_, ?_, fun x x0 x1 => ?_⟩
  · rw [e, er, a1]
    rfl
  · unfold zCo
    rw [zRs_i _ h0 h1, h26, a2, hd]
    rfl
  · unfold zLs
    rw [zRs_i _ h0 h1, h27, a3, hd]
    rfl
  · unfold zPs
    rw [zRs_i _ h0 h1, h28, a4, hd]
    rfl
  · by_cases z : x = g
    · rw [z, h44, hd]
    · rw [h44' x z]
      exact a5 x (by omega) x1
theorem zLay.of {w wl w' : zW} {c r g : Int} (hw : ∀ i k, ¬ (i = 33 ∧ 26 ≤ k ∧ k ≤ 28) → i ≠ 44 → wl.1 i k = w.1 i k) (h : zLay wl w' c r g) : zLay w w' c r g := by
  have e3 : wl.1 33 3 = w.1 33 3 := hw 33 3 (by omega) (by omega)
  have e6 : wl.1 33 6 = w.1 33 6 := hw 33 6 (by omega) (by omega)
  have e2 : wl.1 33 2 = w.1 33 2 := hw 33 2 (by omega) (by omega)
  have e35 : (fun (_ : Int) (d : Int) => wl.1 35 d) = (fun (_ : Int) (d : Int) => w.1 35 d) := funext fun _ => funext fun d => hw 35 d (by omega) (by omega)
  have ep : zPM wl = zPM w := funext fun a => funext fun b => zPM_eq (fun i k q1 q2 => hw i k (by omega) (by omega)) a b
  have el : zLo wl = zLo w := funext fun a => funext fun b => by
    unfold zLo
    rw [e2, ep]
  unfold zLay zCo zLs zPs at h ⊢
  rw [e3, e6, e35, ep, el] at h
  exact h
/-- the best row of those ahead of c -/
def zBest (w : zW) (best lost pls c : Int) : Prop :=
  (best = -9 ∧ ∀ x : Int, 0 ≤ x → x < c → 12 < zCo w (w.1 33 6).toNat x) ∨
  (0 ≤ best ∧ best < c ∧ zCo w (w.1 33 6).toNat best ≤ 12 ∧ lost = zLs w (w.1 33 6).toNat best ∧ pls = zPs w (w.1 33 6).toNat best ∧
    (∀ x : Int, 0 ≤ x → x < c → zCo w (w.1 33 6).toNat x ≤ 12 → 1000 * zLs w (w.1 33 6).toNat best - zPs w (w.1 33 6).toNat best ≤ 1000 * zLs w (w.1 33 6).toNat x - zPs w (w.1 33 6).toNat x) ∧
    (∀ x : Int, 0 ≤ x → x < best → zCo w (w.1 33 6).toNat x ≤ 12 → 1000 * zLs w (w.1 33 6).toNat best - zPs w (w.1 33 6).toNat best < 1000 * zLs w (w.1 33 6).toNat x - zPs w (w.1 33 6).toNat x))
theorem zBest.step {w w' : zW} {best lost pls c r : Int} (hO : zOk w) (h : zBest w best lost pls c) (hL : zLay w w' c r (-1)) (c0 : 0 ≤ c) :
    ((12 < w'.1 33 26 ∨ ¬ (best < 0 ∨ w'.1 33 27 < lost ∨ (w'.1 33 27 = lost ∧ pls < w'.1 33 28))) → zBest w best lost pls (c + 1)) ∧
    ((w'.1 33 26 ≤ 12 ∧ (best < 0 ∨ w'.1 33 27 < lost ∨ (w'.1 33 27 = lost ∧ pls < w'.1 33 28))) → zBest w c (w'.1 33 27) (w'.1 33 28) (c + 1)) := by
  obtain ⟨-, a2, a3, a4, -⟩ := hL
  rw [show w.1 33 6 - 1 - -1 = w.1 33 6 by omega] at a2 a3 a4
  have hG := (hO 33 6)
  change 0 ≤ w.1 33 6 ∧ w.1 33 6 ≤ 6 at hG
  have hP := zPs_in hO c (w.1 33 6).toNat
  have hB := zPs_in hO best (w.1 33 6).toNat
  rw [a2, a3, a4]
  constructor
  · intro q
    rcases h with ⟨b1, b2⟩ | ⟨b0, b1, b2, b3, b4, b5, b6⟩
    · refine Or.inl ⟨b1, fun x x0 x1 => ?_⟩
      by_cases z : x = c
      · rw [z]
        omega
      · exact b2 x x0 (by omega)
    · refine Or.inr ⟨b0, by omega, b2, b3, b4, fun x x0 x1 x2 => ?_, b6⟩
      by_cases z : x = c
      · rw [z] at x2 ⊢
        omega
      · exact b5 x x0 (by omega) x2
  · rintro ⟨q1, q2⟩
    refine Or.inr ⟨c0, by omega, q1, rfl, rfl, fun x x0 x1 x2 => ?_, fun x x0 x1 x2 => ?_⟩
    · by_cases z : x = c
      · rw [z]
        exact Int.le_refl _
      · rcases h with ⟨b1, b2⟩ | ⟨b0, b1, b2, b3, b4, b5, b6⟩
        · have := b2 x x0 (by omega)
          omega
        · have := b5 x x0 (by omega) x2
          omega
    · rcases h with ⟨b1, b2⟩ | ⟨b0, b1, b2, b3, b4, b5, b6⟩
      · have := b2 x x0 (by omega)
        omega
      · have := b5 x x0 (by omega) x2
        omega
theorem zPw_i (ds : Int) {x : Int} (h : 0 ≤ x) : zPw ds (x + 1).toNat = ds * zPw ds x.toNat := by
  rw [show (x + 1).toNat = x.toNat + 1 by omega]
  rfl
theorem zWn_s {w : zW} {B : Int} {G : Nat} (hG : w.1 33 6 = (G : Int)) (hd : ∀ x : Nat, x < G → zRd (w.1 33 3) B (G - 1 - x) = zDgM w x) : ∀ n : Nat, n ≤ G → zLs w n B + zWnM w (G - n) = zWnM w G
  | 0, _ => by
    show (0 : Int) + zWnM w G = zWnM w G
    omega
  | n + 1, hn => by
    have ih := zWn_s hG hd n (by omega)
    obtain ⟨m, hm⟩ : ∃ m, G - n = m + 1 := ⟨G - n - 1, by omega⟩
    have hm2 : G - (n + 1) = m := by omega
    have e1 := hd m (by omega)
    rw [show G - 1 - m = n by omega] at e1
    have e2 : zLs w (n + 1) B = zLs w n B + zLo w (w.1 33 6 - 1 - n) (zRd (w.1 33 3) B n) := rfl
    rw [e1, show w.1 33 6 - 1 - (n : Int) = (m : Int) by omega] at e2
    have e3 := zCnt_s (fun g => decide (w.1 33 2 ≤ zPM w g (zDgM w g))) (i := (m : Int)) (by omega)
    rw [show ((m : Int) + 1).toNat = m + 1 by omega, show ((m : Int)).toNat = m by omega] at e3
    have e4 : zWnM w (m + 1) = zWnM w m + zLo w m (zDgM w m) := by
      show zCnt (fun g => decide (w.1 33 2 ≤ zPM w g (zDgM w g))) (m + 1) = zCnt (fun g => decide (w.1 33 2 ≤ zPM w g (zDgM w g))) m + zLo w m (zDgM w m)
      rw [e3]
      unfold zLo
      by_cases z : w.1 33 2 ≤ zPM w m (zDgM w m)
      · rw [if_pos (by simpa using z), if_pos z]
      · rw [if_neg (by simpa using z), if_neg z, Int.add_zero]
    rw [hm] at ih
    rw [hm2]
    omega
theorem zBest.fin {w : zW} {best lost pls p : Int} (hO : zOk w) (h1 : 1 ≤ w.1 33 3) (hp : p = zPw (w.1 33 3) (w.1 33 6).toNat) (h : zBest w best lost pls p) :
    (best < 0 → zLM w (w.1 33 6).toNat 12 = 1000000) ∧ (0 ≤ best → ¬ zLM w (w.1 33 6).toNat 12 = 1000000 ∧ ∀ (r : Int) (w' : zW), zLay w w' best r (-1) → w'.1 33 27 = zWnM w (w.1 33 6).toNat ∧ ∀ x : Int, 0 ≤ x → x < w.1 33 6 → w'.1 44 x = zDgM w x) := by
  have hG := (hO 33 6)
  change 0 ≤ w.1 33 6 ∧ w.1 33 6 ≤ 6 at hG
  have ho := zOwnM_in hO
  have hc : ∀ d : Int, 0 ≤ w.1 35 d := fun d => (hO 35 d).1
  have h6 : (w.1 33 6).toNat ≤ 6 := by omega
  have hle := fun c c0 c1 q => zBf_le (ds := w.1 33 3) (gs := w.1 33 6) (cost := fun d => w.1 35 d) (own := zOwnM w) h1 ho hc (w.1 33 6).toNat h6 12 c c0 c1 q
  subst hp
  constructor
  · intro hb
    rcases h with ⟨b1, b2⟩ | ⟨b0, -⟩
    · refine Classical.byContradiction fun hz => ?_
      obtain ⟨q0, q1, q2, -, -⟩ := zBf_b (ds := w.1 33 3) (gs := w.1 33 6) (cost := fun d => w.1 35 d) (own := zOwnM w) h1 ho hc (w.1 33 6).toNat h6 (by omega) 12 (by decide) hz
      have q3 := b2 _ q0 q1
      unfold zCo at q3
      omega
    · omega
  · intro hb
    rcases h with ⟨b1, -⟩ | ⟨b0, b1, b2, b3, b4, b5, b6⟩
    · omega
    have hz : ¬ zLM w (w.1 33 6).toNat 12 = 1000000 := (hle best b0 b1 b2).2
    refine ⟨hz, fun r w' hL => ?_⟩
    obtain ⟨q0, q1, q2, q3, q4⟩ := zBf_b (ds := w.1 33 3) (gs := w.1 33 6) (cost := fun d => w.1 35 d) (own := zOwnM w) h1 ho hc (w.1 33 6).toNat h6 (by omega) 12 (by decide) hz
    have hdig := fun (x : Nat) (hx : x < (w.1 33 6).toNat) => zBc_d (ds := w.1 33 3) (gs := w.1 33 6) (cost := fun d => w.1 35 d) (own := zOwnM w) h1 ho hc (G := (w.1 33 6).toNat) (by omega) h6 hz hx
    have hB : best = zBc (w.1 33 3) (w.1 33 6) (fun d => w.1 35 d) (zOwnM w) (w.1 33 6).toNat 12 := by
      have hl2 := (hle best b0 b1 b2).1
      rw [zRs_own] at hl2 q3
      generalize zBc (w.1 33 3) (w.1 33 6) (fun d => w.1 35 d) (zOwnM w) (w.1 33 6).toNat 12 = B at q0 q1 q2 q3 q4 ⊢
      have q5 := b5 B q0 q1 q2
      rcases Int.lt_trichotomy best B with z | z | z
      · exfalso
        have q6 := q4 best b0 z b2
        rw [zRs_own] at q6
        unfold zLs zPs at q5
        omega
      · exact z
      · exfalso
        have q6 := b6 B q0 z q2
        unfold zLs zPs at q6
        omega
    obtain ⟨-, -, a3, -, a5⟩ := hL
    rw [show w.1 33 6 - 1 - -1 = w.1 33 6 by omega] at a3
    rw [← hB] at hdig
    constructor
    · have e := zWn_s (w := w) (B := best) (G := (w.1 33 6).toNat) (by omega) hdig (w.1 33 6).toNat (Nat.le_refl _)
      rw [Nat.sub_self, show zWnM w 0 = 0 from rfl, Int.add_zero] at e
      rw [a3, e]
    · intro x x0 x1
      rw [a5 x (by omega) x1]
      have e := hdig x.toNat (by omega)
      rw [show ((x.toNat : Nat) : Int) = x by omega] at e
      rw [show (w.1 33 6 - 1 - x).toNat = (w.1 33 6).toNat - 1 - x.toNat by omega]
      exact e
