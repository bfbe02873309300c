/-! the reference's seasons -/
theorem zT5 {a b c d e a' b' c' d' e' : Int} (h1 : a = a') (h2 : b = b') (h3 : c = c') (h4 : d = d') (h5 : e = e') : (a, b, c, d, e) = (a', b', c', d', e') := by
  rw [h1, h2, h3, h4, h5]
def zF0 (w w' : zW) : Prop := ∀ i k, ¬ (i = 33 ∧ k = 0) → w'.1 i k = w.1 i k
def zF2 (w w' : zW) : Prop := ∀ i k, ¬ (i = 33 ∧ (k = 0 ∨ (20 ≤ k ∧ k ≤ 24))) → w'.1 i k = w.1 i k
theorem zF2.eq {w w' : zW} (h : zF2 w w') : zEq w w' := fun i k hk => h i k (fun q => by
  obtain ⟨rfl, q2⟩ := q
  rcases (by omega : k = 0 ∨ k = 20 ∨ k = 21 ∨ k = 22 ∨ k = 23 ∨ k = 24) with rfl | rfl | rfl | rfl | rfl | rfl <;> exact absurd hk (by decide))
theorem zF0.two {w w' : zW} (h : zF0 w w') : zF2 w w' := fun i k q => h i k (fun z => q ⟨z.1, Or.inl z.2⟩)
theorem zF2.trans {a b c : zW} (h : zF2 a b) (h2 : zF2 b c) : zF2 a c := fun i k q => (h2 i k q).trans (h i k q)
theorem zF2.refl (w : zW) : zF2 w w := fun _ _ _ => rfl
def zSeaM (w : zW) (f g : Int) (n : Nat) : zSt := zSea (w.1 33 1) (w.1 33 2) (fun d => w.1 35 d) (fun g d => zPM w g d) (fun j => w.1 50 (f + j)) g n
theorem zSeaM_eq {w w' : zW} (h : zF2 w w') (f g : Int) (n : Nat) : zSeaM w' f g n = zSeaM w f g n := by
  unfold zSeaM
  rw [h 33 1 (by omega), h 33 2 (by omega), show (fun d => w'.1 35 d) = (fun d => w.1 35 d) from funext fun d => h 35 d (by omega), show (fun g d => zPM w' g d) = (fun g d => zPM w g d) from funext fun g => funext fun d => zPM_eq (fun i k h1 h2 => h i k (by omega)) g d, show (fun j => w'.1 50 (f + j)) = (fun j => w.1 50 (f + j)) from funext fun j => h 50 _ (by omega)]
theorem zSeaM_wr (w : zW) (f g1 g2 : Int) (n : Nat) : (zSeaM w f g1 n).2.1 = (zSeaM w f g2 n).2.1 := (zSea_wr g1 g2 n).1
theorem zSea_le {st0 strict : Int} {cost : Int → Int} {pl : Int → Int → Int} {row : Int → Int} {insp : Int} : ∀ n : Nat, (zSea st0 strict cost pl row insp n).1 ≤ st0
  | 0 => Int.le_refl _
  | n + 1 => by
    have h := zSea_le (st0 := st0) (strict := strict) (cost := cost) (pl := pl) (row := row) (insp := insp) n
    unfold zSea zStep
    (repeat' split) <;> first | exact h | (show _ - 1 ≤ _; omega)
def zB6 (a b c d e f : Bool) (i : Int) : Bool := if i = 0 then a else if i = 1 then b else if i = 2 then c else if i = 3 then d else if i = 4 then e else f
theorem zSet_bits : ∀ a b c d e f : Bool, ∀ n : Fin 7, ∀ g : Fin 6, g.val < n.val → (ziand (zshr (zSet (zB6 a b c d e f) n.val) (g.val : Int)) 1 = 1 ↔ zB6 a b c d e f (g.val : Int) = true) := by decide +kernel
theorem zB6_of (P : Int → Bool) {i : Int} (h0 : 0 ≤ i) (h1 : i < 6) : zB6 (P 0) (P 1) (P 2) (P 3) (P 4) (P 5) i = P i := by
  rcases (by omega : i = 0 ∨ i = 1 ∨ i = 2 ∨ i = 3 ∨ i = 4 ∨ i = 5) with rfl | rfl | rfl | rfl | rfl | rfl <;> rfl
theorem zSet_bit (P : Int → Bool) {n : Nat} {g : Int} (hn : n ≤ 6) (h0 : 0 ≤ g) (h1 : g < n) : ziand (zshr (zSet P n) g) 1 = 1 ↔ P g = true := by
  have h := zSet_bits (P 0) (P 1) (P 2) (P 3) (P 4) (P 5) ⟨n, by omega⟩ ⟨g.toNat, by omega⟩ (by show g.toNat < n; omega)
  have e : ((g.toNat : Nat) : Int) = g := Int.toNat_of_nonneg h0
  rw [show ((⟨g.toNat, by omega⟩ : Fin 6).val : Int) = g from e, zB6_of P h0 (by omega), show zSet (zB6 (P 0) (P 1) (P 2) (P 3) (P 4) (P 5)) (⟨n, by omega⟩ : Fin 7).val = zSet P n from zSet_eq (fun i a b => zB6_of P a (by omega))] at h
  exact h
theorem zSea_w9 {st0 strict : Int} {cost : Int → Int} {pl : Int → Int → Int} {row : Int → Int} {insp : Int} : ∀ n : Nat, (zSea st0 strict cost pl row insp n).2.1 = -9 ∨ 0 ≤ (zSea st0 strict cost pl row insp n).2.1
  | 0 => Or.inl rfl
  | n + 1 => by
    have h := zSea_w9 (st0 := st0) (strict := strict) (cost := cost) (pl := pl) (row := row) (insp := insp) n
    unfold zSea zStep
    split
    · split
      · exact Or.inr (Int.natCast_nonneg n)
      · split <;> exact Or.inl rfl
    · exact h
theorem zSeaM_w9 (w : zW) (f g : Int) (n : Nat) : (zSeaM w f g n).2.1 = -9 ∨ 0 ≤ (zSeaM w f g n).2.1 := zSea_w9 n
