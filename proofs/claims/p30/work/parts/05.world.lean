/-! THE LOGICAL WORLD: cells by number, what they hold as whole numbers, bounds; a method's walk over it -/
abbrev zV : Type := Int ⊕ (Int ⊕ Nat)
abbrev zI (a : Int) : zV := .inl a
abbrev zJ (a : Int) : zV := .inr (.inl a)
abbrev zR (i : Nat) : zV := .inr (.inr i)
def zcv (ad : Nat → Nat) : zV → Value
  | .inl a => .int (Int32.ofInt a)
  | .inr (.inl a) => .long (Int64.ofInt a)
  | .inr (.inr i) => .ref (ad i)
abbrev zW : Type := (Nat → Int → Int) × Nat
def zu2 (f : Nat → Int → Int) (i : Nat) (k v : Int) : Nat → Int → Int := fun i' k' => if i' = i ∧ k' = k then v else f i' k'
def zput (w : zW) (i : Nat) (k v : Int) : zW := (zu2 w.1 i k v, w.2)
theorem zput_s (w : zW) (i : Nat) (k v : Int) : (zput w i k v).1 i k = v := by simp [zput, zu2]
theorem zput_i (w : zW) {i i' : Nat} (k k' v : Int) (h : i' ≠ i) : (zput w i k v).1 i' k' = w.1 i' k' := by simp [zput, zu2, h]
theorem zput_k (w : zW) {i i' : Nat} {k k' : Int} (v : Int) (h : k' ≠ k) : (zput w i k v).1 i' k' = w.1 i' k' := by simp [zput, zu2, h]
theorem zput_e (w : zW) (i i' : Nat) (k k' v : Int) : (zput w i k v).1 i' k' = if i' = i ∧ k' = k then v else w.1 i' k' := rfl
def zN : Nat := 52
def zSH : List ((Nat × Nat) ⊕ (Nat × List Bool)) := [.inr (6, [true, true, true, true, true, true, false, false]), .inr (0, [false, false, false, false, true, true, true, true, true]), .inr (4, [true, true, true, true]), .inr (5, [true, false, false, false, false, false]), .inr (2, [false, false, false, false, false]), .inr (3, [true, true, false]), .inr (1, [true, true, true, false]), .inl (0, 4), .inl (0, 4), .inl (0, 6), .inl (0, 6), .inl (0, 6), .inl (2, 4), .inl (1, 4), .inl (0, 4), .inl (0, 4), .inl (0, 60), .inl (0, 60), .inl (0, 60), .inl (0, 60), .inl (0, 0), .inl (2, 7), .inl (0, 13), .inl (0, 13), .inl (0, 13), .inl (0, 13), .inl (0, 13), .inl (0, 13), .inl (0, 13), .inl (0, 6), .inl (0, 8), .inl (0, 8), .inl (1, 8), .inr (7, [false, false, false, false, true, true, false, true, true, true, false, false, false, false, false, true, true, true, true, true, false, false, false, false, false, true, false, false, false, false, true, true, true, true, true, true, true, false]), .inl (0, 4), .inl (0, 4), .inl (0, 6), .inl (0, 6), .inl (0, 6), .inl (0, 4), .inl (0, 4), .inl (0, 6), .inl (0, 6), .inl (0, 6), .inl (0, 6), .inl (0, 8), .inl (0, 8), .inl (1, 8), .inl (0, 4), .inl (0, 4), .inl (0, 240), .inl (0, 60)]
def zRT : List (List Nat) := [[1, 2, 3, 4, 5, 6, 0, 0], [0, 0, 0, 0, 7, 8, 9, 10, 11], [12, 13, 14, 15], [20, 0, 0, 0, 0, 0], [0, 0, 0, 0, 0], [21, 29, 0], [30, 31, 32, 0], [], [], [], [], [], [16, 17, 18, 19], [], [], [], [], [], [], [], [], [22, 23, 24, 25, 26, 27, 28], [], [], [], [], [], [], [], [], [], [], [], [0, 0, 0, 0, 34, 35, 0, 36, 37, 38, 0, 0, 0, 0, 0, 39, 40, 41, 42, 43, 0, 0, 0, 0, 0, 44, 0, 0, 0, 0, 45, 46, 47, 48, 49, 50, 51, 0], [], [], [], [], [], [], [], [], [], [], [], [], [], [], [], [], [], []]
def zBT : List (List (Int × Int)) := [[(0, 0), (0, 0), (0, 0), (0, 0), (0, 0), (0, 0), (-2147483648, 2147483647), (0, 4)], [(0, 5), (0, 9), (0, 4), (0, 6), (0, 0), (0, 0), (0, 0), (0, 0), (0, 0)], [(0, 0), (0, 0), (0, 0), (0, 0)], [(0, 0), (0, 60), (0, 60), (0, 60), (0, 4), (0, 6)], [(0, 5), (-9, 19), (-9, 19), (0, 12), (0, 1000)], [(0, 0), (0, 0), (0, 6)], [(0, 0), (0, 0), (0, 0), (0, 8)], [(0, 9)], [(0, 3)], [(0, 2)], [(0, 9)], [(0, 3)], [(0, 0)], [(0, 1)], [(0, 2)], [(0, 60)], [(-2147483648, 2147483647)], [(-2147483648, 2147483647)], [(-2147483648, 2147483647)], [(-2147483648, 2147483647)], [(0, 0)], [(0, 0)], [(-1000, 1000000)], [(-1000, 1000000)], [(-1000, 1000000)], [(-1000, 1000000)], [(-1000, 1000000)], [(-1000, 1000000)], [(-1000, 1000000)], [(0, 3)], [(0, 5)], [(0, 3)], [(0, 1)], [(0, 4), (0, 5), (0, 9), (0, 4), (0, 0), (0, 0), (0, 6), (0, 0), (0, 0), (0, 0), (0, 60), (-9, 5), (-9, 9), (0, 4), (0, 6), (0, 0), (0, 0), (0, 0), (0, 0), (0, 0), (-9, 19), (0, 12), (0, 5), (-9, 19), (0, 1000), (0, 0), (0, 18), (0, 6), (0, 200), (0, 8), (0, 0), (0, 0), (0, 0), (0, 0), (0, 0), (0, 0), (0, 0), (-2147483648, 2147483647)], [(0, 9)], [(0, 3)], [(0, 2)], [(0, 9)], [(0, 3)], [(0, 9)], [(0, 3)], [(0, 2)], [(0, 9)], [(0, 3)], [(0, 3)], [(0, 5)], [(0, 3)], [(0, 1)], [(-1, 60)], [(0, 2)], [(-2147483648, 2147483647)], [(-2147483648, 2147483647)]]
def zS (i : Nat) : (Nat × Nat) ⊕ (Nat × List Bool) := zSH.getD i (.inl (0, 0))
def zrf (w : zW) (i k : Nat) : Nat := if i = 3 ∧ k = 0 then w.2 else (zRT.getD i []).getD k 0
def zB (i : Nat) (k : Int) : Int × Int := match zBT.getD i [] with
  | [b] => b
  | l => l.getD k.toNat (0, 0)
def zOk (w : zW) : Prop := ∀ (i : Nat) (k : Int), (zB i k).1 ≤ w.1 i k ∧ w.1 i k ≤ (zB i k).2
theorem zOk.put {w : zW} (h : zOk w) {i : Nat} {k v : Int} (h1 : (zB i k).1 ≤ v) (h2 : v ≤ (zB i k).2) : zOk (zput w i k v) := by
  intro i' k'
  by_cases e : i' = i ∧ k' = k
  · obtain ⟨rfl, rfl⟩ := e
    rw [zput_s]
    exact ⟨h1, h2⟩
  · rw [zput_e, if_neg e]
    exact h i' k'
def zobj (ad : Nat → Nat) (w : zW) (i : Nat) (fs : List Bool) : List Value := fs.mapIdx (fun k b => if b then .ref (ad (zrf w i k)) else .int (Int32.ofInt (w.1 i k)))
def zarr (ad : Nat → Nat) (w : zW) (i t n : Nat) : vp_A := (n, if t = 2 then .inr (.inr (.inr (.inr (fun j => some (ad (zrf w i j)))))) else .inl (fun j => Int32.ofInt (w.1 i (j : Int))))
def zE (ad : Nat → Nat) (cy : Nat → ClassId) (w : zW) (i : Nat) : va_E := match zS i with
  | .inl (t, n) => .inl (cy t, zarr ad w i t n)
  | .inr (ci, fs) => .inr (ci, zobj ad w i fs)
def zwl (ad : Nat → Nat) (cy : Nat → ClassId) (w : zW) : va_W := (List.range zN).map (fun i => (ad i, zE ad cy w i))
def zTys (cy : Nat → ClassId) : List (ClassId × FieldType) := [(cy 0, .int), (cy 1, .boolean), (cy 2, .array .int)]
theorem zwl_at (ad : Nat → Nat) (cy : Nat → ClassId) (w : zW) {i : Nat} (h : i < zN) : (zwl ad cy w)[i]? = some (ad i, zE ad cy w i) := by
  unfold zwl
  rw [List.getElem?_map, List.getElem?_range h]
  rfl
theorem zwl_at' {ad : Nat → Nat} {cy : Nat → ClassId} {w : zW} {i : Nat} {q : Nat × va_E} (h : (zwl ad cy w)[i]? = some q) : i < zN ∧ q = (ad i, zE ad cy w i) := by
  have hl : i < zN := by
    have h1 := (List.getElem?_eq_some_iff.mp h).1
    unfold zwl at h1
    rw [List.length_map, List.length_range] at h1
    exact h1
  refine ⟨hl, ?_⟩
  rw [zwl_at ad cy w hl] at h
  exact (Option.some.inj h).symm
theorem zE_obj {ad : Nat → Nat} {cy : Nat → ClassId} {w : zW} {i ci : Nat} {fs : List Bool} (h : zS i = .inr (ci, fs)) : zE ad cy w i = .inr (ci, zobj ad w i fs) := by
  unfold zE; rw [h]
theorem zE_arr {ad : Nat → Nat} {cy : Nat → ClassId} {w : zW} {i t n : Nat} (h : zS i = .inl (t, n)) : zE ad cy w i = .inl (cy t, zarr ad w i t n) := by
  unfold zE; rw [h]
theorem zlt_obj {i ci : Nat} {fs : List Bool} (h : zS i = .inr (ci, fs)) : i < zN := by
  rcases Nat.lt_or_ge i zN with q | q
  · exact q
  · have e : zS i = .inl (0, 0) := by
      unfold zS
      rw [List.getD_eq_getElem?_getD, List.getElem?_eq_none (by exact q)]
      rfl
    rw [e] at h
    cases h
theorem zwl_eq (ad : Nat → Nat) (cy : Nat → ClassId) (w w' : zW) {i : Nat} {e : va_E} (hi : i < zN) (he : zE ad cy w' i = e) (ho : ∀ j, j ≠ i → zE ad cy w' j = zE ad cy w j) : (zwl ad cy w).set i (ad i, e) = zwl ad cy w' := by
  apply List.ext_getElem?
  intro j
  by_cases hj : j = i
  · subst hj
    rw [List.getElem?_set_self (by unfold zwl; rw [List.length_map, List.length_range]; exact hi), zwl_at ad cy w' hi, he]
  · rw [List.getElem?_set_ne (Ne.symm hj)]
    by_cases hl : j < zN
    · rw [zwl_at ad cy w hl, zwl_at ad cy w' hl, ho j hj]
    · rw [List.getElem?_eq_none (by unfold zwl; rw [List.length_map, List.length_range]; omega), List.getElem?_eq_none (by unfold zwl; rw [List.length_map, List.length_range]; omega)]
theorem zE_other {ad : Nat → Nat} {cy : Nat → ClassId} {w w' : zW} {j : Nat} (h1 : ∀ k, w'.1 j k = w.1 j k) (h2 : ∀ k, zrf w' j k = zrf w j k) : zE ad cy w' j = zE ad cy w j := by
  unfold zE
  cases zS j with
  | inl q =>
    obtain ⟨t, n⟩ := q
    show Sum.inl (cy t, zarr ad w' j t n) = Sum.inl (cy t, zarr ad w j t n)
    unfold zarr
    simp only [h1, h2]
  | inr q =>
    obtain ⟨ci, fs⟩ := q
    show Sum.inr (ci, zobj ad w' j fs) = Sum.inr (ci, zobj ad w j fs)
    unfold zobj
    simp only [h1, h2]
theorem zobj_put {ad : Nat → Nat} {w : zW} {i k : Nat} {v : Int} {fs : List Bool} (h : fs[k]? = some false) : (zobj ad w i fs).set k (.int (Int32.ofInt v)) = zobj ad (zput w i k v) i fs := by
  apply List.ext_getElem?
  intro j
  unfold zobj
  by_cases hj : j = k
  · subst hj
    have hl := (List.getElem?_eq_some_iff.mp h).1
    rw [List.getElem?_set_self (by rw [List.length_mapIdx]; exact hl), List.getElem?_mapIdx, h]
    simp [zput_s]
  · rw [List.getElem?_set_ne (Ne.symm hj), List.getElem?_mapIdx, List.getElem?_mapIdx]
    have hk : ((j : Int) ≠ (k : Int)) := by omega
    have e : (zput w i k v).1 i (j : Int) = w.1 i (j : Int) := zput_k w v hk
    simp only [e]
    rfl
theorem zobj_ref {ad : Nat → Nat} {w : zW} {fs : List Bool} {b : Nat} (h : fs[0]? = some true) : (zobj ad w 3 fs).set 0 (.ref (ad b)) = zobj ad (w.1, b) 3 fs := by
  apply List.ext_getElem?
  intro j
  unfold zobj
  by_cases hj : j = 0
  · subst hj
    have hl := (List.getElem?_eq_some_iff.mp h).1
    rw [List.getElem?_set_self (by rw [List.length_mapIdx]; exact hl), List.getElem?_mapIdx, h]
    simp [zrf]
  · rw [List.getElem?_set_ne (Ne.symm hj), List.getElem?_mapIdx, List.getElem?_mapIdx]
    have e : zrf (w.1, b) 3 j = zrf w 3 j := by simp [zrf, hj]
    simp only [e]
theorem zarr_put {ad : Nat → Nat} {w : zW} {i t n : Nat} {k v : Int} (ht : t ≠ 2) (h0 : 0 ≤ k) : (n, Sum.inl (upd (fun j => Int32.ofInt (w.1 i (j : Int))) k.toNat (Int32.ofInt v))) = zarr ad (zput w i k v) i t n := by
  unfold zarr
  rw [if_neg ht]
  congr 2
  funext j
  by_cases hj : j = k.toNat
  · subst hj
    have e : ((k.toNat : Nat) : Int) = k := Int.toNat_of_nonneg h0
    rw [e, zput_s]
    simp [upd]
  · have e : ((j : Int) ≠ k) := by omega
    rw [zput_k w v e]
    simp [upd, hj]
abbrev zin (a : Int) : Prop := -2147483648 ≤ a ∧ a < 2147483648
abbrev zinL (a : Int) : Prop := -9223372036854775808 ≤ a ∧ a < 9223372036854775808
theorem zi_to {a : Int} (h : zin a) : (Int32.ofInt a).toInt = a := Int32.toInt_ofInt_of_le h.1 h.2
theorem zl_to {a : Int} (h : zinL a) : (Int64.ofInt a).toInt = a := Int64.toInt_ofInt_of_le h.1 h.2
theorem zi_eq {a b : Int} (ha : zin a) (hb : zin b) : (Int32.ofInt a = Int32.ofInt b) ↔ a = b := by
  rw [← Int32.toInt_inj, zi_to ha, zi_to hb]
theorem zi_lt {a b : Int} (ha : zin a) (hb : zin b) : (Int32.ofInt a < Int32.ofInt b) ↔ a < b := by
  rw [Int32.lt_iff_toInt_lt, zi_to ha, zi_to hb]
theorem zi_le {a b : Int} (ha : zin a) (hb : zin b) : (Int32.ofInt a ≤ Int32.ofInt b) ↔ a ≤ b := by
  rw [Int32.le_iff_toInt_le, zi_to ha, zi_to hb]
theorem zl_eq {a b : Int} (ha : zinL a) (hb : zinL b) : (Int64.ofInt a = Int64.ofInt b) ↔ a = b := by
  rw [← Int64.toInt_inj, zl_to ha, zl_to hb]
theorem zl_lt {a b : Int} (ha : zinL a) (hb : zinL b) : (Int64.ofInt a < Int64.ofInt b) ↔ a < b := by
  rw [Int64.lt_iff_toInt_lt, zl_to ha, zl_to hb]
theorem zl_le {a b : Int} (ha : zinL a) (hb : zinL b) : (Int64.ofInt a ≤ Int64.ofInt b) ↔ a ≤ b := by
  rw [Int64.le_iff_toInt_le, zl_to ha, zl_to hb]
theorem zi_0 : (0 : Int32) = Int32.ofInt 0 := by decide +kernel
theorem zi_nat {j : Int} (h0 : 0 ≤ j) (h1 : j < 2147483648) : (Int32.ofInt j).toNatClampNeg = j.toNat := by
  rw [Int32.toNatClampNeg_ofInt_of_le (by omega) h1]
theorem zi_in {j : Int} {n : Nat} (h0 : 0 ≤ j) (h1 : j < n) (hn : n < 2147483648) : vp_in (Int32.ofInt j) n := by
  rw [vp_in_iff, zi_to ⟨by omega, by omega⟩]
  exact ⟨h0, h1⟩
theorem zi_max : Int32.maxValue.toInt = 2147483647 := by decide +kernel
theorem zi_min : Int32.minValue.toInt = -2147483648 := by decide +kernel
theorem zl_max : Int64.maxValue.toInt = 9223372036854775807 := by decide +kernel
theorem zl_min : Int64.minValue.toInt = -9223372036854775808 := by decide +kernel
theorem zi_div {a b : Int} (ha : zin a) (h0 : 0 ≤ a) (hb : zin b) (h1 : 0 < b) : Int32.ofInt a / Int32.ofInt b = Int32.ofInt (a / b) := by
  rw [← Int32.ofInt_tdiv (by rw [zi_min]; exact ha.1) (by rw [zi_max]; have := ha.2; omega) (by rw [zi_min]; exact hb.1) (by rw [zi_max]; have := hb.2; omega), Int.tdiv_eq_ediv_of_nonneg h0]
theorem zl_div {a b : Int} (ha : zinL a) (h0 : 0 ≤ a) (hb : zinL b) (h1 : 0 < b) : Int64.ofInt a / Int64.ofInt b = Int64.ofInt (a / b) := by
  rw [← Int64.ofInt_tdiv (by rw [zl_min]; exact ha.1) (by rw [zl_max]; have := ha.2; omega) (by rw [zl_min]; exact hb.1) (by rw [zl_max]; have := hb.2; omega), Int.tdiv_eq_ediv_of_nonneg h0]
theorem zi_rem {a b : Int} (ha : zin a) (h0 : 0 ≤ a) (hb : zin b) (h1 : 0 < b) : Int32.ofInt a - Int32.ofInt a / Int32.ofInt b * Int32.ofInt b = Int32.ofInt (a % b) := by
  rw [zi_div ha h0 hb h1, ← Int32.ofInt_mul, ← Int32.ofInt_sub]
  congr 1
  have := Int.emod_add_mul_ediv a b
  rw [Int.mul_comm] at this
  omega
theorem zl_rem {a b : Int} (ha : zinL a) (h0 : 0 ≤ a) (hb : zinL b) (h1 : 0 < b) : Int64.ofInt a - Int64.ofInt a / Int64.ofInt b * Int64.ofInt b = Int64.ofInt (a % b) := by
  rw [zl_div ha h0 hb h1, ← Int64.ofInt_mul, ← Int64.ofInt_sub]
  congr 1
  have := Int.emod_add_mul_ediv a b
  rw [Int.mul_comm] at this
  omega
theorem zi_wide {a : Int} (ha : zin a) : (Int32.ofInt a).toInt64 = Int64.ofInt a := by
  rw [← Int64.ofInt_int32ToInt, zi_to ha]
/-- ints by their bits -/
def zshl (x y : Int) : Int := (Int32.ofInt x <<< (Int32.ofInt y &&& 31)).toInt
def zshr (x y : Int) : Int := (Int32.ofInt x >>> (Int32.ofInt y &&& 31)).toInt
def zior (x y : Int) : Int := (Int32.ofInt x ||| Int32.ofInt y).toInt
def ziand (x y : Int) : Int := (Int32.ofInt x &&& Int32.ofInt y).toInt
def zi2b (x : Int) : Int := (Int32.ofInt x).toInt8.toInt32.toInt
def zi2s (x : Int) : Int := (Int32.ofInt x).toInt16.toInt32.toInt
def znrm (x : Int) : Int := (Int32.ofInt x).toInt
theorem zto_in (x : Int32) : zin x.toInt := ⟨x.le_toInt, x.toInt_lt⟩
