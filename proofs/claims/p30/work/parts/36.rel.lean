/-! class and reference, cell by cell: wc holds the class's cells, wm the reference's -/
def zRel (wc wm : zW) : Prop := (wc.1 1 0 = wm.1 33 1) ∧ (wc.1 1 1 = wm.1 33 2) ∧ (wc.1 1 2 = wm.1 33 3) ∧ (wc.1 1 3 = wm.1 33 6) ∧ (wc.1 6 3 = wm.1 33 29) ∧ (wc.1 0 6 = wm.1 33 37) ∧ (∀ k, wc.1 7 k = wm.1 34 k) ∧ (∀ k, wc.1 8 k = wm.1 35 k) ∧ (∀ k, wc.1 9 k = wm.1 36 k) ∧ (∀ k, wc.1 10 k = wm.1 37 k) ∧ (∀ k, wc.1 11 k = wm.1 38 k) ∧ (∀ k, wc.1 30 k = wm.1 45 k) ∧ (∀ k, wc.1 31 k = wm.1 46 k) ∧ (∀ k, wc.1 32 k = wm.1 47 k) ∧ (∀ k, zSz wc k = wm.1 48 k) ∧ (∀ k, wc.1 14 k = wm.1 49 k) ∧ (∀ k i : Int, 0 ≤ k → k < 4 → 0 ≤ i → i < 60 → wc.1 (16 + k.toNat) i = wm.1 50 (60 * k + i)) ∧ (wm.1 33 6 = 0 ∨ 1 ≤ wm.1 33 3)
theorem zRel.st {wc wm : zW} (h : zRel wc wm) : wc.1 1 0 = wm.1 33 1 := h.1
theorem zRel.sr {wc wm : zW} (h : zRel wc wm) : wc.1 1 1 = wm.1 33 2 := h.2.1
theorem zRel.ds {wc wm : zW} (h : zRel wc wm) : wc.1 1 2 = wm.1 33 3 := h.2.2.1
theorem zRel.gs {wc wm : zW} (h : zRel wc wm) : wc.1 1 3 = wm.1 33 6 := h.2.2.2.1
theorem zRel.rs {wc wm : zW} (h : zRel wc wm) : wc.1 6 3 = wm.1 33 29 := h.2.2.2.2.1
theorem zRel.tr {wc wm : zW} (h : zRel wc wm) : wc.1 0 6 = wm.1 33 37 := h.2.2.2.2.2.1
theorem zRel.ch {wc wm : zW} (h : zRel wc wm) : ∀ k, wc.1 7 k = wm.1 34 k := h.2.2.2.2.2.2.1
theorem zRel.co {wc wm : zW} (h : zRel wc wm) : ∀ k, wc.1 8 k = wm.1 35 k := h.2.2.2.2.2.2.2.1
theorem zRel.ki {wc wm : zW} (h : zRel wc wm) : ∀ k, wc.1 9 k = wm.1 36 k := h.2.2.2.2.2.2.2.2.1
theorem zRel.ta {wc wm : zW} (h : zRel wc wm) : ∀ k, wc.1 10 k = wm.1 37 k := h.2.2.2.2.2.2.2.2.2.1
theorem zRel.lo {wc wm : zW} (h : zRel wc wm) : ∀ k, wc.1 11 k = wm.1 38 k := h.2.2.2.2.2.2.2.2.2.2.1
theorem zRel.lg {wc wm : zW} (h : zRel wc wm) : ∀ k, wc.1 30 k = wm.1 45 k := h.2.2.2.2.2.2.2.2.2.2.2.1
theorem zRel.ld {wc wm : zW} (h : zRel wc wm) : ∀ k, wc.1 31 k = wm.1 46 k := h.2.2.2.2.2.2.2.2.2.2.2.2.1
theorem zRel.ll {wc wm : zW} (h : zRel wc wm) : ∀ k, wc.1 32 k = wm.1 47 k := h.2.2.2.2.2.2.2.2.2.2.2.2.2.1
theorem zRel.sz {wc wm : zW} (h : zRel wc wm) : ∀ k, zSz wc k = wm.1 48 k := h.2.2.2.2.2.2.2.2.2.2.2.2.2.2.1
theorem zRel.ln {wc wm : zW} (h : zRel wc wm) : ∀ k, wc.1 14 k = wm.1 49 k := h.2.2.2.2.2.2.2.2.2.2.2.2.2.2.2.1
theorem zRel.row {wc wm : zW} (h : zRel wc wm) : ∀ k i : Int, 0 ≤ k → k < 4 → 0 ≤ i → i < 60 → wc.1 (16 + k.toNat) i = wm.1 50 (60 * k + i) := h.2.2.2.2.2.2.2.2.2.2.2.2.2.2.2.2.1
theorem zRel.ng {wc wm : zW} (h : zRel wc wm) : wm.1 33 6 = 0 ∨ 1 ≤ wm.1 33 3 := h.2.2.2.2.2.2.2.2.2.2.2.2.2.2.2.2.2
theorem zRel.m {wc wm wm' : zW} (h : zRel wc wm) (e : ∀ i k, 33 ≤ i → zkeep i k = true → wm'.1 i k = wm.1 i k) : zRel wc wm' := ⟨h.st.trans (e 33 1 (by decide) rfl).symm,
    h.sr.trans (e 33 2 (by decide) rfl).symm,
    h.ds.trans (e 33 3 (by decide) rfl).symm,
    h.gs.trans (e 33 6 (by decide) rfl).symm,
    h.rs.trans (e 33 29 (by decide) rfl).symm,
    h.tr.trans (e 33 37 (by decide) rfl).symm,
    (fun k => (h.ch k).trans (e 34 k (by decide) (by simp [zkeep])).symm),
    (fun k => (h.co k).trans (e 35 k (by decide) (by simp [zkeep])).symm),
    (fun k => (h.ki k).trans (e 36 k (by decide) (by simp [zkeep])).symm),
    (fun k => (h.ta k).trans (e 37 k (by decide) (by simp [zkeep])).symm),
    (fun k => (h.lo k).trans (e 38 k (by decide) (by simp [zkeep])).symm),
    (fun k => (h.lg k).trans (e 45 k (by decide) (by simp [zkeep])).symm),
    (fun k => (h.ld k).trans (e 46 k (by decide) (by simp [zkeep])).symm),
    (fun k => (h.ll k).trans (e 47 k (by decide) (by simp [zkeep])).symm),
    (fun k => (h.sz k).trans (e 48 k (by decide) (by simp [zkeep])).symm),
    (fun k => (h.ln k).trans (e 49 k (by decide) (by simp [zkeep])).symm),
    (fun k i h0 h1 h2 h3 => (h.row k i h0 h1 h2 h3).trans (e 50 _ (by decide) (by simp [zkeep])).symm),
    (by rw [e 33 6 (by decide) rfl, e 33 3 (by decide) rfl]; exact h.ng)⟩
theorem zkeep_row {k : Int} (h0 : 0 ≤ k) (h1 : k < 4) (i : Int) : zkeep (16 + k.toNat) i = true := by
  rcases (by omega : k = 0 ∨ k = 1 ∨ k = 2 ∨ k = 3) with rfl | rfl | rfl | rfl <;> simp [zkeep]
theorem zRel.c {wc wc' wm : zW} (h : zRel wc wm) (e : ∀ i k, i < 33 → zkeep i k = true → wc'.1 i k = wc.1 i k) : zRel wc' wm := ⟨(e 1 0 (by decide) rfl).trans h.st,
    (e 1 1 (by decide) rfl).trans h.sr,
    (e 1 2 (by decide) rfl).trans h.ds,
    (e 1 3 (by decide) rfl).trans h.gs,
    (e 6 3 (by decide) rfl).trans h.rs,
    (e 0 6 (by decide) rfl).trans h.tr,
    (fun k => (e 7 k (by decide) (by simp [zkeep])).trans (h.ch k)),
    (fun k => (e 8 k (by decide) (by simp [zkeep])).trans (h.co k)),
    (fun k => (e 9 k (by decide) (by simp [zkeep])).trans (h.ki k)),
    (fun k => (e 10 k (by decide) (by simp [zkeep])).trans (h.ta k)),
    (fun k => (e 11 k (by decide) (by simp [zkeep])).trans (h.lo k)),
    (fun k => (e 30 k (by decide) (by simp [zkeep])).trans (h.lg k)),
    (fun k => (e 31 k (by decide) (by simp [zkeep])).trans (h.ld k)),
    (fun k => (e 32 k (by decide) (by simp [zkeep])).trans (h.ll k)),
    (fun k => by unfold zSz; rw [e 13 k (by decide) (by simp [zkeep]), e 15 k (by decide) (by simp [zkeep])]; exact h.sz k),
    (fun k => (e 14 k (by decide) (by simp [zkeep])).trans (h.ln k)),
    (fun k i h0 h1 h2 h3 => (e _ i (by omega) (zkeep_row h0 h1 i)).trans (h.row k i h0 h1 h2 h3)),
    h.ng⟩
theorem zRel.pl {wc wm : zW} (h : zRel wc wm) (g d : Int) : zPC wc g d = zPM wm g d := by
  unfold zPC zPM
  rw [h.ch, h.ta, h.ki, h.lo]
theorem zRel.won {wc wm : zW} (h : zRel wc wm) (d : Int) : zWC wc d = zWMo wm d := by
  unfold zWC zWMo
  rw [h.gs, h.sr]
  exact zSet_eq (fun g _ _ => by rw [h.pl])
theorem zRel.so {wc wm : zW} (h : zRel wc wm) : zSoC wc = zSoM wm := by
  unfold zSoC zSoM
  rw [h.rs, h.sr]
  exact zAll_eq (fun r _ _ => by rw [h.pl, h.lg, h.ld, h.ll])
theorem zRel.sea {wc wm : zW} (h : zRel wc wm) {k i n : Int} (g : Int) (k0 : 0 ≤ k) (k1 : k < 4) (i0 : 0 ≤ i) (n1 : i + 2 * n ≤ 60) : zSeaC wc (16 + k.toNat) i g n.toNat = zSeaM wm (60 * k + i) g n.toNat := by
  unfold zSeaC zSeaM
  rw [h.st, h.sr, show (fun d => wc.1 8 d) = (fun d => wm.1 35 d) from funext fun d => h.co d, show (fun g d => zPC wc g d) = (fun g d => zPM wm g d) from funext fun g => funext fun d => h.pl g d]
  exact zSea_eq g (fun j j0 j1 => by
    show wc.1 (16 + k.toNat) (i + j) = wm.1 50 (60 * k + i + j)
    rw [h.row k (i + j) k0 k1 (by omega) (by omega), Int.add_assoc])
theorem zRel.pairs {wc wm : zW} (h : zRel wc wm) (hO : zOk wm) {k i n : Int} (lane : Int) (k0 : 0 ≤ k) (k1 : k < 4) : fPairs (wc.1 1 3) (wc.1 1 2) (zSz wc k) (wc.1 14 k) lane i n (fun j => wc.1 (16 + k.toNat) (i + j)) = fPairs (wm.1 33 6) (wm.1 33 3) (wm.1 48 k) (wm.1 49 k) lane i n (fun j => wm.1 50 (60 * k + i + j)) := by
  have hL := hO 48 k
  change -1 ≤ wm.1 48 k ∧ wm.1 48 k ≤ 60 at hL
  rw [h.gs, h.ds, h.sz, h.ln]
  unfold fPairs
  by_cases a : i < 0 ∨ wm.1 48 k < i + 2 * n
  · rw [if_pos a, if_pos a]
  · rw [if_neg a, if_neg a, zPB_eq (n := n.toNat) (r1 := fun j => wc.1 (16 + k.toNat) (i + j)) (r2 := fun j => wm.1 50 (60 * k + i + j)) (fun j j0 j1 => by
      show wc.1 (16 + k.toNat) (i + j) = wm.1 50 (60 * k + i + j)
      rw [h.row k (i + j) k0 k1 (by omega) (by omega), Int.add_assoc])]
theorem zand_cong {p : Prop} {a b : Prop} (h : p → (a ↔ b)) : (p ∧ a) ↔ (p ∧ b) := ⟨fun x => ⟨x.1, (h x.1).mp x.2⟩, fun x => ⟨x.1, (h x.1).mpr x.2⟩⟩
theorem zDs_eq {c1 c2 : Int → Int} {n : Int} (h : ∀ q : Int, 0 ≤ q → q < n → c1 q = c2 q) : ∀ (f : Nat) (k : Int), 0 ≤ k → zDs c1 n f k = zDs c2 n f k
  | 0, _, _ => rfl
  | f + 1, k, hk => by
    unfold zDs
    rw [zDs_eq h f (k + 1) (by omega)]
    have e1 : (3 + 3 * k < n ∧ c1 (3 + 3 * k) = 47) = (3 + 3 * k < n ∧ c2 (3 + 3 * k) = 47) := propext (zand_cong (fun q => by rw [h _ (by omega) q]))
    have e2 : (4 + 3 * k < n ∧ 48 ≤ c1 (4 + 3 * k) ∧ c1 (4 + 3 * k) ≤ 57) = (4 + 3 * k < n ∧ 48 ≤ c2 (4 + 3 * k) ∧ c2 (4 + 3 * k) ≤ 57) := propext (zand_cong (fun q => by rw [h _ (by omega) q]))
    have e3 : (5 + 3 * k < n ∧ 48 ≤ c1 (5 + 3 * k) ∧ c1 (5 + 3 * k) ≤ 51) = (5 + 3 * k < n ∧ 48 ≤ c2 (5 + 3 * k) ∧ c2 (5 + 3 * k) ≤ 51) := propext (zand_cong (fun q => by rw [h _ (by omega) q]))
    simp only [e1, e2, e3]
theorem zGs_eq {c1 c2 : Int → Int} {n nd : Int} (h : ∀ q : Int, 0 ≤ q → q < n → c1 q = c2 q) (hd : 0 ≤ nd) : ∀ (f : Nat) (k : Int), 0 ≤ k → zGs c1 n nd f k = zGs c2 n nd f k
  | 0, _, _ => rfl
  | f + 1, k, hk => by
    unfold zGs
    rw [zGs_eq h hd f (k + 1) (by omega)]
    have e1 : (3 + 3 * nd + 4 * k < n ∧ c1 (3 + 3 * nd + 4 * k) = 59) = (3 + 3 * nd + 4 * k < n ∧ c2 (3 + 3 * nd + 4 * k) = 59) := propext (zand_cong (fun q => by rw [h _ (by omega) q]))
    have e2 : (4 + 3 * nd + 4 * k < n ∧ (c1 (4 + 3 * nd + 4 * k) = 103 ∨ c1 (4 + 3 * nd + 4 * k) = 99 ∨ c1 (4 + 3 * nd + 4 * k) = 112)) = (4 + 3 * nd + 4 * k < n ∧ (c2 (4 + 3 * nd + 4 * k) = 103 ∨ c2 (4 + 3 * nd + 4 * k) = 99 ∨ c2 (4 + 3 * nd + 4 * k) = 112)) := propext (zand_cong (fun q => by rw [h _ (by omega) q]))
    have e3 : (5 + 3 * nd + 4 * k < n ∧ 48 ≤ c1 (5 + 3 * nd + 4 * k) ∧ c1 (5 + 3 * nd + 4 * k) ≤ 57) = (5 + 3 * nd + 4 * k < n ∧ 48 ≤ c2 (5 + 3 * nd + 4 * k) ∧ c2 (5 + 3 * nd + 4 * k) ≤ 57) := propext (zand_cong (fun q => by rw [h _ (by omega) q]))
    have e4 : (6 + 3 * nd + 4 * k < n ∧ 48 ≤ c1 (6 + 3 * nd + 4 * k) ∧ c1 (6 + 3 * nd + 4 * k) ≤ 47 + nd) = (6 + 3 * nd + 4 * k < n ∧ 48 ≤ c2 (6 + 3 * nd + 4 * k) ∧ c2 (6 + 3 * nd + 4 * k) ≤ 47 + nd) := propext (zand_cong (fun q => by rw [h _ (by omega) q]))
    simp only [e1, e2, e3, e4]
theorem zTx_eq {c1 c2 : Int → Int} {n : Int} (h : ∀ q : Int, 0 ≤ q → q < n → c1 q = c2 q) : zTx c1 n = zTx c2 n := by
  unfold zTx
  have e0 : (0 < n ∧ c1 0 = 122) = (0 < n ∧ c2 0 = 122) := propext (zand_cong (fun q => by rw [h _ (by omega) q]))
  have e1 : (1 < n ∧ 48 ≤ c1 1 ∧ c1 1 ≤ 53) = (1 < n ∧ 48 ≤ c2 1 ∧ c2 1 ≤ 53) := propext (zand_cong (fun q => by rw [h _ (by omega) q]))
  have e2 : (2 < n ∧ 49 ≤ c1 2 ∧ c1 2 ≤ 57) = (2 < n ∧ 49 ≤ c2 2 ∧ c2 2 ≤ 57) := propext (zand_cong (fun q => by rw [h _ (by omega) q]))
  rw [zDs_eq h 4 0 (by decide)]
  simp only [e0, e1, e2]
  by_cases a : (zDs c2 n 4 0).1 = true
  · have d := zDs_ok 4 0 (by decide) a
    rw [zGs_eq h (by omega) 6 0 (by decide)]
  · rw [if_neg a, if_neg a]
