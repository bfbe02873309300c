/-! each method of both, in turn: the relation is kept -/
theorem zRel.eq {w w1 : zW} (h : zRel w w) (e : zEq w w1) : zRel w1 w1 := (h.m (fun i k _ hk => e i k hk)).c (fun i k _ hk => e i k hk)
set_option maxHeartbeats 4000000 in
theorem k_hotel {w w1 w2 : zW} {k lane i n : Int} {rc rm : Int} (hR : zRel w w) (hO : zOk w) (hO1 : zOk w1) (hC : rc = fHotel (zSz w k) (w.1 14 k) k lane i n (zTx (fun q => w.1 (16 + k.toNat) (i + q)) n) ∧ ((rc < 2 ∧ zEq w w1) ∨ (2 ≤ rc ∧ (zTx (fun q => w.1 (16 + k.toNat) (i + q)) n).1 = true ∧ 0 ≤ k ∧ k < 4 ∧ 0 ≤ i ∧ 0 ≤ n ∧ i + n ≤ zSz w k ∧ zSz w k ≤ 60 ∧ (∀ i' k', zkeep i' k' = true → w1.1 i' k' = (if i' = 6 ∧ k' = 3 then 0 else zHoC w (fun q => w.1 (16 + k.toNat) (i + q)) (zTx (fun q => w.1 (16 + k.toNat) (i + q)) n).2.2.1 (zTx (fun q => w.1 (16 + k.toNat) (i + q)) n).2.2.2 i' k'))))) (hM : rm = fHotel (w1.1 48 k) (w1.1 49 k) k lane i n (zTx (fun q => w1.1 50 (60 * k + i + q)) n) ∧ ((rm < 2 ∧ zEq w1 w2) ∨ (2 ≤ rm ∧ (zTx (fun q => w1.1 50 (60 * k + i + q)) n).1 = true ∧ 0 ≤ k ∧ k < 4 ∧ 0 ≤ i ∧ 0 ≤ n ∧ i + n ≤ w1.1 48 k ∧ (∀ i' k', zkeep i' k' = true → w2.1 i' k' = (if i' = 33 ∧ k' = 29 then 0 else zHoM w1 (fun q => w1.1 50 (60 * k + i + q)) (zTx (fun q => w1.1 50 (60 * k + i + q)) n).2.2.1 (zTx (fun q => w1.1 50 (60 * k + i + q)) n).2.2.2 i' k'))))) : zRel w2 w2 := by
  have hab := a_hotel hR hO hO1 hC hM
  have ha := hC.1
  have hb := hM.1
  have hR1 : zRel w w1 := hR.m (fun i' k' q hk => by
    rcases hC.2 with ⟨_, z⟩ | ⟨_, _, k0, k1, _, _, _, _, z⟩
    · exact z i' k' hk
    · rw [z i' k' hk, if_neg (by omega)]
      unfold zHoC
      rw [if_neg (by omega), if_neg (by omega), if_neg (by omega), if_neg (by omega), if_neg (by omega), if_neg (by omega), if_neg (by omega), if_neg (by omega), if_neg (by omega)])
  have hL := hO1 48 k
  change -1 ≤ w1.1 48 k ∧ w1.1 48 k ≤ 60 at hL
  rcases hC.2 with ⟨z1, hC1⟩ | ⟨z1, t1, k0, k1, i0, n0, b1, b2, hC1⟩
  · rcases hM.2 with ⟨z2, hM1⟩ | ⟨z2, t2, _, _, _, _, _, hM1⟩
    · exact (hR.eq hC1).eq hM1
    · exfalso; omega
  rcases hM.2 with ⟨z2, hM1⟩ | ⟨z2, t2, _, _, _, _, b3, hM1⟩
  · exfalso; omega
  clear hab ha hb hC hM
  have hcc : ∀ q : Int, 0 ≤ q → q < n → (fun q : Int => w.1 (16 + k.toNat) (i + q)) q = (fun q : Int => w1.1 50 (60 * k + i + q)) q := fun q q0 q1 => by
    show w.1 (16 + k.toNat) (i + q) = w1.1 50 (60 * k + i + q)
    rw [hR1.row k (i + q) (by omega) (by omega) (by omega) (by omega), Int.add_assoc]
  rw [← zTx_eq hcc] at hM1
  obtain ⟨_, d1, d2, g1, g2, hn⟩ := zTx_ok t1
  generalize (zTx (fun q : Int => w.1 (16 + k.toNat) (i + q)) n).2.2.1 = nd at *
  generalize (zTx (fun q : Int => w.1 (16 + k.toNat) (i + q)) n).2.2.2 = ng at *
  generalize (fun q : Int => w.1 (16 + k.toNat) (i + q)) = c1 at *
  generalize (fun q : Int => w1.1 50 (60 * k + i + q)) = c2 at *
  have cC : ∀ (i : Nat) (k : Int), i < 33 → zkeep i k = true → w2.1 i k = (if i = 6 ∧ k = 3 then 0 else zHoC w c1 nd ng i k) := fun i' k' q hk => by
    rw [hM1 i' k' hk, if_neg (by omega)]
    unfold zHoM
    rw [if_neg (by omega), if_neg (by omega), if_neg (by omega), if_neg (by omega), if_neg (by omega), if_neg (by omega), if_neg (by omega), if_neg (by omega), if_neg (by omega)]
    exact hC1 i' k' hk
  have cM : ∀ (i : Nat) (k : Int), 33 ≤ i → zkeep i k = true → w2.1 i k = (if i = 33 ∧ k = 29 then 0 else zHoM w1 c2 nd ng i k) := fun i' k' _ hk => hM1 i' k' hk
  have hm3 : (if (33 : Nat) = 33 ∧ (3 : Int) = 29 then (0 : Int) else zHoM w1 c2 nd ng 33 3) = nd := by rw [if_neg (by decide)]; unfold zHoM; rw [if_neg (by decide), if_neg (by decide), if_pos (by decide)]
  have hm6 : (if (33 : Nat) = 33 ∧ (6 : Int) = 29 then (0 : Int) else zHoM w1 c2 nd ng 33 6) = ng := by rw [if_neg (by decide)]; unfold zHoM; rw [if_neg (by decide), if_neg (by decide), if_neg (by decide), if_pos (by decide)]
  have hc2 : (if (1 : Nat) = 6 ∧ (2 : Int) = 3 then (0 : Int) else zHoC w c1 nd ng 1 2) = nd := by rw [if_neg (by decide)]; unfold zHoC; rw [if_neg (by decide), if_neg (by decide), if_pos (by decide)]
  have hc3 : (if (1 : Nat) = 6 ∧ (3 : Int) = 3 then (0 : Int) else zHoC w c1 nd ng 1 3) = ng := by rw [if_neg (by decide)]; unfold zHoC; rw [if_neg (by decide), if_neg (by decide), if_neg (by decide), if_pos (by decide)]
  have hcu : ∀ (i : Nat) (k : Int), 12 ≤ i → i < 33 → (if i = 6 ∧ k = 3 then (0 : Int) else zHoC w c1 nd ng i k) = w.1 i k := fun i' k' z1 z2 => by unfold zHoC; rw [if_neg (by omega), if_neg (by omega), if_neg (by omega), if_neg (by omega), if_neg (by omega), if_neg (by omega), if_neg (by omega), if_neg (by omega), if_neg (by omega), if_neg (by omega)]
  have hmu : ∀ (i : Nat) (k : Int), 45 ≤ i → (if i = 33 ∧ k = 29 then (0 : Int) else zHoM w1 c2 nd ng i k) = w1.1 i k := fun i' k' z1 => by unfold zHoM; rw [if_neg (by omega), if_neg (by omega), if_neg (by omega), if_neg (by omega), if_neg (by omega), if_neg (by omega), if_neg (by omega), if_neg (by omega), if_neg (by omega), if_neg (by omega)]
  exact ⟨(by rw [cC 1 0 (by decide) rfl, cM 33 1 (by decide) rfl]; unfold zHoC zHoM; rw [if_neg (by omega), if_pos ⟨rfl, rfl⟩, if_neg (by omega), if_pos ⟨rfl, rfl⟩, hcc 1 (by omega) (by omega)]),
    (by rw [cC 1 1 (by decide) rfl, cM 33 2 (by decide) rfl]; unfold zHoC zHoM; rw [if_neg (by omega), if_neg (by omega), if_pos ⟨rfl, rfl⟩, if_neg (by omega), if_neg (by omega), if_pos ⟨rfl, rfl⟩, hcc 2 (by omega) (by omega)]),
    (by rw [cC 1 2 (by decide) rfl, cM 33 3 (by decide) rfl]; rw [hm3, hc2]),
    (by rw [cC 1 3 (by decide) rfl, cM 33 6 (by decide) rfl]; rw [hm6, hc3]),
    (by rw [cC 6 3 (by decide) rfl, cM 33 29 (by decide) rfl]; rw [if_pos ⟨rfl, rfl⟩, if_pos ⟨rfl, rfl⟩]),
    (by rw [cC 0 6 (by decide) rfl, cM 33 37 (by decide) rfl]; unfold zHoC zHoM; rw [if_neg (by omega), if_neg (by omega), if_neg (by omega), if_neg (by omega), if_neg (by omega), if_neg (by omega), if_neg (by omega), if_neg (by omega), if_neg (by omega), if_neg (by omega), if_neg (by omega), if_neg (by omega), if_neg (by omega), if_neg (by omega), if_neg (by omega), if_neg (by omega), if_neg (by omega), if_neg (by omega), if_neg (by omega), if_neg (by omega)]; exact hR1.tr),
    (fun q => by rw [cC 7 q (by decide) (by simp [zkeep]), cM 34 q (by decide) (by simp [zkeep])]; unfold zHoC zHoM; rw [if_neg (by omega), if_neg (by omega), if_neg (by omega), if_neg (by omega), if_neg (by omega)]; by_cases z : 0 ≤ q ∧ q < nd; (rw [if_pos ⟨rfl, z⟩, if_neg (by omega), if_neg (by omega), if_neg (by omega), if_neg (by omega), if_neg (by omega), if_pos ⟨rfl, z⟩, hcc (4 + 3 * q) (by omega) (by omega)]); (rw [if_neg (by omega), if_neg (by omega), if_neg (by omega), if_neg (by omega), if_neg (by omega), if_neg (by omega), if_neg (by omega), if_neg (by omega), if_neg (by omega), if_neg (by omega), if_neg (by omega), if_neg (by omega), if_neg (by omega), if_neg (by omega), if_neg (by omega)]; exact hR1.ch q)),
    (fun q => by rw [cC 8 q (by decide) (by simp [zkeep]), cM 35 q (by decide) (by simp [zkeep])]; unfold zHoC zHoM; rw [if_neg (by omega), if_neg (by omega), if_neg (by omega), if_neg (by omega), if_neg (by omega), if_neg (by omega)]; by_cases z : 0 ≤ q ∧ q < nd; (rw [if_pos ⟨rfl, z⟩, if_neg (by omega), if_neg (by omega), if_neg (by omega), if_neg (by omega), if_neg (by omega), if_neg (by omega), if_pos ⟨rfl, z⟩, hcc (5 + 3 * q) (by omega) (by omega)]); (rw [if_neg (by omega), if_neg (by omega), if_neg (by omega), if_neg (by omega), if_neg (by omega), if_neg (by omega), if_neg (by omega), if_neg (by omega), if_neg (by omega), if_neg (by omega), if_neg (by omega), if_neg (by omega), if_neg (by omega), if_neg (by omega)]; exact hR1.co q)),
    (fun q => by rw [cC 9 q (by decide) (by simp [zkeep]), cM 36 q (by decide) (by simp [zkeep])]; unfold zHoC zHoM; rw [if_neg (by omega), if_neg (by omega), if_neg (by omega), if_neg (by omega), if_neg (by omega), if_neg (by omega), if_neg (by omega)]; by_cases z : 0 ≤ q ∧ q < ng; (rw [if_pos ⟨rfl, z⟩, if_neg (by omega), if_neg (by omega), if_neg (by omega), if_neg (by omega), if_neg (by omega), if_neg (by omega), if_neg (by omega), if_pos ⟨rfl, z⟩, hcc (4 + 3 * nd + 4 * q) (by omega) (by omega)]); (rw [if_neg (by omega), if_neg (by omega), if_neg (by omega), if_neg (by omega), if_neg (by omega), if_neg (by omega), if_neg (by omega), if_neg (by omega), if_neg (by omega), if_neg (by omega), if_neg (by omega), if_neg (by omega), if_neg (by omega)]; exact hR1.ki q)),
    (fun q => by rw [cC 10 q (by decide) (by simp [zkeep]), cM 37 q (by decide) (by simp [zkeep])]; unfold zHoC zHoM; rw [if_neg (by omega), if_neg (by omega), if_neg (by omega), if_neg (by omega), if_neg (by omega), if_neg (by omega), if_neg (by omega), if_neg (by omega)]; by_cases z : 0 ≤ q ∧ q < ng; (rw [if_pos ⟨rfl, z⟩, if_neg (by omega), if_neg (by omega), if_neg (by omega), if_neg (by omega), if_neg (by omega), if_neg (by omega), if_neg (by omega), if_neg (by omega), if_pos ⟨rfl, z⟩, hcc (5 + 3 * nd + 4 * q) (by omega) (by omega)]); (rw [if_neg (by omega), if_neg (by omega), if_neg (by omega), if_neg (by omega), if_neg (by omega), if_neg (by omega), if_neg (by omega), if_neg (by omega), if_neg (by omega), if_neg (by omega), if_neg (by omega), if_neg (by omega)]; exact hR1.ta q)),
    (fun q => by rw [cC 11 q (by decide) (by simp [zkeep]), cM 38 q (by decide) (by simp [zkeep])]; unfold zHoC zHoM; rw [if_neg (by omega), if_neg (by omega), if_neg (by omega), if_neg (by omega), if_neg (by omega), if_neg (by omega), if_neg (by omega), if_neg (by omega), if_neg (by omega)]; by_cases z : 0 ≤ q ∧ q < ng; (rw [if_pos ⟨rfl, z⟩, if_neg (by omega), if_neg (by omega), if_neg (by omega), if_neg (by omega), if_neg (by omega), if_neg (by omega), if_neg (by omega), if_neg (by omega), if_neg (by omega), if_pos ⟨rfl, z⟩, hcc (6 + 3 * nd + 4 * q) (by omega) (by omega)]); (rw [if_neg (by omega), if_neg (by omega), if_neg (by omega), if_neg (by omega), if_neg (by omega), if_neg (by omega), if_neg (by omega), if_neg (by omega), if_neg (by omega), if_neg (by omega), if_neg (by omega)]; exact hR1.lo q)),
    (fun q => by rw [cC 30 q (by decide) (by simp [zkeep]), cM 45 q (by decide) (by simp [zkeep])]; rw [hcu 30 q (by decide) (by decide), hmu 45 q (by decide)]; exact hR1.lg q),
    (fun q => by rw [cC 31 q (by decide) (by simp [zkeep]), cM 46 q (by decide) (by simp [zkeep])]; rw [hcu 31 q (by decide) (by decide), hmu 46 q (by decide)]; exact hR1.ld q),
    (fun q => by rw [cC 32 q (by decide) (by simp [zkeep]), cM 47 q (by decide) (by simp [zkeep])]; rw [hcu 32 q (by decide) (by decide), hmu 47 q (by decide)]; exact hR1.ll q),
    (fun q => by have e := hR1.sz q; unfold zSz at e ⊢; rw [cC 13 q (by decide) (by simp [zkeep]), cC 15 q (by decide) (by simp [zkeep]), cM 48 q (by decide) (by simp [zkeep]), hcu 13 q (by decide) (by decide), hcu 15 q (by decide) (by decide), hmu 48 q (by decide)]; exact e),
    (fun q => by rw [cC 14 q (by decide) (by simp [zkeep]), cM 49 q (by decide) (by simp [zkeep])]; rw [hcu 14 q (by decide) (by decide), hmu 49 q (by decide)]; exact hR1.ln q),
    (fun q jj q0 q1 j0 j1 => by rw [cC (16 + q.toNat) jj (by omega) (zkeep_row q0 q1 jj), cM 50 (60 * q + jj) (by decide) (by simp [zkeep]), hcu (16 + q.toNat) jj (by omega) (by omega), hmu 50 (60 * q + jj) (by decide)]; exact hR1.row q jj q0 q1 j0 j1),
    (by rw [cM 33 6 (by decide) rfl, cM 33 3 (by decide) rfl, hm6, hm3]; exact Or.inr d1)⟩
set_option maxHeartbeats 4000000 in
theorem k_ofGuest {w w1 w2 : zW} {g what : Int} {rc rm : Int} (hR : zRel w w) (hO : zOk w) (hO1 : zOk w1) (hC : w = w1 ∧ rc = fOfGuest (w.1 1 3) (w.1 9 g) (w.1 10 g) (w.1 11 g) g what) (hM : w1 = w2 ∧ rm = fOfGuest (w1.1 33 6) (w1.1 36 g) (w1.1 37 g) (w1.1 38 g) g what) : zRel w2 w2 := by
  obtain ⟨rfl, _⟩ := hC
  obtain ⟨rfl, _⟩ := hM
  exact hR
set_option maxHeartbeats 4000000 in
theorem k_ofDoing {w w1 w2 : zW} {d what : Int} {rc rm : Int} (hR : zRel w w) (hO : zOk w) (hO1 : zOk w1) (hC : w = w1 ∧ rc = fOfGuest (w.1 1 2) (w.1 7 d) (w.1 8 d) (zWC w d) d what) (hM : w1 = w2 ∧ rm = fOfGuest (w1.1 33 3) (w1.1 34 d) (w1.1 35 d) (zWMo w1 d) d what) : zRel w2 w2 := by
  obtain ⟨rfl, _⟩ := hC
  obtain ⟨rfl, _⟩ := hM
  exact hR
set_option maxHeartbeats 4000000 in
theorem k_strict {w w1 w2 : zW} {v : Int} {rc rm : Int} (hR : zRel w w) (hO : zOk w) (hO1 : zOk w1) (hC : rc = fStrict (w.1 1 3) (w.1 1 1) v ∧ ∀ i k, w1.1 i k = (if i = 1 ∧ k = 1 ∧ 1 ≤ v ∧ v ≤ 9 ∧ 0 < w.1 1 3 then v else w.1 i k)) (hM : rm = fStrict (w1.1 33 6) (w1.1 33 2) v ∧ ∀ i k, w2.1 i k = (if i = 33 ∧ k = 2 ∧ 1 ≤ v ∧ v ≤ 9 ∧ 0 < w1.1 33 6 then v else w1.1 i k)) : zRel w2 w2 := by
  obtain ⟨ha, hE⟩ := hC
  have hb := hM.1
  have hR1 : zRel w w1 := hR.m (fun i' k' q hk => by rw [hE i' k']; (repeat' split) <;> first | rfl | (exfalso; omega))
  have hE2 := hM.2
  have eg := hR1.gs
  have ed := hR1.ds
  have er := hR1.rs
  have cC := hE
  have cM := hE2
  have cK : ∀ (i : Nat) (k : Int), i < 33 → zkeep i k = true → w2.1 i k = w1.1 i k := fun i' k' q hk => by rw [hE2 i' k']; (repeat' split) <;> first | rfl | (exfalso; omega)
  exact ⟨(by rw [cK 1 0 (by decide) rfl, cC 1 0, cM 33 1]; rw [if_neg (by omega), if_neg (by omega)]; exact hR1.st),
    (by rw [cK 1 1 (by decide) rfl, cC 1 1, cM 33 2]; have e := hR1.sr; (repeat' split) <;> first | exact e | rfl | omega),
    (by rw [cK 1 2 (by decide) rfl, cC 1 2, cM 33 3]; rw [if_neg (by omega), if_neg (by omega)]; exact hR1.ds),
    (by rw [cK 1 3 (by decide) rfl, cC 1 3, cM 33 6]; rw [if_neg (by omega), if_neg (by omega)]; exact hR1.gs),
    (by rw [cK 6 3 (by decide) rfl, cC 6 3, cM 33 29]; rw [if_neg (by omega), if_neg (by omega)]; exact hR1.rs),
    (by rw [cK 0 6 (by decide) rfl, cC 0 6, cM 33 37]; rw [if_neg (by omega), if_neg (by omega)]; exact hR1.tr),
    (fun q => by rw [cK 7 q (by decide) (by simp [zkeep]), cC 7 q, cM 34 q]; rw [if_neg (by omega), if_neg (by omega)]; exact hR1.ch q),
    (fun q => by rw [cK 8 q (by decide) (by simp [zkeep]), cC 8 q, cM 35 q]; rw [if_neg (by omega), if_neg (by omega)]; exact hR1.co q),
    (fun q => by rw [cK 9 q (by decide) (by simp [zkeep]), cC 9 q, cM 36 q]; rw [if_neg (by omega), if_neg (by omega)]; exact hR1.ki q),
    (fun q => by rw [cK 10 q (by decide) (by simp [zkeep]), cC 10 q, cM 37 q]; rw [if_neg (by omega), if_neg (by omega)]; exact hR1.ta q),
    (fun q => by rw [cK 11 q (by decide) (by simp [zkeep]), cC 11 q, cM 38 q]; rw [if_neg (by omega), if_neg (by omega)]; exact hR1.lo q),
    (fun q => by rw [cK 30 q (by decide) (by simp [zkeep]), cC 30 q, cM 45 q]; rw [if_neg (by omega), if_neg (by omega)]; exact hR1.lg q),
    (fun q => by rw [cK 31 q (by decide) (by simp [zkeep]), cC 31 q, cM 46 q]; rw [if_neg (by omega), if_neg (by omega)]; exact hR1.ld q),
    (fun q => by rw [cK 32 q (by decide) (by simp [zkeep]), cC 32 q, cM 47 q]; rw [if_neg (by omega), if_neg (by omega)]; exact hR1.ll q),
    (fun q => by have e := hR1.sz q; unfold zSz at e ⊢; rw [cK 13 q (by decide) (by simp [zkeep]), cC 13 q, cK 15 q (by decide) (by simp [zkeep]), cC 15 q, cM 48 q, if_neg (show ¬ ((13 : Nat) = 1 ∧ q = 1 ∧ 1 ≤ v ∧ v ≤ 9 ∧ 0 < w.1 1 3) by omega), if_neg (show ¬ ((15 : Nat) = 1 ∧ q = 1 ∧ 1 ≤ v ∧ v ≤ 9 ∧ 0 < w.1 1 3) by omega), if_neg (show ¬ ((48 : Nat) = 33 ∧ q = 2 ∧ 1 ≤ v ∧ v ≤ 9 ∧ 0 < w1.1 33 6) by omega)]; exact e),
    (fun q => by rw [cK 14 q (by decide) (by simp [zkeep]), cC 14 q, cM 49 q]; rw [if_neg (by omega), if_neg (by omega)]; exact hR1.ln q),
    (fun q j q0 q1 j0 j1 => by rw [cK (16 + q.toNat) j (by omega) (zkeep_row q0 q1 j), cC (16 + q.toNat) j, cM 50 (60 * q + j)]; rw [if_neg (by omega), if_neg (by omega)]; exact hR1.row q j q0 q1 j0 j1),
    (by rw [cM 33 6, cM 33 3]; rw [if_neg (by omega), if_neg (by omega)]; exact hR1.ng)⟩
set_option maxHeartbeats 4000000 in
theorem k_stars {w w1 w2 : zW} {v : Int} {rc rm : Int} (hR : zRel w w) (hO : zOk w) (hO1 : zOk w1) (hC : rc = fStars (w.1 1 3) (w.1 1 0) v ∧ ∀ i k, w1.1 i k = (if i = 1 ∧ k = 0 ∧ 0 ≤ v ∧ v ≤ 5 ∧ 0 < w.1 1 3 then v else w.1 i k)) (hM : rm = fStars (w1.1 33 6) (w1.1 33 1) v ∧ ∀ i k, w2.1 i k = (if i = 33 ∧ k = 1 ∧ 0 ≤ v ∧ v ≤ 5 ∧ 0 < w1.1 33 6 then v else w1.1 i k)) : zRel w2 w2 := by
  obtain ⟨ha, hE⟩ := hC
  have hb := hM.1
  have hR1 : zRel w w1 := hR.m (fun i' k' q hk => by rw [hE i' k']; (repeat' split) <;> first | rfl | (exfalso; omega))
  have hE2 := hM.2
  have eg := hR1.gs
  have ed := hR1.ds
  have er := hR1.rs
  have cC := hE
  have cM := hE2
  have cK : ∀ (i : Nat) (k : Int), i < 33 → zkeep i k = true → w2.1 i k = w1.1 i k := fun i' k' q hk => by rw [hE2 i' k']; (repeat' split) <;> first | rfl | (exfalso; omega)
  exact ⟨(by rw [cK 1 0 (by decide) rfl, cC 1 0, cM 33 1]; have e := hR1.st; (repeat' split) <;> first | exact e | rfl | omega),
    (by rw [cK 1 1 (by decide) rfl, cC 1 1, cM 33 2]; rw [if_neg (by omega), if_neg (by omega)]; exact hR1.sr),
    (by rw [cK 1 2 (by decide) rfl, cC 1 2, cM 33 3]; rw [if_neg (by omega), if_neg (by omega)]; exact hR1.ds),
    (by rw [cK 1 3 (by decide) rfl, cC 1 3, cM 33 6]; rw [if_neg (by omega), if_neg (by omega)]; exact hR1.gs),
    (by rw [cK 6 3 (by decide) rfl, cC 6 3, cM 33 29]; rw [if_neg (by omega), if_neg (by omega)]; exact hR1.rs),
    (by rw [cK 0 6 (by decide) rfl, cC 0 6, cM 33 37]; rw [if_neg (by omega), if_neg (by omega)]; exact hR1.tr),
    (fun q => by rw [cK 7 q (by decide) (by simp [zkeep]), cC 7 q, cM 34 q]; rw [if_neg (by omega), if_neg (by omega)]; exact hR1.ch q),
    (fun q => by rw [cK 8 q (by decide) (by simp [zkeep]), cC 8 q, cM 35 q]; rw [if_neg (by omega), if_neg (by omega)]; exact hR1.co q),
    (fun q => by rw [cK 9 q (by decide) (by simp [zkeep]), cC 9 q, cM 36 q]; rw [if_neg (by omega), if_neg (by omega)]; exact hR1.ki q),
    (fun q => by rw [cK 10 q (by decide) (by simp [zkeep]), cC 10 q, cM 37 q]; rw [if_neg (by omega), if_neg (by omega)]; exact hR1.ta q),
    (fun q => by rw [cK 11 q (by decide) (by simp [zkeep]), cC 11 q, cM 38 q]; rw [if_neg (by omega), if_neg (by omega)]; exact hR1.lo q),
    (fun q => by rw [cK 30 q (by decide) (by simp [zkeep]), cC 30 q, cM 45 q]; rw [if_neg (by omega), if_neg (by omega)]; exact hR1.lg q),
    (fun q => by rw [cK 31 q (by decide) (by simp [zkeep]), cC 31 q, cM 46 q]; rw [if_neg (by omega), if_neg (by omega)]; exact hR1.ld q),
    (fun q => by rw [cK 32 q (by decide) (by simp [zkeep]), cC 32 q, cM 47 q]; rw [if_neg (by omega), if_neg (by omega)]; exact hR1.ll q),
    (fun q => by have e := hR1.sz q; unfold zSz at e ⊢; rw [cK 13 q (by decide) (by simp [zkeep]), cC 13 q, cK 15 q (by decide) (by simp [zkeep]), cC 15 q, cM 48 q, if_neg (show ¬ ((13 : Nat) = 1 ∧ q = 0 ∧ 0 ≤ v ∧ v ≤ 5 ∧ 0 < w.1 1 3) by omega), if_neg (show ¬ ((15 : Nat) = 1 ∧ q = 0 ∧ 0 ≤ v ∧ v ≤ 5 ∧ 0 < w.1 1 3) by omega), if_neg (show ¬ ((48 : Nat) = 33 ∧ q = 1 ∧ 0 ≤ v ∧ v ≤ 5 ∧ 0 < w1.1 33 6) by omega)]; exact e),
    (fun q => by rw [cK 14 q (by decide) (by simp [zkeep]), cC 14 q, cM 49 q]; rw [if_neg (by omega), if_neg (by omega)]; exact hR1.ln q),
    (fun q j q0 q1 j0 j1 => by rw [cK (16 + q.toNat) j (by omega) (zkeep_row q0 q1 j), cC (16 + q.toNat) j, cM 50 (60 * q + j)]; rw [if_neg (by omega), if_neg (by omega)]; exact hR1.row q j q0 q1 j0 j1),
    (by rw [cM 33 6, cM 33 3]; rw [if_neg (by omega), if_neg (by omega)]; exact hR1.ng)⟩
set_option maxHeartbeats 4000000 in
theorem k_pleased {w w1 w2 : zW} {g d : Int} {rc rm : Int} (hR : zRel w w) (hO : zOk w) (hO1 : zOk w1) (hC : w = w1 ∧ rc = fPleased (w.1 1 3) (w.1 1 2) (zPC w g d) g d) (hM : w1 = w2 ∧ rm = fPleased (w1.1 33 6) (w1.1 33 3) (zPM w1 g d) g d) : zRel w2 w2 := by
  obtain ⟨rfl, _⟩ := hC
  obtain ⟨rfl, _⟩ := hM
  exact hR
set_option maxHeartbeats 4000000 in
theorem k_season {w w1 w2 : zW} {g k lane i n what : Int} {rc rm : Int} (hR : zRel w w) (hO : zOk w) (hO1 : zOk w1) (hC : rc = (if g < 0 ∨ w.1 1 3 ≤ g ∨ k < 0 ∨ 4 ≤ k then -1 else if lane < 0 ∨ 2 < lane ∨ n < 0 ∨ 20 < n ∨ what < 0 ∨ 4 < what then -2 else if ¬ fPairs (w.1 1 3) (w.1 1 2) (zSz w k) (w.1 14 k) lane i n (fun j => w.1 (16 + k.toNat) (i + j)) = 0 then fPairs (w.1 1 3) (w.1 1 2) (zSz w k) (w.1 14 k) lane i n (fun j => w.1 (16 + k.toNat) (i + j)) else if what = 1 then (zSeaC w (16 + k.toNat) i g n.toNat).2.1 else if ¬ (zSeaC w (16 + k.toNat) i g n.toNat).2.1 = -9 then -100 - (zSeaC w (16 + k.toNat) i g n.toNat).2.1 else if what = 0 then (zSeaC w (16 + k.toNat) i g n.toNat).1 else if what = 2 then (zSeaC w (16 + k.toNat) i g n.toNat).2.2.1 else if what = 3 then (zSeaC w (16 + k.toNat) i g n.toNat).2.2.2.1 else (zSeaC w (16 + k.toNat) i g n.toNat).2.2.2.2) ∧ zEq w w1) (hM : rm = (if g < 0 ∨ w1.1 33 6 ≤ g ∨ k < 0 ∨ 4 ≤ k then -1 else if lane < 0 ∨ 2 < lane ∨ n < 0 ∨ 20 < n ∨ what < 0 ∨ 4 < what then -2 else if ¬ fPairs (w1.1 33 6) (w1.1 33 3) (w1.1 48 k) (w1.1 49 k) lane i n (fun j => w1.1 50 (60 * k + i + j)) = 0 then fPairs (w1.1 33 6) (w1.1 33 3) (w1.1 48 k) (w1.1 49 k) lane i n (fun j => w1.1 50 (60 * k + i + j)) else if what = 1 then (zSeaM w1 (60 * k + i) g n.toNat).2.1 else if ¬ (zSeaM w1 (60 * k + i) g n.toNat).2.1 = -9 then -100 - (zSeaM w1 (60 * k + i) g n.toNat).2.1 else if what = 0 then (zSeaM w1 (60 * k + i) g n.toNat).1 else if what = 2 then (zSeaM w1 (60 * k + i) g n.toNat).2.2.1 else if what = 3 then (zSeaM w1 (60 * k + i) g n.toNat).2.2.2.1 else (zSeaM w1 (60 * k + i) g n.toNat).2.2.2.2) ∧ zEq w1 w2) : zRel w2 w2 := by
  exact (hR.eq hC.2).eq hM.2
set_option maxHeartbeats 4000000 in
theorem k_may {w w1 w2 : zW} {k lane i n v : Int} {rc rm : Int} (hR : zRel w w) (hO : zOk w) (hO1 : zOk w1) (hC : rc = (if ¬ (if k < 0 ∨ 4 ≤ k then -1 else if lane < 0 ∨ 2 < lane ∨ n < 0 ∨ 20 < n ∨ v < 0 ∨ 5 < v then -2 else if w.1 1 3 = 0 then -3 else fPairs (w.1 1 3) (w.1 1 2) (zSz w k) (w.1 14 k) lane i n (fun j => w.1 (16 + k.toNat) (i + j))) = 0 then (if k < 0 ∨ 4 ≤ k then -1 else if lane < 0 ∨ 2 < lane ∨ n < 0 ∨ 20 < n ∨ v < 0 ∨ 5 < v then -2 else if w.1 1 3 = 0 then -3 else fPairs (w.1 1 3) (w.1 1 2) (zSz w k) (w.1 14 k) lane i n (fun j => w.1 (16 + k.toNat) (i + j))) else if ¬ (zSeaC w (16 + k.toNat) i 0 n.toNat).2.1 = -9 then -100 - (zSeaC w (16 + k.toNat) i 0 n.toNat).2.1 else zSet (fun g => decide ((zSeaC w (16 + k.toNat) i g n.toNat).1 = v)) (w.1 1 3).toNat) ∧ zEq w w1) (hM : rm = (if ¬ (if k < 0 ∨ 4 ≤ k then -1 else if lane < 0 ∨ 2 < lane ∨ n < 0 ∨ 20 < n ∨ v < 0 ∨ 5 < v then -2 else if w1.1 33 6 = 0 then -3 else fPairs (w1.1 33 6) (w1.1 33 3) (w1.1 48 k) (w1.1 49 k) lane i n (fun j => w1.1 50 (60 * k + i + j))) = 0 then (if k < 0 ∨ 4 ≤ k then -1 else if lane < 0 ∨ 2 < lane ∨ n < 0 ∨ 20 < n ∨ v < 0 ∨ 5 < v then -2 else if w1.1 33 6 = 0 then -3 else fPairs (w1.1 33 6) (w1.1 33 3) (w1.1 48 k) (w1.1 49 k) lane i n (fun j => w1.1 50 (60 * k + i + j))) else if ¬ (zSeaM w1 (60 * k + i) 0 n.toNat).2.1 = -9 then -100 - (zSeaM w1 (60 * k + i) 0 n.toNat).2.1 else zSet (fun g => decide ((zSeaM w1 (60 * k + i) g n.toNat).1 = v)) (w1.1 33 6).toNat) ∧ zEq w1 w2) : zRel w2 w2 := by
  exact (hR.eq hC.2).eq hM.2
set_option maxHeartbeats 4000000 in
theorem k_ask {w w1 w2 : zW} {set : Int} {rc rm : Int} (hR : zRel w w) (hO : zOk w) (hO1 : zOk w1) (hC : w = w1 ∧ rc = (if w.1 1 3 = 0 then -3 else if set < 0 ∨ zshl 1 (w.1 1 3) ≤ set then -2 else (zAsk (fun d => ziand set (zWC w d)) (fun d => w.1 8 d) 13 (w.1 1 2).toNat).1)) (hM : w1 = w2 ∧ rm = (if w1.1 33 6 = 0 then -3 else if set < 0 ∨ zshl 1 (w1.1 33 6) ≤ set then -2 else (zAsk (fun d => ziand set (zWMo w1 d)) (fun d => w1.1 35 d) 99 (w1.1 33 3).toNat).1)) : zRel w2 w2 := by
  obtain ⟨rfl, _⟩ := hC
  obtain ⟨rfl, _⟩ := hM
  exact hR
set_option maxHeartbeats 4000000 in
theorem k_dull {w w1 w2 : zW} {g : Int} {rc rm : Int} (hR : zRel w w) (hO : zOk w) (hO1 : zOk w1) (hC : w = w1 ∧ rc = (if g < 0 ∨ w.1 1 3 ≤ g then -1 else (zDul (fun d => zPC w g d) (w.1 1 1) (w.1 1 2).toNat).1)) (hM : w1 = w2 ∧ rm = (if g < 0 ∨ w1.1 33 6 ≤ g then -1 else (zDul (fun d => zPM w1 g d) (w1.1 33 2) (w1.1 33 3).toNat).1)) : zRel w2 w2 := by
  obtain ⟨rfl, _⟩ := hC
  obtain ⟨rfl, _⟩ := hM
  exact hR
set_option maxHeartbeats 4000000 in
theorem k_fewest {w w1 w2 : zW} {g : Int} {rc rm : Int} (hR : zRel w w) (hO : zOk w) (hO1 : zOk w1) (hC : rc = (if g < -1 then -1 else if w.1 1 3 = 0 then -3 else if w.1 1 3 ≤ g ∨ zLC w (w.1 1 3).toNat 12 = 1000000 then -9 else if g < 0 then zWnC w (w.1 1 3).toNat else zDgC w g) ∧ zEq w w1) (hM : zEq w1 w2 ∧ ((g < -1 ∧ rm = -1) ∨ (-1 ≤ g ∧ w1.1 33 6 = 0 ∧ rm = -3) ∨ (-1 ≤ g ∧ 0 < w1.1 33 6))) : zRel w2 w2 := by
  exact (hR.eq hC.2).eq hM.1
set_option maxHeartbeats 4000000 in
theorem k_reading {w w1 w2 : zW} {g d b : Int} {rc rm : Int} (hR : zRel w w) (hO : zOk w) (hO1 : zOk w1) (hC : rc = fReading (w.1 1 3) (w.1 1 2) (w.1 6 3) g d ∧ ∀ i k, w1.1 i k = (if 0 ≤ g ∧ g < w.1 1 3 ∧ 0 ≤ d ∧ d < w.1 1 2 ∧ w.1 6 3 < 8 then (if i = 6 ∧ k = 3 then w.1 6 3 + 1 else if i = 32 ∧ k = w.1 6 3 then b else if i = 31 ∧ k = w.1 6 3 then d else if i = 30 ∧ k = w.1 6 3 then g else w.1 i k) else w.1 i k)) (hM : rm = fReading (w1.1 33 6) (w1.1 33 3) (w1.1 33 29) g d ∧ ∀ i k, w2.1 i k = (if 0 ≤ g ∧ g < w1.1 33 6 ∧ 0 ≤ d ∧ d < w1.1 33 3 ∧ w1.1 33 29 < 8 then (if i = 33 ∧ k = 29 then w1.1 33 29 + 1 else if i = 47 ∧ k = w1.1 33 29 then b else if i = 46 ∧ k = w1.1 33 29 then d else if i = 45 ∧ k = w1.1 33 29 then g else w1.1 i k) else w1.1 i k)) : zRel w2 w2 := by
  obtain ⟨ha, hE⟩ := hC
  have hb := hM.1
  have hR1 : zRel w w1 := hR.m (fun i' k' q hk => by rw [hE i' k']; (repeat' split) <;> first | rfl | (exfalso; omega))
  have eg := hR1.gs
  have ed := hR1.ds
  have er := hR1.rs
  have hE2 := hM.2
  rcases Classical.em (0 ≤ g ∧ g < w.1 1 3 ∧ 0 ≤ d ∧ d < w.1 1 2 ∧ w.1 6 3 < 8) with hc | hc
  · have hc2 : 0 ≤ g ∧ g < w1.1 33 6 ∧ 0 ≤ d ∧ d < w1.1 33 3 ∧ w1.1 33 29 < 8 := by omega
    simp only [if_pos hc] at hE
    simp only [if_pos hc2] at hE2
    replace hM := And.intro hM.1 hE2
    have hE2 := hM.2
    have cC := hE
    have cM := hE2
    have cK : ∀ (i : Nat) (k : Int), i < 33 → zkeep i k = true → w2.1 i k = w1.1 i k := fun i' k' q hk => by rw [hE2 i' k']; (repeat' split) <;> first | rfl | (exfalso; omega)
    exact ⟨(by rw [cK 1 0 (by decide) rfl, cC 1 0, cM 33 1]; rw [if_neg (by omega), if_neg (by omega), if_neg (by omega), if_neg (by omega), if_neg (by omega), if_neg (by omega), if_neg (by omega), if_neg (by omega)]; exact hR1.st),
      (by rw [cK 1 1 (by decide) rfl, cC 1 1, cM 33 2]; rw [if_neg (by omega), if_neg (by omega), if_neg (by omega), if_neg (by omega), if_neg (by omega), if_neg (by omega), if_neg (by omega), if_neg (by omega)]; exact hR1.sr),
      (by rw [cK 1 2 (by decide) rfl, cC 1 2, cM 33 3]; rw [if_neg (by omega), if_neg (by omega), if_neg (by omega), if_neg (by omega), if_neg (by omega), if_neg (by omega), if_neg (by omega), if_neg (by omega)]; exact hR1.ds),
      (by rw [cK 1 3 (by decide) rfl, cC 1 3, cM 33 6]; rw [if_neg (by omega), if_neg (by omega), if_neg (by omega), if_neg (by omega), if_neg (by omega), if_neg (by omega), if_neg (by omega), if_neg (by omega)]; exact hR1.gs),
      (by rw [cK 6 3 (by decide) rfl, cC 6 3, cM 33 29]; have e := hR1.rs; (repeat' split) <;> first | exact e | rfl | omega),
      (by rw [cK 0 6 (by decide) rfl, cC 0 6, cM 33 37]; rw [if_neg (by omega), if_neg (by omega), if_neg (by omega), if_neg (by omega), if_neg (by omega), if_neg (by omega), if_neg (by omega), if_neg (by omega)]; exact hR1.tr),
      (fun q => by rw [cK 7 q (by decide) (by simp [zkeep]), cC 7 q, cM 34 q]; rw [if_neg (by omega), if_neg (by omega), if_neg (by omega), if_neg (by omega), if_neg (by omega), if_neg (by omega), if_neg (by omega), if_neg (by omega)]; exact hR1.ch q),
      (fun q => by rw [cK 8 q (by decide) (by simp [zkeep]), cC 8 q, cM 35 q]; rw [if_neg (by omega), if_neg (by omega), if_neg (by omega), if_neg (by omega), if_neg (by omega), if_neg (by omega), if_neg (by omega), if_neg (by omega)]; exact hR1.co q),
      (fun q => by rw [cK 9 q (by decide) (by simp [zkeep]), cC 9 q, cM 36 q]; rw [if_neg (by omega), if_neg (by omega), if_neg (by omega), if_neg (by omega), if_neg (by omega), if_neg (by omega), if_neg (by omega), if_neg (by omega)]; exact hR1.ki q),
      (fun q => by rw [cK 10 q (by decide) (by simp [zkeep]), cC 10 q, cM 37 q]; rw [if_neg (by omega), if_neg (by omega), if_neg (by omega), if_neg (by omega), if_neg (by omega), if_neg (by omega), if_neg (by omega), if_neg (by omega)]; exact hR1.ta q),
      (fun q => by rw [cK 11 q (by decide) (by simp [zkeep]), cC 11 q, cM 38 q]; rw [if_neg (by omega), if_neg (by omega), if_neg (by omega), if_neg (by omega), if_neg (by omega), if_neg (by omega), if_neg (by omega), if_neg (by omega)]; exact hR1.lo q),
      (fun q => by rw [cK 30 q (by decide) (by simp [zkeep]), cC 30 q, cM 45 q]; have e := hR1.lg q; (repeat' split) <;> first | exact e | rfl | omega),
      (fun q => by rw [cK 31 q (by decide) (by simp [zkeep]), cC 31 q, cM 46 q]; have e := hR1.ld q; (repeat' split) <;> first | exact e | rfl | omega),
      (fun q => by rw [cK 32 q (by decide) (by simp [zkeep]), cC 32 q, cM 47 q]; have e := hR1.ll q; (repeat' split) <;> first | exact e | rfl | omega),
      (fun q => by have e := hR1.sz q; unfold zSz at e ⊢; rw [cK 13 q (by decide) (by simp [zkeep]), cC 13 q, cK 15 q (by decide) (by simp [zkeep]), cC 15 q, cM 48 q, if_neg (show ¬ ((13 : Nat) = 6 ∧ q = 3) by omega), if_neg (show ¬ ((13 : Nat) = 32 ∧ q = w.1 6 3) by omega), if_neg (show ¬ ((13 : Nat) = 31 ∧ q = w.1 6 3) by omega), if_neg (show ¬ ((13 : Nat) = 30 ∧ q = w.1 6 3) by omega), if_neg (show ¬ ((15 : Nat) = 6 ∧ q = 3) by omega), if_neg (show ¬ ((15 : Nat) = 32 ∧ q = w.1 6 3) by omega), if_neg (show ¬ ((15 : Nat) = 31 ∧ q = w.1 6 3) by omega), if_neg (show ¬ ((15 : Nat) = 30 ∧ q = w.1 6 3) by omega), if_neg (show ¬ ((48 : Nat) = 33 ∧ q = 29) by omega), if_neg (show ¬ ((48 : Nat) = 47 ∧ q = w1.1 33 29) by omega), if_neg (show ¬ ((48 : Nat) = 46 ∧ q = w1.1 33 29) by omega), if_neg (show ¬ ((48 : Nat) = 45 ∧ q = w1.1 33 29) by omega)]; exact e),
      (fun q => by rw [cK 14 q (by decide) (by simp [zkeep]), cC 14 q, cM 49 q]; rw [if_neg (by omega), if_neg (by omega), if_neg (by omega), if_neg (by omega), if_neg (by omega), if_neg (by omega), if_neg (by omega), if_neg (by omega)]; exact hR1.ln q),
      (fun q j q0 q1 j0 j1 => by rw [cK (16 + q.toNat) j (by omega) (zkeep_row q0 q1 j), cC (16 + q.toNat) j, cM 50 (60 * q + j)]; rw [if_neg (by omega), if_neg (by omega), if_neg (by omega), if_neg (by omega), if_neg (by omega), if_neg (by omega), if_neg (by omega), if_neg (by omega)]; exact hR1.row q j q0 q1 j0 j1),
      (by rw [cM 33 6, cM 33 3]; rw [if_neg (by omega), if_neg (by omega), if_neg (by omega), if_neg (by omega), if_neg (by omega), if_neg (by omega), if_neg (by omega), if_neg (by omega)]; exact hR1.ng)⟩
  · have hc2 : ¬ (0 ≤ g ∧ g < w1.1 33 6 ∧ 0 ≤ d ∧ d < w1.1 33 3 ∧ w1.1 33 29 < 8) := by omega
    simp only [if_neg hc] at hE
    simp only [if_neg hc2] at hE2
    exact (hR.eq (fun i' k' _ => hE i' k')).eq (fun i' k' _ => hE2 i' k')
set_option maxHeartbeats 4000000 in
theorem k_back {w w1 w2 : zW} {k : Int} {rc rm : Int} (hR : zRel w w) (hO : zOk w) (hO1 : zOk w1) (hC : rc = fBack (w.1 6 3) k ∧ (∀ i j, w1.1 i j = (if i = 6 ∧ j = 3 ∧ 0 ≤ k ∧ k ≤ w.1 6 3 then w.1 6 3 - k else w.1 i j))) (hM : rm = fBack (w1.1 33 29) k ∧ (∀ i j, w2.1 i j = (if i = 33 ∧ j = 29 ∧ 0 ≤ k ∧ k ≤ w1.1 33 29 then w1.1 33 29 - k else w1.1 i j))) : zRel w2 w2 := by
  obtain ⟨ha, hE⟩ := hC
  have hb := hM.1
  have hR1 : zRel w w1 := hR.m (fun i' k' q hk => by rw [hE i' k']; (repeat' split) <;> first | rfl | (exfalso; omega))
  have hE2 := hM.2
  have eg := hR1.gs
  have ed := hR1.ds
  have er := hR1.rs
  have cC := hE
  have cM := hE2
  have cK : ∀ (i : Nat) (k : Int), i < 33 → zkeep i k = true → w2.1 i k = w1.1 i k := fun i' k' q hk => by rw [hE2 i' k']; (repeat' split) <;> first | rfl | (exfalso; omega)
  exact ⟨(by rw [cK 1 0 (by decide) rfl, cC 1 0, cM 33 1]; rw [if_neg (by omega), if_neg (by omega)]; exact hR1.st),
    (by rw [cK 1 1 (by decide) rfl, cC 1 1, cM 33 2]; rw [if_neg (by omega), if_neg (by omega)]; exact hR1.sr),
    (by rw [cK 1 2 (by decide) rfl, cC 1 2, cM 33 3]; rw [if_neg (by omega), if_neg (by omega)]; exact hR1.ds),
    (by rw [cK 1 3 (by decide) rfl, cC 1 3, cM 33 6]; rw [if_neg (by omega), if_neg (by omega)]; exact hR1.gs),
    (by rw [cK 6 3 (by decide) rfl, cC 6 3, cM 33 29]; have e := hR1.rs; (repeat' split) <;> first | exact e | rfl | omega),
    (by rw [cK 0 6 (by decide) rfl, cC 0 6, cM 33 37]; rw [if_neg (by omega), if_neg (by omega)]; exact hR1.tr),
    (fun q => by rw [cK 7 q (by decide) (by simp [zkeep]), cC 7 q, cM 34 q]; rw [if_neg (by omega), if_neg (by omega)]; exact hR1.ch q),
    (fun q => by rw [cK 8 q (by decide) (by simp [zkeep]), cC 8 q, cM 35 q]; rw [if_neg (by omega), if_neg (by omega)]; exact hR1.co q),
    (fun q => by rw [cK 9 q (by decide) (by simp [zkeep]), cC 9 q, cM 36 q]; rw [if_neg (by omega), if_neg (by omega)]; exact hR1.ki q),
    (fun q => by rw [cK 10 q (by decide) (by simp [zkeep]), cC 10 q, cM 37 q]; rw [if_neg (by omega), if_neg (by omega)]; exact hR1.ta q),
    (fun q => by rw [cK 11 q (by decide) (by simp [zkeep]), cC 11 q, cM 38 q]; rw [if_neg (by omega), if_neg (by omega)]; exact hR1.lo q),
    (fun q => by rw [cK 30 q (by decide) (by simp [zkeep]), cC 30 q, cM 45 q]; rw [if_neg (by omega), if_neg (by omega)]; exact hR1.lg q),
    (fun q => by rw [cK 31 q (by decide) (by simp [zkeep]), cC 31 q, cM 46 q]; rw [if_neg (by omega), if_neg (by omega)]; exact hR1.ld q),
    (fun q => by rw [cK 32 q (by decide) (by simp [zkeep]), cC 32 q, cM 47 q]; rw [if_neg (by omega), if_neg (by omega)]; exact hR1.ll q),
    (fun q => by have e := hR1.sz q; unfold zSz at e ⊢; rw [cK 13 q (by decide) (by simp [zkeep]), cC 13 q, cK 15 q (by decide) (by simp [zkeep]), cC 15 q, cM 48 q, if_neg (show ¬ ((13 : Nat) = 6 ∧ q = 3 ∧ 0 ≤ k ∧ k ≤ w.1 6 3) by omega), if_neg (show ¬ ((15 : Nat) = 6 ∧ q = 3 ∧ 0 ≤ k ∧ k ≤ w.1 6 3) by omega), if_neg (show ¬ ((48 : Nat) = 33 ∧ q = 29 ∧ 0 ≤ k ∧ k ≤ w1.1 33 29) by omega)]; exact e),
    (fun q => by rw [cK 14 q (by decide) (by simp [zkeep]), cC 14 q, cM 49 q]; rw [if_neg (by omega), if_neg (by omega)]; exact hR1.ln q),
    (fun q j q0 q1 j0 j1 => by rw [cK (16 + q.toNat) j (by omega) (zkeep_row q0 q1 j), cC (16 + q.toNat) j, cM 50 (60 * q + j)]; rw [if_neg (by omega), if_neg (by omega)]; exact hR1.row q j q0 q1 j0 j1),
    (by rw [cM 33 6, cM 33 3]; rw [if_neg (by omega), if_neg (by omega)]; exact hR1.ng)⟩
set_option maxHeartbeats 4000000 in
theorem k_limits {w w1 w2 : zW} {rc rm : Int} (hR : zRel w w) (hO : zOk w) (hO1 : zOk w1) (hC : w = w1 ∧ rc = (if w.1 1 3 = 0 then -3 else zSet (fun v => decide (1 ≤ v) && zSoC (zput w 1 1 v)) 10)) (hM : w1 = w2 ∧ rm = (if w1.1 33 6 = 0 then -3 else zSet (fun v => decide (1 ≤ v) && zSoM (zput w1 33 2 v)) 10)) : zRel w2 w2 := by
  obtain ⟨rfl, _⟩ := hC
  obtain ⟨rfl, _⟩ := hM
  exact hR
set_option maxHeartbeats 4000000 in
theorem k_kinds {w w1 w2 : zW} {g : Int} {rc rm : Int} (hR : zRel w w) (hO : zOk w) (hO1 : zOk w1) (hC : w = w1 ∧ rc = (if g < 0 ∨ w.1 1 3 ≤ g then -1 else zSet (fun v => zSoC (zput w 9 g v)) 3)) (hM : w1 = w2 ∧ rm = (if g < 0 ∨ w1.1 33 6 ≤ g then -1 else zSet (fun v => zSoM (zput w1 36 g v)) 3)) : zRel w2 w2 := by
  obtain ⟨rfl, _⟩ := hC
  obtain ⟨rfl, _⟩ := hM
  exact hR
set_option maxHeartbeats 4000000 in
theorem k_tastes {w w1 w2 : zW} {g : Int} {rc rm : Int} (hR : zRel w w) (hO : zOk w) (hO1 : zOk w1) (hC : w = w1 ∧ rc = (if g < 0 ∨ w.1 1 3 ≤ g then -1 else zSet (fun v => zSoC (zput w 10 g v)) 10)) (hM : w1 = w2 ∧ rm = (if g < 0 ∨ w1.1 33 6 ≤ g then -1 else zSet (fun v => zSoM (zput w1 37 g v)) 10)) : zRel w2 w2 := by
  obtain ⟨rfl, _⟩ := hC
  obtain ⟨rfl, _⟩ := hM
  exact hR
set_option maxHeartbeats 4000000 in
theorem k_charms {w w1 w2 : zW} {d : Int} {rc rm : Int} (hR : zRel w w) (hO : zOk w) (hO1 : zOk w1) (hC : w = w1 ∧ rc = (if d < 0 ∨ w.1 1 2 ≤ d then -1 else zSet (fun v => zSoC (zput w 7 d v)) 10)) (hM : w1 = w2 ∧ rm = (if d < 0 ∨ w1.1 33 3 ≤ d then -1 else zSet (fun v => zSoM (zput w1 34 d v)) 10)) : zRel w2 w2 := by
  obtain ⟨rfl, _⟩ := hC
  obtain ⟨rfl, _⟩ := hM
  exact hR
set_option maxHeartbeats 4000000 in
theorem k_odds {w w1 w2 : zW} {k lane i n v which : Int} {rc rm : Int} (hR : zRel w w) (hO : zOk w) (hO1 : zOk w1) (hC : rc = (if ¬ (if k < 0 ∨ 4 ≤ k then -1 else if lane < 0 ∨ 2 < lane ∨ n < 0 ∨ 20 < n ∨ v < 0 ∨ 5 < v then -2 else if w.1 1 3 = 0 then -3 else fPairs (w.1 1 3) (w.1 1 2) (zSz w k) (w.1 14 k) lane i n (fun j => w.1 (16 + k.toNat) (i + j))) = 0 ∨ which < 0 ∨ 1 < which then zLOST else if ¬ (zSeaC w (16 + k.toNat) i 0 n.toNat).2.1 = -9 then zLOST else fShare (zCnt (fun g => decide (v ≤ (zSeaC w (16 + k.toNat) i g n.toNat).1)) (w.1 1 3).toNat) (w.1 1 3) which) ∧ zEq w w1) (hM : rm = (if ¬ (if k < 0 ∨ 4 ≤ k then -1 else if lane < 0 ∨ 2 < lane ∨ n < 0 ∨ 20 < n ∨ v < 0 ∨ 5 < v then -2 else if w1.1 33 6 = 0 then -3 else fPairs (w1.1 33 6) (w1.1 33 3) (w1.1 48 k) (w1.1 49 k) lane i n (fun j => w1.1 50 (60 * k + i + j))) = 0 ∨ which < 0 ∨ 1 < which then zLOST else if ¬ (zSeaM w1 (60 * k + i) 0 n.toNat).2.1 = -9 then zLOST else fShare (zCnt (fun g => decide (v ≤ (zSeaM w1 (60 * k + i) g n.toNat).1)) (w1.1 33 6).toNat) (w1.1 33 6) which) ∧ zEq w1 w2) : zRel w2 w2 := by
  exact (hR.eq hC.2).eq hM.2
set_option maxHeartbeats 4000000 in
theorem k_sheet {w w1 w2 : zW} {k lane n : Int} {rc rm : Int} (hR : zRel w w) (hO : zOk w) (hO1 : zOk w1) (hC : rc = fSheet k lane n ∧ (∀ i' k', zkeep i' k' = true → w1.1 i' k' = (if fSheet k lane n = 1 then (if i' = 13 ∧ k' = k then 1 else if i' = 14 ∧ k' = k then lane else if i' = 15 ∧ k' = k then n else if i' = 16 + k.toNat ∧ 0 ≤ k' ∧ k' < n then 0 else w.1 i' k') else w.1 i' k'))) (hM : rm = fSheet k lane n ∧ (∀ i' k', zkeep i' k' = true → w2.1 i' k' = (if fSheet k lane n = 1 then (if i' = 48 ∧ k' = k then n else if i' = 49 ∧ k' = k then lane else if i' = 50 ∧ 60 * k ≤ k' ∧ k' < 60 * k + n then 0 else w1.1 i' k') else w1.1 i' k'))) : zRel w2 w2 := by
  obtain ⟨ha, hE⟩ := hC
  have hb := hM.1
  have hE2 := hM.2
  rcases Classical.em (fSheet k lane n = 1) with hc | hc
  · have hk4 : 0 ≤ k ∧ k < 4 ∧ 0 ≤ n ∧ n ≤ 60 := (by unfold fSheet at hc; (repeat' split at hc) <;> omega)
    simp only [if_pos hc] at hE hE2
    replace hM := And.intro hM.1 hE2
    have hR1 : zRel w w1 := hR.m (fun i' k' q hk => by rw [hE i' k' hk]; (repeat' split) <;> first | rfl | (exfalso; omega))
    have hE2 := hM.2
    have cC := hE
    have cM := hE2
    have cK : ∀ (i : Nat) (k : Int), i < 33 → zkeep i k = true → w2.1 i k = w1.1 i k := fun i' k' q hk => by rw [hE2 i' k' hk]; (repeat' split) <;> first | rfl | (exfalso; omega)
    exact ⟨(by rw [cK 1 0 (by decide) rfl, cC 1 0 rfl, cM 33 1 rfl]; rw [if_neg (by omega), if_neg (by omega), if_neg (by omega), if_neg (by omega), if_neg (by omega), if_neg (by omega), if_neg (by omega)]; exact hR1.st),
      (by rw [cK 1 1 (by decide) rfl, cC 1 1 rfl, cM 33 2 rfl]; rw [if_neg (by omega), if_neg (by omega), if_neg (by omega), if_neg (by omega), if_neg (by omega), if_neg (by omega), if_neg (by omega)]; exact hR1.sr),
      (by rw [cK 1 2 (by decide) rfl, cC 1 2 rfl, cM 33 3 rfl]; rw [if_neg (by omega), if_neg (by omega), if_neg (by omega), if_neg (by omega), if_neg (by omega), if_neg (by omega), if_neg (by omega)]; exact hR1.ds),
      (by rw [cK 1 3 (by decide) rfl, cC 1 3 rfl, cM 33 6 rfl]; rw [if_neg (by omega), if_neg (by omega), if_neg (by omega), if_neg (by omega), if_neg (by omega), if_neg (by omega), if_neg (by omega)]; exact hR1.gs),
      (by rw [cK 6 3 (by decide) rfl, cC 6 3 rfl, cM 33 29 rfl]; rw [if_neg (by omega), if_neg (by omega), if_neg (by omega), if_neg (by omega), if_neg (by omega), if_neg (by omega), if_neg (by omega)]; exact hR1.rs),
      (by rw [cK 0 6 (by decide) rfl, cC 0 6 rfl, cM 33 37 rfl]; rw [if_neg (by omega), if_neg (by omega), if_neg (by omega), if_neg (by omega), if_neg (by omega), if_neg (by omega), if_neg (by omega)]; exact hR1.tr),
      (fun q => by rw [cK 7 q (by decide) (by simp [zkeep]), cC 7 q (by simp [zkeep]), cM 34 q (by simp [zkeep])]; rw [if_neg (by omega), if_neg (by omega), if_neg (by omega), if_neg (by omega), if_neg (by omega), if_neg (by omega), if_neg (by omega)]; exact hR1.ch q),
      (fun q => by rw [cK 8 q (by decide) (by simp [zkeep]), cC 8 q (by simp [zkeep]), cM 35 q (by simp [zkeep])]; rw [if_neg (by omega), if_neg (by omega), if_neg (by omega), if_neg (by omega), if_neg (by omega), if_neg (by omega), if_neg (by omega)]; exact hR1.co q),
      (fun q => by rw [cK 9 q (by decide) (by simp [zkeep]), cC 9 q (by simp [zkeep]), cM 36 q (by simp [zkeep])]; rw [if_neg (by omega), if_neg (by omega), if_neg (by omega), if_neg (by omega), if_neg (by omega), if_neg (by omega), if_neg (by omega)]; exact hR1.ki q),
      (fun q => by rw [cK 10 q (by decide) (by simp [zkeep]), cC 10 q (by simp [zkeep]), cM 37 q (by simp [zkeep])]; rw [if_neg (by omega), if_neg (by omega), if_neg (by omega), if_neg (by omega), if_neg (by omega), if_neg (by omega), if_neg (by omega)]; exact hR1.ta q),
      (fun q => by rw [cK 11 q (by decide) (by simp [zkeep]), cC 11 q (by simp [zkeep]), cM 38 q (by simp [zkeep])]; rw [if_neg (by omega), if_neg (by omega), if_neg (by omega), if_neg (by omega), if_neg (by omega), if_neg (by omega), if_neg (by omega)]; exact hR1.lo q),
      (fun q => by rw [cK 30 q (by decide) (by simp [zkeep]), cC 30 q (by simp [zkeep]), cM 45 q (by simp [zkeep])]; rw [if_neg (by omega), if_neg (by omega), if_neg (by omega), if_neg (by omega), if_neg (by omega), if_neg (by omega), if_neg (by omega)]; exact hR1.lg q),
      (fun q => by rw [cK 31 q (by decide) (by simp [zkeep]), cC 31 q (by simp [zkeep]), cM 46 q (by simp [zkeep])]; rw [if_neg (by omega), if_neg (by omega), if_neg (by omega), if_neg (by omega), if_neg (by omega), if_neg (by omega), if_neg (by omega)]; exact hR1.ld q),
      (fun q => by rw [cK 32 q (by decide) (by simp [zkeep]), cC 32 q (by simp [zkeep]), cM 47 q (by simp [zkeep])]; rw [if_neg (by omega), if_neg (by omega), if_neg (by omega), if_neg (by omega), if_neg (by omega), if_neg (by omega), if_neg (by omega)]; exact hR1.ll q),
      (fun q => by
      have e := hR1.sz q
      unfold zSz at e ⊢
      rw [cK 13 q (by decide) (by simp [zkeep]), cC 13 q (by simp [zkeep]), cM 48 q (by simp [zkeep]), cK 15 q (by decide) (by simp [zkeep]), cC 15 q (by simp [zkeep])]
      by_cases z : q = k
      · rw [if_pos (show (13 : Nat) = 13 ∧ q = k by omega), if_neg (show ¬ (1 : Int) = 0 by decide), if_neg (show ¬ ((15 : Nat) = 13 ∧ q = k) by omega), if_neg (show ¬ ((15 : Nat) = 14 ∧ q = k) by omega), if_pos (show (15 : Nat) = 15 ∧ q = k by omega), if_pos (show (48 : Nat) = 48 ∧ q = k by omega)]
      · rw [if_neg (show ¬ ((13 : Nat) = 13 ∧ q = k) by omega), if_neg (show ¬ ((13 : Nat) = 14 ∧ q = k) by omega), if_neg (show ¬ ((13 : Nat) = 15 ∧ q = k) by omega), if_neg (show ¬ ((13 : Nat) = 16 + k.toNat ∧ 0 ≤ q ∧ q < n) by omega), if_neg (show ¬ ((15 : Nat) = 13 ∧ q = k) by omega), if_neg (show ¬ ((15 : Nat) = 14 ∧ q = k) by omega), if_neg (show ¬ ((15 : Nat) = 15 ∧ q = k) by omega), if_neg (show ¬ ((15 : Nat) = 16 + k.toNat ∧ 0 ≤ q ∧ q < n) by omega), if_neg (show ¬ ((48 : Nat) = 48 ∧ q = k) by omega), if_neg (show ¬ ((48 : Nat) = 49 ∧ q = k) by omega), if_neg (show ¬ ((48 : Nat) = 50 ∧ 60 * k ≤ q ∧ q < 60 * k + n) by omega)]
        exact e),
      (fun q => by rw [cK 14 q (by decide) (by simp [zkeep]), cC 14 q (by simp [zkeep]), cM 49 q (by simp [zkeep])]; have e := hR1.ln q; (repeat' split) <;> first | exact e | rfl | omega),
      (fun q j q0 q1 j0 j1 => by rw [cK (16 + q.toNat) j (by omega) (zkeep_row q0 q1 j), cC (16 + q.toNat) j (zkeep_row q0 q1 j), cM 50 (60 * q + j) (by simp [zkeep])]; have e := hR1.row q j q0 q1 j0 j1; (repeat' split) <;> first | exact e | rfl | omega),
      (by rw [cM 33 6 rfl, cM 33 3 rfl]; rw [if_neg (by omega), if_neg (by omega), if_neg (by omega), if_neg (by omega), if_neg (by omega), if_neg (by omega)]; exact hR1.ng)⟩
  · simp only [if_neg hc] at hE hE2
    exact (hR.eq (fun i' k' hk => hE i' k' hk)).eq (fun i' k' hk => hE2 i' k' hk)
set_option maxHeartbeats 4000000 in
theorem k_lose {w w1 w2 : zW} {k : Int} {rc rm : Int} (hR : zRel w w) (hO : zOk w) (hO1 : zOk w1) (hC : rc = fLose (zSz w k) k ∧ (∀ i j, w1.1 i j = (if i = 13 ∧ j = k ∧ 0 ≤ k ∧ k < 4 then 0 else w.1 i j))) (hM : rm = fLose (w1.1 48 k) k ∧ (∀ i j, w2.1 i j = (if i = 48 ∧ j = k ∧ 0 ≤ k ∧ k < 4 then -1 else w1.1 i j))) : zRel w2 w2 := by
  obtain ⟨ha, hE⟩ := hC
  have hb := hM.1
  have hR1 : zRel w w1 := hR.m (fun i' k' q hk => by rw [hE i' k']; (repeat' split) <;> first | rfl | (exfalso; omega))
  have hE2 := hM.2
  have cC := hE
  have cM := hE2
  have cK : ∀ (i : Nat) (k : Int), i < 33 → zkeep i k = true → w2.1 i k = w1.1 i k := fun i' k' q hk => by rw [hE2 i' k']; (repeat' split) <;> first | rfl | (exfalso; omega)
  exact ⟨(by rw [cK 1 0 (by decide) rfl, cC 1 0, cM 33 1]; rw [if_neg (by omega), if_neg (by omega)]; exact hR1.st),
    (by rw [cK 1 1 (by decide) rfl, cC 1 1, cM 33 2]; rw [if_neg (by omega), if_neg (by omega)]; exact hR1.sr),
    (by rw [cK 1 2 (by decide) rfl, cC 1 2, cM 33 3]; rw [if_neg (by omega), if_neg (by omega)]; exact hR1.ds),
    (by rw [cK 1 3 (by decide) rfl, cC 1 3, cM 33 6]; rw [if_neg (by omega), if_neg (by omega)]; exact hR1.gs),
    (by rw [cK 6 3 (by decide) rfl, cC 6 3, cM 33 29]; rw [if_neg (by omega), if_neg (by omega)]; exact hR1.rs),
    (by rw [cK 0 6 (by decide) rfl, cC 0 6, cM 33 37]; rw [if_neg (by omega), if_neg (by omega)]; exact hR1.tr),
    (fun q => by rw [cK 7 q (by decide) (by simp [zkeep]), cC 7 q, cM 34 q]; rw [if_neg (by omega), if_neg (by omega)]; exact hR1.ch q),
    (fun q => by rw [cK 8 q (by decide) (by simp [zkeep]), cC 8 q, cM 35 q]; rw [if_neg (by omega), if_neg (by omega)]; exact hR1.co q),
    (fun q => by rw [cK 9 q (by decide) (by simp [zkeep]), cC 9 q, cM 36 q]; rw [if_neg (by omega), if_neg (by omega)]; exact hR1.ki q),
    (fun q => by rw [cK 10 q (by decide) (by simp [zkeep]), cC 10 q, cM 37 q]; rw [if_neg (by omega), if_neg (by omega)]; exact hR1.ta q),
    (fun q => by rw [cK 11 q (by decide) (by simp [zkeep]), cC 11 q, cM 38 q]; rw [if_neg (by omega), if_neg (by omega)]; exact hR1.lo q),
    (fun q => by rw [cK 30 q (by decide) (by simp [zkeep]), cC 30 q, cM 45 q]; rw [if_neg (by omega), if_neg (by omega)]; exact hR1.lg q),
    (fun q => by rw [cK 31 q (by decide) (by simp [zkeep]), cC 31 q, cM 46 q]; rw [if_neg (by omega), if_neg (by omega)]; exact hR1.ld q),
    (fun q => by rw [cK 32 q (by decide) (by simp [zkeep]), cC 32 q, cM 47 q]; rw [if_neg (by omega), if_neg (by omega)]; exact hR1.ll q),
    (fun q => by
    have e := hR1.sz q
    by_cases z : q = k ∧ 0 ≤ k ∧ k < 4
    · unfold zSz
      rw [cK 13 q (by decide) (by simp [zkeep]), cC 13 q, cM 48 q, if_pos (show (13 : Nat) = 13 ∧ q = k ∧ 0 ≤ k ∧ k < 4 by omega), if_pos (show (48 : Nat) = 48 ∧ q = k ∧ 0 ≤ k ∧ k < 4 by omega), if_pos rfl]
    · unfold zSz at e ⊢
      rw [cK 13 q (by decide) (by simp [zkeep]), cC 13 q, cM 48 q, cK 15 q (by decide) (by simp [zkeep]), cC 15 q, if_neg (show ¬ ((13 : Nat) = 13 ∧ q = k ∧ 0 ≤ k ∧ k < 4) by omega), if_neg (show ¬ ((48 : Nat) = 48 ∧ q = k ∧ 0 ≤ k ∧ k < 4) by omega), if_neg (show ¬ ((15 : Nat) = 13 ∧ q = k ∧ 0 ≤ k ∧ k < 4) by omega)]
      exact e),
    (fun q => by rw [cK 14 q (by decide) (by simp [zkeep]), cC 14 q, cM 49 q]; rw [if_neg (by omega), if_neg (by omega)]; exact hR1.ln q),
    (fun q j q0 q1 j0 j1 => by rw [cK (16 + q.toNat) j (by omega) (zkeep_row q0 q1 j), cC (16 + q.toNat) j, cM 50 (60 * q + j)]; rw [if_neg (by omega), if_neg (by omega)]; exact hR1.row q j q0 q1 j0 j1),
    (by rw [cM 33 6, cM 33 3]; rw [if_neg (by omega), if_neg (by omega)]; exact hR1.ng)⟩
set_option maxHeartbeats 4000000 in
theorem k_put {w w1 w2 : zW} {k i v : Int} {rc rm : Int} (hR : zRel w w) (hO : zOk w) (hO1 : zOk w1) (hC : rc = fPut (zSz w k) k i ∧ (∀ i' j', zkeep i' j' = true → w1.1 i' j' = (if fPut (zSz w k) k i = 1 ∧ i' = 16 + k.toNat ∧ j' = i then zCut (w.1 14 k) v else w.1 i' j'))) (hM : rm = fPut (w1.1 48 k) k i ∧ (∀ i' j', zkeep i' j' = true → w2.1 i' j' = (if fPut (w1.1 48 k) k i = 1 ∧ i' = 50 ∧ j' = 60 * k + i then zCut (w1.1 49 k) v else w1.1 i' j'))) : zRel w2 w2 := by
  obtain ⟨ha, hE⟩ := hC
  have hb := hM.1
  have hk4 : fPut (zSz w k) k i = 1 → 0 ≤ k ∧ k < 4 := (by unfold fPut; (repeat' split) <;> omega)
  have hR1 : zRel w w1 := hR.m (fun i' k' q hk => by rw [hE i' k' hk]; (repeat' split) <;> first | rfl | (exfalso; omega))
  rw [hR1.sz k, hR1.ln k] at hE
  have hL := hO1 48 k
  change -1 ≤ w1.1 48 k ∧ w1.1 48 k ≤ 60 at hL
  have hE2 := hM.2
  rcases Classical.em (fPut (w1.1 48 k) k i = 1) with hc | hc
  · have hb4 : 0 ≤ k ∧ k < 4 ∧ 0 ≤ i ∧ i < 60 := (by unfold fPut at hc; (repeat' split at hc) <;> omega)
    have hE2 := hM.2
    have cC := hE
    have cM := hE2
    have cK : ∀ (i : Nat) (k : Int), i < 33 → zkeep i k = true → w2.1 i k = w1.1 i k := fun i' k' q hk => by rw [hE2 i' k' hk]; (repeat' split) <;> first | rfl | (exfalso; omega)
    exact ⟨(by rw [cK 1 0 (by decide) rfl, cC 1 0 rfl, cM 33 1 rfl]; rw [if_neg (by omega), if_neg (by omega)]; exact hR1.st),
      (by rw [cK 1 1 (by decide) rfl, cC 1 1 rfl, cM 33 2 rfl]; rw [if_neg (by omega), if_neg (by omega)]; exact hR1.sr),
      (by rw [cK 1 2 (by decide) rfl, cC 1 2 rfl, cM 33 3 rfl]; rw [if_neg (by omega), if_neg (by omega)]; exact hR1.ds),
      (by rw [cK 1 3 (by decide) rfl, cC 1 3 rfl, cM 33 6 rfl]; rw [if_neg (by omega), if_neg (by omega)]; exact hR1.gs),
      (by rw [cK 6 3 (by decide) rfl, cC 6 3 rfl, cM 33 29 rfl]; rw [if_neg (by omega), if_neg (by omega)]; exact hR1.rs),
      (by rw [cK 0 6 (by decide) rfl, cC 0 6 rfl, cM 33 37 rfl]; rw [if_neg (by omega), if_neg (by omega)]; exact hR1.tr),
      (fun q => by rw [cK 7 q (by decide) (by simp [zkeep]), cC 7 q (by simp [zkeep]), cM 34 q (by simp [zkeep])]; rw [if_neg (by omega), if_neg (by omega)]; exact hR1.ch q),
      (fun q => by rw [cK 8 q (by decide) (by simp [zkeep]), cC 8 q (by simp [zkeep]), cM 35 q (by simp [zkeep])]; rw [if_neg (by omega), if_neg (by omega)]; exact hR1.co q),
      (fun q => by rw [cK 9 q (by decide) (by simp [zkeep]), cC 9 q (by simp [zkeep]), cM 36 q (by simp [zkeep])]; rw [if_neg (by omega), if_neg (by omega)]; exact hR1.ki q),
      (fun q => by rw [cK 10 q (by decide) (by simp [zkeep]), cC 10 q (by simp [zkeep]), cM 37 q (by simp [zkeep])]; rw [if_neg (by omega), if_neg (by omega)]; exact hR1.ta q),
      (fun q => by rw [cK 11 q (by decide) (by simp [zkeep]), cC 11 q (by simp [zkeep]), cM 38 q (by simp [zkeep])]; rw [if_neg (by omega), if_neg (by omega)]; exact hR1.lo q),
      (fun q => by rw [cK 30 q (by decide) (by simp [zkeep]), cC 30 q (by simp [zkeep]), cM 45 q (by simp [zkeep])]; rw [if_neg (by omega), if_neg (by omega)]; exact hR1.lg q),
      (fun q => by rw [cK 31 q (by decide) (by simp [zkeep]), cC 31 q (by simp [zkeep]), cM 46 q (by simp [zkeep])]; rw [if_neg (by omega), if_neg (by omega)]; exact hR1.ld q),
      (fun q => by rw [cK 32 q (by decide) (by simp [zkeep]), cC 32 q (by simp [zkeep]), cM 47 q (by simp [zkeep])]; rw [if_neg (by omega), if_neg (by omega)]; exact hR1.ll q),
      (fun q => by have e := hR1.sz q; unfold zSz at e ⊢; rw [cK 13 q (by decide) (by simp [zkeep]), cC 13 q (by simp [zkeep]), cK 15 q (by decide) (by simp [zkeep]), cC 15 q (by simp [zkeep]), cM 48 q (by simp [zkeep]), if_neg (show ¬ (fPut (w1.1 48 k) k i = 1 ∧ (13 : Nat) = 16 + k.toNat ∧ q = i) by omega), if_neg (show ¬ (fPut (w1.1 48 k) k i = 1 ∧ (15 : Nat) = 16 + k.toNat ∧ q = i) by omega), if_neg (show ¬ (fPut (w1.1 48 k) k i = 1 ∧ (48 : Nat) = 50 ∧ q = 60 * k + i) by omega)]; exact e),
      (fun q => by rw [cK 14 q (by decide) (by simp [zkeep]), cC 14 q (by simp [zkeep]), cM 49 q (by simp [zkeep])]; rw [if_neg (by omega), if_neg (by omega)]; exact hR1.ln q),
      (fun q j q0 q1 j0 j1 => by rw [cK (16 + q.toNat) j (by omega) (zkeep_row q0 q1 j), cC (16 + q.toNat) j (zkeep_row q0 q1 j), cM 50 (60 * q + j) (by simp [zkeep])]; have e := hR1.row q j q0 q1 j0 j1; (repeat' split) <;> first | exact e | rfl | omega),
      (by rw [cM 33 6 rfl, cM 33 3 rfl]; rw [if_neg (by omega), if_neg (by omega)]; exact hR1.ng)⟩
  · exact (hR.eq (fun i' k' hk => by rw [hE i' k' hk, if_neg (fun q => hc q.1)])).eq (fun i' k' hk => by rw [hE2 i' k' hk, if_neg (fun q => hc q.1)])
set_option maxHeartbeats 4000000 in
theorem k_cell {w w1 w2 : zW} {k i lane : Int} {rc rm : Int} (hR : zRel w w) (hO : zOk w) (hO1 : zOk w1) (hC : rc = fCell (zSz w k) (w.1 14 k) (w.1 (16 + k.toNat) i) k i lane ∧ zEq w w1) (hM : rm = fCell (w1.1 48 k) (w1.1 49 k) (w1.1 50 (60 * k + i)) k i lane ∧ zEq w1 w2) : zRel w2 w2 := by
  exact (hR.eq hC.2).eq hM.2
set_option maxHeartbeats 4000000 in
theorem k_copy {w w1 w2 : zW} {k i o j n : Int} {rc rm : Int} (hR : zRel w w) (hO : zOk w) (hO1 : zOk w1) (hC : rc = fCopy (zSz w k) (zSz w o) (w.1 14 k) (w.1 14 o) k i o j n ∧ (∀ i' k', zkeep i' k' = true → w1.1 i' k' = (if 0 ≤ fCopy (zSz w k) (zSz w o) (w.1 14 k) (w.1 14 o) k i o j n ∧ i' = 16 + o.toNat ∧ j ≤ k' ∧ k' < j + n then w.1 (16 + k.toNat) (i + (k' - j)) else w.1 i' k'))) (hM : rm = fCopy (w1.1 48 k) (w1.1 48 o) (w1.1 49 k) (w1.1 49 o) k i o j n ∧ (∀ i' k', zkeep i' k' = true → w2.1 i' k' = (if 0 ≤ fCopy (w1.1 48 k) (w1.1 48 o) (w1.1 49 k) (w1.1 49 o) k i o j n ∧ i' = 50 ∧ 60 * o + j ≤ k' ∧ k' < 60 * o + j + n then w1.1 50 (60 * k + i + (k' - 60 * o - j)) else w1.1 i' k'))) : zRel w2 w2 := by
  obtain ⟨ha, hE⟩ := hC
  have hb := hM.1
  have hk4 : 0 ≤ fCopy (zSz w k) (zSz w o) (w.1 14 k) (w.1 14 o) k i o j n → 0 ≤ o ∧ o < 4 := (by unfold fCopy; (repeat' split) <;> omega)
  have hR1 : zRel w w1 := hR.m (fun i' k' q hk => by rw [hE i' k' hk]; (repeat' split) <;> first | rfl | (exfalso; omega))
  rw [hR1.sz k, hR1.sz o, hR1.ln k, hR1.ln o] at hE
  have hL := hO1 48 k
  change -1 ≤ w1.1 48 k ∧ w1.1 48 k ≤ 60 at hL
  have hL2 := hO1 48 o
  change -1 ≤ w1.1 48 o ∧ w1.1 48 o ≤ 60 at hL2
  have hE2 := hM.2
  rcases Classical.em (0 ≤ fCopy (w1.1 48 k) (w1.1 48 o) (w1.1 49 k) (w1.1 49 o) k i o j n) with hc | hc
  · have hb4 : 0 ≤ k ∧ k < 4 ∧ 0 ≤ o ∧ o < 4 ∧ 0 ≤ i ∧ 0 ≤ n ∧ i + n ≤ 60 ∧ 0 ≤ j ∧ j + n ≤ 60 := (by unfold fCopy at hc; (repeat' split at hc) <;> omega)
    have hE2 := hM.2
    have cC := hE
    have cM := hE2
    have cK : ∀ (i : Nat) (k : Int), i < 33 → zkeep i k = true → w2.1 i k = w1.1 i k := fun i' k' q hk => by rw [hE2 i' k' hk]; (repeat' split) <;> first | rfl | (exfalso; omega)
    exact ⟨(by rw [cK 1 0 (by decide) rfl, cC 1 0 rfl, cM 33 1 rfl]; rw [if_neg (by omega), if_neg (by omega)]; exact hR1.st),
      (by rw [cK 1 1 (by decide) rfl, cC 1 1 rfl, cM 33 2 rfl]; rw [if_neg (by omega), if_neg (by omega)]; exact hR1.sr),
      (by rw [cK 1 2 (by decide) rfl, cC 1 2 rfl, cM 33 3 rfl]; rw [if_neg (by omega), if_neg (by omega)]; exact hR1.ds),
      (by rw [cK 1 3 (by decide) rfl, cC 1 3 rfl, cM 33 6 rfl]; rw [if_neg (by omega), if_neg (by omega)]; exact hR1.gs),
      (by rw [cK 6 3 (by decide) rfl, cC 6 3 rfl, cM 33 29 rfl]; rw [if_neg (by omega), if_neg (by omega)]; exact hR1.rs),
      (by rw [cK 0 6 (by decide) rfl, cC 0 6 rfl, cM 33 37 rfl]; rw [if_neg (by omega), if_neg (by omega)]; exact hR1.tr),
      (fun q => by rw [cK 7 q (by decide) (by simp [zkeep]), cC 7 q (by simp [zkeep]), cM 34 q (by simp [zkeep])]; rw [if_neg (by omega), if_neg (by omega)]; exact hR1.ch q),
      (fun q => by rw [cK 8 q (by decide) (by simp [zkeep]), cC 8 q (by simp [zkeep]), cM 35 q (by simp [zkeep])]; rw [if_neg (by omega), if_neg (by omega)]; exact hR1.co q),
      (fun q => by rw [cK 9 q (by decide) (by simp [zkeep]), cC 9 q (by simp [zkeep]), cM 36 q (by simp [zkeep])]; rw [if_neg (by omega), if_neg (by omega)]; exact hR1.ki q),
      (fun q => by rw [cK 10 q (by decide) (by simp [zkeep]), cC 10 q (by simp [zkeep]), cM 37 q (by simp [zkeep])]; rw [if_neg (by omega), if_neg (by omega)]; exact hR1.ta q),
      (fun q => by rw [cK 11 q (by decide) (by simp [zkeep]), cC 11 q (by simp [zkeep]), cM 38 q (by simp [zkeep])]; rw [if_neg (by omega), if_neg (by omega)]; exact hR1.lo q),
      (fun q => by rw [cK 30 q (by decide) (by simp [zkeep]), cC 30 q (by simp [zkeep]), cM 45 q (by simp [zkeep])]; rw [if_neg (by omega), if_neg (by omega)]; exact hR1.lg q),
      (fun q => by rw [cK 31 q (by decide) (by simp [zkeep]), cC 31 q (by simp [zkeep]), cM 46 q (by simp [zkeep])]; rw [if_neg (by omega), if_neg (by omega)]; exact hR1.ld q),
      (fun q => by rw [cK 32 q (by decide) (by simp [zkeep]), cC 32 q (by simp [zkeep]), cM 47 q (by simp [zkeep])]; rw [if_neg (by omega), if_neg (by omega)]; exact hR1.ll q),
      (fun q => by have e := hR1.sz q; unfold zSz at e ⊢; rw [cK 13 q (by decide) (by simp [zkeep]), cC 13 q (by simp [zkeep]), cK 15 q (by decide) (by simp [zkeep]), cC 15 q (by simp [zkeep]), cM 48 q (by simp [zkeep]), if_neg (show ¬ (0 ≤ fCopy (w1.1 48 k) (w1.1 48 o) (w1.1 49 k) (w1.1 49 o) k i o j n ∧ (13 : Nat) = 16 + o.toNat ∧ j ≤ q ∧ q < j + n) by omega), if_neg (show ¬ (0 ≤ fCopy (w1.1 48 k) (w1.1 48 o) (w1.1 49 k) (w1.1 49 o) k i o j n ∧ (15 : Nat) = 16 + o.toNat ∧ j ≤ q ∧ q < j + n) by omega), if_neg (show ¬ (0 ≤ fCopy (w1.1 48 k) (w1.1 48 o) (w1.1 49 k) (w1.1 49 o) k i o j n ∧ (48 : Nat) = 50 ∧ 60 * o + j ≤ q ∧ q < 60 * o + j + n) by omega)]; exact e),
      (fun q => by rw [cK 14 q (by decide) (by simp [zkeep]), cC 14 q (by simp [zkeep]), cM 49 q (by simp [zkeep])]; rw [if_neg (by omega), if_neg (by omega)]; exact hR1.ln q),
      (fun q jj q0 q1 j0 j1 => by
      rw [cK (16 + q.toNat) jj (by omega) (zkeep_row q0 q1 jj), cC (16 + q.toNat) jj (zkeep_row q0 q1 jj), cM 50 (60 * q + jj) (by simp [zkeep])]
      have e := hR1.row q jj q0 q1 j0 j1
      by_cases z : 0 ≤ fCopy (w1.1 48 k) (w1.1 48 o) (w1.1 49 k) (w1.1 49 o) k i o j n ∧ q = o ∧ j ≤ jj ∧ jj < j + n
      · rw [if_pos (by omega), if_pos (by omega)]
        exact (hR1.row k (i + (jj - j)) (by omega) (by omega) (by omega) (by omega)).trans (congrArg (w1.1 50) (by omega))
      · rw [if_neg (by omega), if_neg (by omega)]
        exact e),
      (by rw [cM 33 6 rfl, cM 33 3 rfl]; rw [if_neg (by omega), if_neg (by omega)]; exact hR1.ng)⟩
  · exact (hR.eq (fun i' k' hk => by rw [hE i' k' hk, if_neg (fun q => hc q.1)])).eq (fun i' k' hk => by rw [hE2 i' k' hk, if_neg (fun q => hc q.1)])
set_option maxHeartbeats 4000000 in
theorem k_tell {w w1 w2 : zW} {g : Int} {rc rm : Int} (hR : zRel w w) (hO : zOk w) (hO1 : zOk w1) (hC : rc = fTell (w.1 1 3) (w.1 9 g) (w.1 10 g) g ∧ (∀ i k, w1.1 i k = (if i = 0 ∧ k = 6 then fTellT (w.1 1 3) (w.1 9 g) (w.1 0 6) g else w.1 i k))) (hM : rm = fTell (w1.1 33 6) (w1.1 36 g) (w1.1 37 g) g ∧ (∀ i k, w2.1 i k = (if i = 33 ∧ k = 37 then fTellT (w1.1 33 6) (w1.1 36 g) (w1.1 33 37) g else w1.1 i k))) : zRel w2 w2 := by
  obtain ⟨ha, hE⟩ := hC
  have hb := hM.1
  have hR1 : zRel w w1 := hR.m (fun i' k' q hk => by rw [hE i' k']; (repeat' split) <;> first | rfl | (exfalso; omega))
  rw [hR1.gs, hR1.ki, hR1.tr] at hE
  have hE2 := hM.2
  have cC := hE
  have cM := hE2
  have cK : ∀ (i : Nat) (k : Int), i < 33 → zkeep i k = true → w2.1 i k = w1.1 i k := fun i' k' q hk => by rw [hE2 i' k']; (repeat' split) <;> first | rfl | (exfalso; omega)
  exact ⟨(by rw [cK 1 0 (by decide) rfl, cC 1 0, cM 33 1]; rw [if_neg (by omega), if_neg (by omega)]; exact hR1.st),
    (by rw [cK 1 1 (by decide) rfl, cC 1 1, cM 33 2]; rw [if_neg (by omega), if_neg (by omega)]; exact hR1.sr),
    (by rw [cK 1 2 (by decide) rfl, cC 1 2, cM 33 3]; rw [if_neg (by omega), if_neg (by omega)]; exact hR1.ds),
    (by rw [cK 1 3 (by decide) rfl, cC 1 3, cM 33 6]; rw [if_neg (by omega), if_neg (by omega)]; exact hR1.gs),
    (by rw [cK 6 3 (by decide) rfl, cC 6 3, cM 33 29]; rw [if_neg (by omega), if_neg (by omega)]; exact hR1.rs),
    (by rw [cK 0 6 (by decide) rfl, cC 0 6, cM 33 37]; have e := hR1.tr; (repeat' split) <;> first | exact e | rfl | omega),
    (fun q => by rw [cK 7 q (by decide) (by simp [zkeep]), cC 7 q, cM 34 q]; rw [if_neg (by omega), if_neg (by omega)]; exact hR1.ch q),
    (fun q => by rw [cK 8 q (by decide) (by simp [zkeep]), cC 8 q, cM 35 q]; rw [if_neg (by omega), if_neg (by omega)]; exact hR1.co q),
    (fun q => by rw [cK 9 q (by decide) (by simp [zkeep]), cC 9 q, cM 36 q]; rw [if_neg (by omega), if_neg (by omega)]; exact hR1.ki q),
    (fun q => by rw [cK 10 q (by decide) (by simp [zkeep]), cC 10 q, cM 37 q]; rw [if_neg (by omega), if_neg (by omega)]; exact hR1.ta q),
    (fun q => by rw [cK 11 q (by decide) (by simp [zkeep]), cC 11 q, cM 38 q]; rw [if_neg (by omega), if_neg (by omega)]; exact hR1.lo q),
    (fun q => by rw [cK 30 q (by decide) (by simp [zkeep]), cC 30 q, cM 45 q]; rw [if_neg (by omega), if_neg (by omega)]; exact hR1.lg q),
    (fun q => by rw [cK 31 q (by decide) (by simp [zkeep]), cC 31 q, cM 46 q]; rw [if_neg (by omega), if_neg (by omega)]; exact hR1.ld q),
    (fun q => by rw [cK 32 q (by decide) (by simp [zkeep]), cC 32 q, cM 47 q]; rw [if_neg (by omega), if_neg (by omega)]; exact hR1.ll q),
    (fun q => by have e := hR1.sz q; unfold zSz at e ⊢; rw [cK 13 q (by decide) (by simp [zkeep]), cC 13 q, cK 15 q (by decide) (by simp [zkeep]), cC 15 q, cM 48 q, if_neg (show ¬ ((13 : Nat) = 0 ∧ q = 6) by omega), if_neg (show ¬ ((15 : Nat) = 0 ∧ q = 6) by omega), if_neg (show ¬ ((48 : Nat) = 33 ∧ q = 37) by omega)]; exact e),
    (fun q => by rw [cK 14 q (by decide) (by simp [zkeep]), cC 14 q, cM 49 q]; rw [if_neg (by omega), if_neg (by omega)]; exact hR1.ln q),
    (fun q j q0 q1 j0 j1 => by rw [cK (16 + q.toNat) j (by omega) (zkeep_row q0 q1 j), cC (16 + q.toNat) j, cM 50 (60 * q + j)]; rw [if_neg (by omega), if_neg (by omega)]; exact hR1.row q j q0 q1 j0 j1),
    (by rw [cM 33 6, cM 33 3]; rw [if_neg (by omega), if_neg (by omega)]; exact hR1.ng)⟩
set_option maxHeartbeats 4000000 in
theorem k_greet {w w1 w2 : zW} {g : Int} {rc rm : Int} (hR : zRel w w) (hO : zOk w) (hO1 : zOk w1) (hC : rc = fGreet (w.1 1 3) (w.1 9 g) g ∧ (∀ i k, w1.1 i k = (if i = 0 ∧ k = 6 then fGreetT (w.1 1 3) (w.1 9 g) (w.1 0 6) g else w.1 i k))) (hM : rm = fGreet (w1.1 33 6) (w1.1 36 g) g ∧ (∀ i k, w2.1 i k = (if i = 33 ∧ k = 37 then fGreetT (w1.1 33 6) (w1.1 36 g) (w1.1 33 37) g else w1.1 i k))) : zRel w2 w2 := by
  obtain ⟨ha, hE⟩ := hC
  have hb := hM.1
  have hR1 : zRel w w1 := hR.m (fun i' k' q hk => by rw [hE i' k']; (repeat' split) <;> first | rfl | (exfalso; omega))
  rw [hR1.gs, hR1.ki, hR1.tr] at hE
  have hE2 := hM.2
  have cC := hE
  have cM := hE2
  have cK : ∀ (i : Nat) (k : Int), i < 33 → zkeep i k = true → w2.1 i k = w1.1 i k := fun i' k' q hk => by rw [hE2 i' k']; (repeat' split) <;> first | rfl | (exfalso; omega)
  exact ⟨(by rw [cK 1 0 (by decide) rfl, cC 1 0, cM 33 1]; rw [if_neg (by omega), if_neg (by omega)]; exact hR1.st),
    (by rw [cK 1 1 (by decide) rfl, cC 1 1, cM 33 2]; rw [if_neg (by omega), if_neg (by omega)]; exact hR1.sr),
    (by rw [cK 1 2 (by decide) rfl, cC 1 2, cM 33 3]; rw [if_neg (by omega), if_neg (by omega)]; exact hR1.ds),
    (by rw [cK 1 3 (by decide) rfl, cC 1 3, cM 33 6]; rw [if_neg (by omega), if_neg (by omega)]; exact hR1.gs),
    (by rw [cK 6 3 (by decide) rfl, cC 6 3, cM 33 29]; rw [if_neg (by omega), if_neg (by omega)]; exact hR1.rs),
    (by rw [cK 0 6 (by decide) rfl, cC 0 6, cM 33 37]; have e := hR1.tr; (repeat' split) <;> first | exact e | rfl | omega),
    (fun q => by rw [cK 7 q (by decide) (by simp [zkeep]), cC 7 q, cM 34 q]; rw [if_neg (by omega), if_neg (by omega)]; exact hR1.ch q),
    (fun q => by rw [cK 8 q (by decide) (by simp [zkeep]), cC 8 q, cM 35 q]; rw [if_neg (by omega), if_neg (by omega)]; exact hR1.co q),
    (fun q => by rw [cK 9 q (by decide) (by simp [zkeep]), cC 9 q, cM 36 q]; rw [if_neg (by omega), if_neg (by omega)]; exact hR1.ki q),
    (fun q => by rw [cK 10 q (by decide) (by simp [zkeep]), cC 10 q, cM 37 q]; rw [if_neg (by omega), if_neg (by omega)]; exact hR1.ta q),
    (fun q => by rw [cK 11 q (by decide) (by simp [zkeep]), cC 11 q, cM 38 q]; rw [if_neg (by omega), if_neg (by omega)]; exact hR1.lo q),
    (fun q => by rw [cK 30 q (by decide) (by simp [zkeep]), cC 30 q, cM 45 q]; rw [if_neg (by omega), if_neg (by omega)]; exact hR1.lg q),
    (fun q => by rw [cK 31 q (by decide) (by simp [zkeep]), cC 31 q, cM 46 q]; rw [if_neg (by omega), if_neg (by omega)]; exact hR1.ld q),
    (fun q => by rw [cK 32 q (by decide) (by simp [zkeep]), cC 32 q, cM 47 q]; rw [if_neg (by omega), if_neg (by omega)]; exact hR1.ll q),
    (fun q => by have e := hR1.sz q; unfold zSz at e ⊢; rw [cK 13 q (by decide) (by simp [zkeep]), cC 13 q, cK 15 q (by decide) (by simp [zkeep]), cC 15 q, cM 48 q, if_neg (show ¬ ((13 : Nat) = 0 ∧ q = 6) by omega), if_neg (show ¬ ((15 : Nat) = 0 ∧ q = 6) by omega), if_neg (show ¬ ((48 : Nat) = 33 ∧ q = 37) by omega)]; exact e),
    (fun q => by rw [cK 14 q (by decide) (by simp [zkeep]), cC 14 q, cM 49 q]; rw [if_neg (by omega), if_neg (by omega)]; exact hR1.ln q),
    (fun q j q0 q1 j0 j1 => by rw [cK (16 + q.toNat) j (by omega) (zkeep_row q0 q1 j), cC (16 + q.toNat) j, cM 50 (60 * q + j)]; rw [if_neg (by omega), if_neg (by omega)]; exact hR1.row q j q0 q1 j0 j1),
    (by rw [cM 33 6, cM 33 3]; rw [if_neg (by omega), if_neg (by omega)]; exact hR1.ng)⟩
set_option maxHeartbeats 4000000 in
theorem k_as {w w1 w2 : zW} {g kind : Int} {rc rm : Int} (hR : zRel w w) (hO : zOk w) (hO1 : zOk w1) (hC : rc = fAs (w.1 1 3) (w.1 9 g) g kind ∧ zEq w w1) (hM : rm = fAs (w1.1 33 6) (w1.1 36 g) g kind ∧ zEq w1 w2) : zRel w2 w2 := by
  exact (hR.eq hC.2).eq hM.2
set_option maxHeartbeats 4000000 in
theorem k_trace {w w1 w2 : zW} {rc rm : Int} (hR : zRel w w) (hO : zOk w) (hO1 : zOk w1) (hC : w = w1 ∧ rc = w.1 0 6) (hM : w1 = w2 ∧ rm = w1.1 33 37) : zRel w2 w2 := by
  obtain ⟨rfl, _⟩ := hC
  obtain ⟨rfl, _⟩ := hM
  exact hR
set_option maxHeartbeats 4000000 in
theorem k_fault {w w1 w2 : zW} {rc rm : Int} (hR : zRel w w) (hO : zOk w) (hO1 : zOk w1) (hC : w = w1 ∧ rc = w.1 0 7) (hM : w1 = w2 ∧ rm = w1.1 33 0) : zRel w2 w2 := by
  obtain ⟨rfl, _⟩ := hC
  obtain ⟨rfl, _⟩ := hM
  exact hR
set_option maxHeartbeats 4000000 in
theorem k_many {w w1 w2 : zW} {what : Int} {rc rm : Int} (hR : zRel w w) (hO : zOk w) (hO1 : zOk w1) (hC : w = w1 ∧ rc = fMany (w.1 1 3) (w.1 1 2) (w.1 1 0) (w.1 1 1) (w.1 6 3) what) (hM : w1 = w2 ∧ rm = fMany (w1.1 33 6) (w1.1 33 3) (w1.1 33 1) (w1.1 33 2) (w1.1 33 29) what) : zRel w2 w2 := by
  obtain ⟨rfl, _⟩ := hC
  obtain ⟨rfl, _⟩ := hM
  exact hR
