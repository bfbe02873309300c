theorem fPairs_0 {gs ds sz ln lane i n : Int} {row : Int → Int} (h : fPairs gs ds sz ln lane i n row = 0) : 0 ≤ i ∧ i + 2 * n ≤ sz := by
  unfold fPairs at h
  (repeat' split at h) <;> omega
theorem zif3 {A B C : Prop} [Decidable A] [Decidable B] [Decidable C] {x : Int} (h : (if A then (-1 : Int) else if B then -2 else if C then -3 else x) = 0) : x = 0 := by
  (repeat' split at h) <;> first | exact h | (exfalso; omega)
theorem zRel.p_strict {wc wm : zW} (h : zRel wc wm) (v : Int) : zRel (zput wc 1 1 v) (zput wm 33 2 v) := ⟨( by rw [zput_e, zput_e, if_neg (by omega), if_neg (by omega)]; exact h.st), ( by rw [zput_e, zput_e]; (repeat' split) <;> first | rfl | (exfalso; omega) | exact h.sr), ( by rw [zput_e, zput_e, if_neg (by omega), if_neg (by omega)]; exact h.ds), ( by rw [zput_e, zput_e, if_neg (by omega), if_neg (by omega)]; exact h.gs), ( by rw [zput_e, zput_e, if_neg (by omega), if_neg (by omega)]; exact h.rs), ( by rw [zput_e, zput_e, if_neg (by omega), if_neg (by omega)]; exact h.tr), (fun k => by rw [zput_e, zput_e, if_neg (by omega), if_neg (by omega)]; exact h.ch k), (fun k => by rw [zput_e, zput_e, if_neg (by omega), if_neg (by omega)]; exact h.co k), (fun k => by rw [zput_e, zput_e, if_neg (by omega), if_neg (by omega)]; exact h.ki k), (fun k => by rw [zput_e, zput_e, if_neg (by omega), if_neg (by omega)]; exact h.ta k), (fun k => by rw [zput_e, zput_e, if_neg (by omega), if_neg (by omega)]; exact h.lo k), (fun k => by rw [zput_e, zput_e, if_neg (by omega), if_neg (by omega)]; exact h.lg k), (fun k => by rw [zput_e, zput_e, if_neg (by omega), if_neg (by omega)]; exact h.ld k), (fun k => by rw [zput_e, zput_e, if_neg (by omega), if_neg (by omega)]; exact h.ll k), (fun k => by have q := h.sz k; unfold zSz at q ⊢; rw [zput_i _ _ _ _ (show (13 : Nat) ≠ 1 by decide), zput_i _ _ _ _ (show (15 : Nat) ≠ 1 by decide), zput_i _ _ _ _ (show (48 : Nat) ≠ 33 by decide)]; exact q), (fun k => by rw [zput_e, zput_e, if_neg (by omega), if_neg (by omega)]; exact h.ln k), (fun k i h0 h1 h2 h3 => by rw [zput_e, zput_e, if_neg (by omega), if_neg (by omega)]; exact h.row k i h0 h1 h2 h3), (by rw [zput_e, zput_e, if_neg (by omega), if_neg (by omega)]; exact h.ng)⟩
theorem zRel.p_kinds {wc wm : zW} (h : zRel wc wm) (g v : Int) : zRel (zput wc 9 g v) (zput wm 36 g v) := ⟨( by rw [zput_e, zput_e, if_neg (by omega), if_neg (by omega)]; exact h.st), ( by rw [zput_e, zput_e, if_neg (by omega), if_neg (by omega)]; exact h.sr), ( by rw [zput_e, zput_e, if_neg (by omega), if_neg (by omega)]; exact h.ds), ( by rw [zput_e, zput_e, if_neg (by omega), if_neg (by omega)]; exact h.gs), ( by rw [zput_e, zput_e, if_neg (by omega), if_neg (by omega)]; exact h.rs), ( by rw [zput_e, zput_e, if_neg (by omega), if_neg (by omega)]; exact h.tr), (fun k => by rw [zput_e, zput_e, if_neg (by omega), if_neg (by omega)]; exact h.ch k), (fun k => by rw [zput_e, zput_e, if_neg (by omega), if_neg (by omega)]; exact h.co k), (fun k => by rw [zput_e, zput_e]; (repeat' split) <;> first | rfl | (exfalso; omega) | exact h.ki k), (fun k => by rw [zput_e, zput_e, if_neg (by omega), if_neg (by omega)]; exact h.ta k), (fun k => by rw [zput_e, zput_e, if_neg (by omega), if_neg (by omega)]; exact h.lo k), (fun k => by rw [zput_e, zput_e, if_neg (by omega), if_neg (by omega)]; exact h.lg k), (fun k => by rw [zput_e, zput_e, if_neg (by omega), if_neg (by omega)]; exact h.ld k), (fun k => by rw [zput_e, zput_e, if_neg (by omega), if_neg (by omega)]; exact h.ll k), (fun k => by have q := h.sz k; unfold zSz at q ⊢; rw [zput_i _ _ _ _ (show (13 : Nat) ≠ 9 by decide), zput_i _ _ _ _ (show (15 : Nat) ≠ 9 by decide), zput_i _ _ _ _ (show (48 : Nat) ≠ 36 by decide)]; exact q), (fun k => by rw [zput_e, zput_e, if_neg (by omega), if_neg (by omega)]; exact h.ln k), (fun k i h0 h1 h2 h3 => by rw [zput_e, zput_e, if_neg (by omega), if_neg (by omega)]; exact h.row k i h0 h1 h2 h3), (by rw [zput_e, zput_e, if_neg (by omega), if_neg (by omega)]; exact h.ng)⟩
theorem zRel.p_tastes {wc wm : zW} (h : zRel wc wm) (g v : Int) : zRel (zput wc 10 g v) (zput wm 37 g v) := ⟨( by rw [zput_e, zput_e, if_neg (by omega), if_neg (by omega)]; exact h.st), ( by rw [zput_e, zput_e, if_neg (by omega), if_neg (by omega)]; exact h.sr), ( by rw [zput_e, zput_e, if_neg (by omega), if_neg (by omega)]; exact h.ds), ( by rw [zput_e, zput_e, if_neg (by omega), if_neg (by omega)]; exact h.gs), ( by rw [zput_e, zput_e, if_neg (by omega), if_neg (by omega)]; exact h.rs), ( by rw [zput_e, zput_e, if_neg (by omega), if_neg (by omega)]; exact h.tr), (fun k => by rw [zput_e, zput_e, if_neg (by omega), if_neg (by omega)]; exact h.ch k), (fun k => by rw [zput_e, zput_e, if_neg (by omega), if_neg (by omega)]; exact h.co k), (fun k => by rw [zput_e, zput_e, if_neg (by omega), if_neg (by omega)]; exact h.ki k), (fun k => by rw [zput_e, zput_e]; (repeat' split) <;> first | rfl | (exfalso; omega) | exact h.ta k), (fun k => by rw [zput_e, zput_e, if_neg (by omega), if_neg (by omega)]; exact h.lo k), (fun k => by rw [zput_e, zput_e, if_neg (by omega), if_neg (by omega)]; exact h.lg k), (fun k => by rw [zput_e, zput_e, if_neg (by omega), if_neg (by omega)]; exact h.ld k), (fun k => by rw [zput_e, zput_e, if_neg (by omega), if_neg (by omega)]; exact h.ll k), (fun k => by have q := h.sz k; unfold zSz at q ⊢; rw [zput_i _ _ _ _ (show (13 : Nat) ≠ 10 by decide), zput_i _ _ _ _ (show (15 : Nat) ≠ 10 by decide), zput_i _ _ _ _ (show (48 : Nat) ≠ 37 by decide)]; exact q), (fun k => by rw [zput_e, zput_e, if_neg (by omega), if_neg (by omega)]; exact h.ln k), (fun k i h0 h1 h2 h3 => by rw [zput_e, zput_e, if_neg (by omega), if_neg (by omega)]; exact h.row k i h0 h1 h2 h3), (by rw [zput_e, zput_e, if_neg (by omega), if_neg (by omega)]; exact h.ng)⟩
theorem zRel.p_charms {wc wm : zW} (h : zRel wc wm) (d v : Int) : zRel (zput wc 7 d v) (zput wm 34 d v) := ⟨( by rw [zput_e, zput_e, if_neg (by omega), if_neg (by omega)]; exact h.st), ( by rw [zput_e, zput_e, if_neg (by omega), if_neg (by omega)]; exact h.sr), ( by rw [zput_e, zput_e, if_neg (by omega), if_neg (by omega)]; exact h.ds), ( by rw [zput_e, zput_e, if_neg (by omega), if_neg (by omega)]; exact h.gs), ( by rw [zput_e, zput_e, if_neg (by omega), if_neg (by omega)]; exact h.rs), ( by rw [zput_e, zput_e, if_neg (by omega), if_neg (by omega)]; exact h.tr), (fun k => by rw [zput_e, zput_e]; (repeat' split) <;> first | rfl | (exfalso; omega) | exact h.ch k), (fun k => by rw [zput_e, zput_e, if_neg (by omega), if_neg (by omega)]; exact h.co k), (fun k => by rw [zput_e, zput_e, if_neg (by omega), if_neg (by omega)]; exact h.ki k), (fun k => by rw [zput_e, zput_e, if_neg (by omega), if_neg (by omega)]; exact h.ta k), (fun k => by rw [zput_e, zput_e, if_neg (by omega), if_neg (by omega)]; exact h.lo k), (fun k => by rw [zput_e, zput_e, if_neg (by omega), if_neg (by omega)]; exact h.lg k), (fun k => by rw [zput_e, zput_e, if_neg (by omega), if_neg (by omega)]; exact h.ld k), (fun k => by rw [zput_e, zput_e, if_neg (by omega), if_neg (by omega)]; exact h.ll k), (fun k => by have q := h.sz k; unfold zSz at q ⊢; rw [zput_i _ _ _ _ (show (13 : Nat) ≠ 7 by decide), zput_i _ _ _ _ (show (15 : Nat) ≠ 7 by decide), zput_i _ _ _ _ (show (48 : Nat) ≠ 34 by decide)]; exact q), (fun k => by rw [zput_e, zput_e, if_neg (by omega), if_neg (by omega)]; exact h.ln k), (fun k i h0 h1 h2 h3 => by rw [zput_e, zput_e, if_neg (by omega), if_neg (by omega)]; exact h.row k i h0 h1 h2 h3), (by rw [zput_e, zput_e, if_neg (by omega), if_neg (by omega)]; exact h.ng)⟩
theorem a_ofGuest {w w1 w2 : zW} {g what : Int} {rc rm : Int} (hR : zRel w w) (hO : zOk w) (hO1 : zOk w1)  (hC : w = w1 ∧ rc = fOfGuest (w.1 1 3) (w.1 9 g) (w.1 10 g) (w.1 11 g) g what) (hM : w1 = w2 ∧ rm = fOfGuest (w1.1 33 6) (w1.1 36 g) (w1.1 37 g) (w1.1 38 g) g what) : rc = rm := by
  obtain ⟨rfl, ha⟩ := hC
  obtain ⟨rfl, hb⟩ := hM
  rw [ha, hb, hR.gs, hR.ki, hR.ta, hR.lo]
theorem a_ofDoing {w w1 w2 : zW} {d what : Int} {rc rm : Int} (hR : zRel w w) (hO : zOk w) (hO1 : zOk w1)  (hC : w = w1 ∧ rc = fOfGuest (w.1 1 2) (w.1 7 d) (w.1 8 d) (zWC w d) d what) (hM : w1 = w2 ∧ rm = fOfGuest (w1.1 33 3) (w1.1 34 d) (w1.1 35 d) (zWMo w1 d) d what) : rc = rm := by
  obtain ⟨rfl, ha⟩ := hC
  obtain ⟨rfl, hb⟩ := hM
  rw [ha, hb, hR.ds, hR.ch, hR.co, hR.won]
theorem a_pleased {w w1 w2 : zW} {g d : Int} {rc rm : Int} (hR : zRel w w) (hO : zOk w) (hO1 : zOk w1)  (hC : w = w1 ∧ rc = fPleased (w.1 1 3) (w.1 1 2) (zPC w g d) g d) (hM : w1 = w2 ∧ rm = fPleased (w1.1 33 6) (w1.1 33 3) (zPM w1 g d) g d) : rc = rm := by
  obtain ⟨rfl, ha⟩ := hC
  obtain ⟨rfl, hb⟩ := hM
  rw [ha, hb, hR.gs, hR.ds, hR.pl]
theorem a_dull {w w1 w2 : zW} {g : Int} {rc rm : Int} (hR : zRel w w) (hO : zOk w) (hO1 : zOk w1)  (hC : w = w1 ∧ rc = (if g < 0 ∨ w.1 1 3 ≤ g then -1 else (zDul (fun d => zPC w g d) (w.1 1 1) (w.1 1 2).toNat).1)) (hM : w1 = w2 ∧ rm = (if g < 0 ∨ w1.1 33 6 ≤ g then -1 else (zDul (fun d => zPM w1 g d) (w1.1 33 2) (w1.1 33 3).toNat).1)) : rc = rm := by
  obtain ⟨rfl, ha⟩ := hC
  obtain ⟨rfl, hb⟩ := hM
  rw [ha, hb, show (fun d => zPC w g d) = fun d => zPM w g d from funext fun d => hR.pl g d, hR.gs, hR.sr, hR.ds]
theorem a_ask {w w1 w2 : zW} {set : Int} {rc rm : Int} (hR : zRel w w) (hO : zOk w) (hO1 : zOk w1)  (hC : w = w1 ∧ rc = (if w.1 1 3 = 0 then -3 else if set < 0 ∨ zshl 1 (w.1 1 3) ≤ set then -2 else (zAsk (fun d => ziand set (zWC w d)) (fun d => w.1 8 d) 13 (w.1 1 2).toNat).1)) (hM : w1 = w2 ∧ rm = (if w1.1 33 6 = 0 then -3 else if set < 0 ∨ zshl 1 (w1.1 33 6) ≤ set then -2 else (zAsk (fun d => ziand set (zWMo w1 d)) (fun d => w1.1 35 d) 99 (w1.1 33 3).toNat).1)) : rc = rm := by
  obtain ⟨rfl, ha⟩ := hC
  obtain ⟨rfl, hb⟩ := hM
  rw [ha, hb, show (fun d => ziand set (zWC w d)) = fun d => ziand set (zWMo w d) from funext fun d => by rw [hR.won], show (fun d => w.1 8 d) = fun d => w.1 35 d from funext fun d => hR.co d, hR.gs, hR.ds]
  rcases zAsk_99 (shown := fun d => ziand set (zWMo w d)) (cost := fun d => w.1 35 d) (fun d => by have q := (hO 35 d).2; change w.1 35 d ≤ 3 at q; omega) (w.1 33 3).toNat with ⟨p, q⟩ | p
  · rw [p, q]
  · rw [p]
theorem a_limits {w w1 w2 : zW} {rc rm : Int} (hR : zRel w w) (hO : zOk w) (hO1 : zOk w1)  (hC : w = w1 ∧ rc = (if w.1 1 3 = 0 then -3 else zSet (fun v => decide (1 ≤ v) && zSoC (zput w 1 1 v)) 10)) (hM : w1 = w2 ∧ rm = (if w1.1 33 6 = 0 then -3 else zSet (fun v => decide (1 ≤ v) && zSoM (zput w1 33 2 v)) 10)) : rc = rm := by
  obtain ⟨rfl, ha⟩ := hC
  obtain ⟨rfl, hb⟩ := hM
  rw [ha, hb, hR.gs, zSet_eq (P := fun v => decide (1 ≤ v) && zSoC (zput w 1 1 v)) (Q := fun v => decide (1 ≤ v) && zSoM (zput w 33 2 v)) (n := 10) (fun v _ _ => by rw [(hR.p_strict v).so])]
theorem a_kinds {w w1 w2 : zW} {g : Int} {rc rm : Int} (hR : zRel w w) (hO : zOk w) (hO1 : zOk w1)  (hC : w = w1 ∧ rc = (if g < 0 ∨ w.1 1 3 ≤ g then -1 else zSet (fun v => zSoC (zput w 9 g v)) 3)) (hM : w1 = w2 ∧ rm = (if g < 0 ∨ w1.1 33 6 ≤ g then -1 else zSet (fun v => zSoM (zput w1 36 g v)) 3)) : rc = rm := by
  obtain ⟨rfl, ha⟩ := hC
  obtain ⟨rfl, hb⟩ := hM
  rw [ha, hb, hR.gs, zSet_eq (P := fun v => zSoC (zput w 9 g v)) (Q := fun v => zSoM (zput w 36 g v)) (n := 3) (fun v _ _ => by rw [(hR.p_kinds g v).so])]
theorem a_tastes {w w1 w2 : zW} {g : Int} {rc rm : Int} (hR : zRel w w) (hO : zOk w) (hO1 : zOk w1)  (hC : w = w1 ∧ rc = (if g < 0 ∨ w.1 1 3 ≤ g then -1 else zSet (fun v => zSoC (zput w 10 g v)) 10)) (hM : w1 = w2 ∧ rm = (if g < 0 ∨ w1.1 33 6 ≤ g then -1 else zSet (fun v => zSoM (zput w1 37 g v)) 10)) : rc = rm := by
  obtain ⟨rfl, ha⟩ := hC
  obtain ⟨rfl, hb⟩ := hM
  rw [ha, hb, hR.gs, zSet_eq (P := fun v => zSoC (zput w 10 g v)) (Q := fun v => zSoM (zput w 37 g v)) (n := 10) (fun v _ _ => by rw [(hR.p_tastes g v).so])]
theorem a_charms {w w1 w2 : zW} {d : Int} {rc rm : Int} (hR : zRel w w) (hO : zOk w) (hO1 : zOk w1)  (hC : w = w1 ∧ rc = (if d < 0 ∨ w.1 1 2 ≤ d then -1 else zSet (fun v => zSoC (zput w 7 d v)) 10)) (hM : w1 = w2 ∧ rm = (if d < 0 ∨ w1.1 33 3 ≤ d then -1 else zSet (fun v => zSoM (zput w1 34 d v)) 10)) : rc = rm := by
  obtain ⟨rfl, ha⟩ := hC
  obtain ⟨rfl, hb⟩ := hM
  rw [ha, hb, hR.ds, zSet_eq (P := fun v => zSoC (zput w 7 d v)) (Q := fun v => zSoM (zput w 34 d v)) (n := 10) (fun v _ _ => by rw [(hR.p_charms d v).so])]
theorem a_trace {w w1 w2 : zW} {rc rm : Int} (hR : zRel w w) (hO : zOk w) (hO1 : zOk w1)  (hC : w = w1 ∧ rc = w.1 0 6) (hM : w1 = w2 ∧ rm = w1.1 33 37) : rc = rm := by
  obtain ⟨rfl, ha⟩ := hC
  obtain ⟨rfl, hb⟩ := hM
  rw [ha, hb, hR.tr]
theorem a_many {w w1 w2 : zW} {what : Int} {rc rm : Int} (hR : zRel w w) (hO : zOk w) (hO1 : zOk w1)  (hC : w = w1 ∧ rc = fMany (w.1 1 3) (w.1 1 2) (w.1 1 0) (w.1 1 1) (w.1 6 3) what) (hM : w1 = w2 ∧ rm = fMany (w1.1 33 6) (w1.1 33 3) (w1.1 33 1) (w1.1 33 2) (w1.1 33 29) what) : rc = rm := by
  obtain ⟨rfl, ha⟩ := hC
  obtain ⟨rfl, hb⟩ := hM
  rw [ha, hb, hR.gs, hR.ds, hR.st, hR.sr, hR.rs]
theorem a_strict {w w1 w2 : zW} {v : Int} {rc rm : Int} (hR : zRel w w) (hO : zOk w) (hO1 : zOk w1)  (hC : rc = fStrict (w.1 1 3) (w.1 1 1) v ∧ ∀ i k, w1.1 i k = (if i = 1 ∧ k = 1 ∧ 1 ≤ v ∧ v ≤ 9 ∧ 0 < w.1 1 3 then v else w.1 i k)) (hM : rm = fStrict (w1.1 33 6) (w1.1 33 2) v ∧ ∀ i k, w2.1 i k = (if i = 33 ∧ k = 2 ∧ 1 ≤ v ∧ v ≤ 9 ∧ 0 < w1.1 33 6 then v else w1.1 i k)) : rc = rm := by
  obtain ⟨ha, hE⟩ := hC
  have hb := hM.1
  have hR1 : zRel w w1 := hR.m (fun i' k' q hk => by rw [hE i' k']; (repeat' split) <;> first | rfl | (exfalso; omega))
  rw [ha, hb, hR1.gs, hR1.sr]
theorem a_stars {w w1 w2 : zW} {v : Int} {rc rm : Int} (hR : zRel w w) (hO : zOk w) (hO1 : zOk w1)  (hC : rc = fStars (w.1 1 3) (w.1 1 0) v ∧ ∀ i k, w1.1 i k = (if i = 1 ∧ k = 0 ∧ 0 ≤ v ∧ v ≤ 5 ∧ 0 < w.1 1 3 then v else w.1 i k)) (hM : rm = fStars (w1.1 33 6) (w1.1 33 1) v ∧ ∀ i k, w2.1 i k = (if i = 33 ∧ k = 1 ∧ 0 ≤ v ∧ v ≤ 5 ∧ 0 < w1.1 33 6 then v else w1.1 i k)) : rc = rm := by
  obtain ⟨ha, hE⟩ := hC
  have hb := hM.1
  have hR1 : zRel w w1 := hR.m (fun i' k' q hk => by rw [hE i' k']; (repeat' split) <;> first | rfl | (exfalso; omega))
  rw [ha, hb, hR1.gs, hR1.st]
theorem a_reading {w w1 w2 : zW} {g d b : Int} {rc rm : Int} (hR : zRel w w) (hO : zOk w) (hO1 : zOk w1)  (hC : rc = fReading (w.1 1 3) (w.1 1 2) (w.1 6 3) g d ∧ ∀ i k, w1.1 i k = (if 0 ≤ g ∧ g < w.1 1 3 ∧ 0 ≤ d ∧ d < w.1 1 2 ∧ w.1 6 3 < 8 then (if i = 6 ∧ k = 3 then w.1 6 3 + 1 else if i = 32 ∧ k = w.1 6 3 then b else if i = 31 ∧ k = w.1 6 3 then d else if i = 30 ∧ k = w.1 6 3 then g else w.1 i k) else w.1 i k)) (hM : rm = fReading (w1.1 33 6) (w1.1 33 3) (w1.1 33 29) g d ∧ ∀ i k, w2.1 i k = (if 0 ≤ g ∧ g < w1.1 33 6 ∧ 0 ≤ d ∧ d < w1.1 33 3 ∧ w1.1 33 29 < 8 then (if i = 33 ∧ k = 29 then w1.1 33 29 + 1 else if i = 47 ∧ k = w1.1 33 29 then b else if i = 46 ∧ k = w1.1 33 29 then d else if i = 45 ∧ k = w1.1 33 29 then g else w1.1 i k) else w1.1 i k)) : rc = rm := by
  obtain ⟨ha, hE⟩ := hC
  have hb := hM.1
  have hR1 : zRel w w1 := hR.m (fun i' k' q hk => by rw [hE i' k']; (repeat' split) <;> first | rfl | (exfalso; omega))
  rw [ha, hb, hR1.gs, hR1.ds, hR1.rs]
theorem a_back {w w1 w2 : zW} {k : Int} {rc rm : Int} (hR : zRel w w) (hO : zOk w) (hO1 : zOk w1)  (hC : rc = fBack (w.1 6 3) k ∧ (∀ i j, w1.1 i j = (if i = 6 ∧ j = 3 ∧ 0 ≤ k ∧ k ≤ w.1 6 3 then w.1 6 3 - k else w.1 i j))) (hM : rm = fBack (w1.1 33 29) k ∧ (∀ i j, w2.1 i j = (if i = 33 ∧ j = 29 ∧ 0 ≤ k ∧ k ≤ w1.1 33 29 then w1.1 33 29 - k else w1.1 i j))) : rc = rm := by
  obtain ⟨ha, hE⟩ := hC
  have hb := hM.1
  have hR1 : zRel w w1 := hR.m (fun i' k' q hk => by rw [hE i' k']; (repeat' split) <;> first | rfl | (exfalso; omega))
  rw [ha, hb, hR1.rs]
theorem a_tell {w w1 w2 : zW} {g : Int} {rc rm : Int} (hR : zRel w w) (hO : zOk w) (hO1 : zOk w1)  (hC : rc = fTell (w.1 1 3) (w.1 9 g) (w.1 10 g) g ∧ (∀ i k, w1.1 i k = (if i = 0 ∧ k = 6 then fTellT (w.1 1 3) (w.1 9 g) (w.1 0 6) g else w.1 i k))) (hM : rm = fTell (w1.1 33 6) (w1.1 36 g) (w1.1 37 g) g ∧ (∀ i k, w2.1 i k = (if i = 33 ∧ k = 37 then fTellT (w1.1 33 6) (w1.1 36 g) (w1.1 33 37) g else w1.1 i k))) : rc = rm := by
  obtain ⟨ha, hE⟩ := hC
  have hb := hM.1
  have hR1 : zRel w w1 := hR.m (fun i' k' q hk => by rw [hE i' k']; (repeat' split) <;> first | rfl | (exfalso; omega))
  rw [ha, hb, hR1.gs, hR1.ki, hR1.ta]
theorem a_greet {w w1 w2 : zW} {g : Int} {rc rm : Int} (hR : zRel w w) (hO : zOk w) (hO1 : zOk w1)  (hC : rc = fGreet (w.1 1 3) (w.1 9 g) g ∧ (∀ i k, w1.1 i k = (if i = 0 ∧ k = 6 then fGreetT (w.1 1 3) (w.1 9 g) (w.1 0 6) g else w.1 i k))) (hM : rm = fGreet (w1.1 33 6) (w1.1 36 g) g ∧ (∀ i k, w2.1 i k = (if i = 33 ∧ k = 37 then fGreetT (w1.1 33 6) (w1.1 36 g) (w1.1 33 37) g else w1.1 i k))) : rc = rm := by
  obtain ⟨ha, hE⟩ := hC
  have hb := hM.1
  have hR1 : zRel w w1 := hR.m (fun i' k' q hk => by rw [hE i' k']; (repeat' split) <;> first | rfl | (exfalso; omega))
  rw [ha, hb, hR1.gs, hR1.ki]
theorem a_as {w w1 w2 : zW} {g kind : Int} {rc rm : Int} (hR : zRel w w) (hO : zOk w) (hO1 : zOk w1)  (hC : rc = fAs (w.1 1 3) (w.1 9 g) g kind ∧ zEq w w1) (hM : rm = fAs (w1.1 33 6) (w1.1 36 g) g kind ∧ zEq w1 w2) : rc = rm := by
  obtain ⟨ha, hE⟩ := hC
  have hb := hM.1
  have hR1 : zRel w w1 := hR.m (fun i' k' _ hk => hE i' k' hk)
  rw [ha, hb, hR1.gs, hR1.ki]
theorem a_lose {w w1 w2 : zW} {k : Int} {rc rm : Int} (hR : zRel w w) (hO : zOk w) (hO1 : zOk w1)  (hC : rc = fLose (zSz w k) k ∧ (∀ i j, w1.1 i j = (if i = 13 ∧ j = k ∧ 0 ≤ k ∧ k < 4 then 0 else w.1 i j))) (hM : rm = fLose (w1.1 48 k) k ∧ (∀ i j, w2.1 i j = (if i = 48 ∧ j = k ∧ 0 ≤ k ∧ k < 4 then -1 else w1.1 i j))) : rc = rm := by
  obtain ⟨ha, hE⟩ := hC
  have hb := hM.1
  have hR1 : zRel w w1 := hR.m (fun i' k' q hk => by rw [hE i' k']; (repeat' split) <;> first | rfl | (exfalso; omega))
  rw [ha, hb, hR1.sz]
theorem a_put {w w1 w2 : zW} {k i v : Int} {rc rm : Int} (hR : zRel w w) (hO : zOk w) (hO1 : zOk w1)  (hC : rc = fPut (zSz w k) k i ∧ (∀ i' j', zkeep i' j' = true → w1.1 i' j' = (if fPut (zSz w k) k i = 1 ∧ i' = 16 + k.toNat ∧ j' = i then zCut (w.1 14 k) v else w.1 i' j'))) (hM : rm = fPut (w1.1 48 k) k i ∧ (∀ i' j', zkeep i' j' = true → w2.1 i' j' = (if fPut (w1.1 48 k) k i = 1 ∧ i' = 50 ∧ j' = 60 * k + i then zCut (w1.1 49 k) v else w1.1 i' j'))) : rc = rm := by
  obtain ⟨ha, hE⟩ := hC
  have hb := hM.1
  have hk4 : fPut (zSz w k) k i = 1 → 0 ≤ k ∧ k < 4 := (by unfold fPut; (repeat' split) <;> omega)
  have hR1 : zRel w w1 := hR.m (fun i' k' q hk => by rw [hE i' k' hk]; (repeat' split) <;> first | rfl | (exfalso; omega))
  rw [ha, hb, hR1.sz]
theorem a_sheet {w w1 w2 : zW} {k lane n : Int} {rc rm : Int} (hR : zRel w w) (hO : zOk w) (hO1 : zOk w1)  (hC : rc = fSheet k lane n ∧ (∀ i' k', zkeep i' k' = true → w1.1 i' k' = (if fSheet k lane n = 1 then (if i' = 13 ∧ k' = k then 1 else if i' = 14 ∧ k' = k then lane else if i' = 15 ∧ k' = k then n else if i' = 16 + k.toNat ∧ 0 ≤ k' ∧ k' < n then 0 else w.1 i' k') else w.1 i' k'))) (hM : rm = fSheet k lane n ∧ (∀ i' k', zkeep i' k' = true → w2.1 i' k' = (if fSheet k lane n = 1 then (if i' = 48 ∧ k' = k then n else if i' = 49 ∧ k' = k then lane else if i' = 50 ∧ 60 * k ≤ k' ∧ k' < 60 * k + n then 0 else w1.1 i' k') else w1.1 i' k'))) : rc = rm := by
  obtain ⟨ha, hE⟩ := hC
  rw [ha, hM.1]
theorem a_copy {w w1 w2 : zW} {k i o j n : Int} {rc rm : Int} (hR : zRel w w) (hO : zOk w) (hO1 : zOk w1)  (hC : rc = fCopy (zSz w k) (zSz w o) (w.1 14 k) (w.1 14 o) k i o j n ∧ (∀ i' k', zkeep i' k' = true → w1.1 i' k' = (if 0 ≤ fCopy (zSz w k) (zSz w o) (w.1 14 k) (w.1 14 o) k i o j n ∧ i' = 16 + o.toNat ∧ j ≤ k' ∧ k' < j + n then w.1 (16 + k.toNat) (i + (k' - j)) else w.1 i' k'))) (hM : rm = fCopy (w1.1 48 k) (w1.1 48 o) (w1.1 49 k) (w1.1 49 o) k i o j n ∧ (∀ i' k', zkeep i' k' = true → w2.1 i' k' = (if 0 ≤ fCopy (w1.1 48 k) (w1.1 48 o) (w1.1 49 k) (w1.1 49 o) k i o j n ∧ i' = 50 ∧ 60 * o + j ≤ k' ∧ k' < 60 * o + j + n then w1.1 50 (60 * k + i + (k' - 60 * o - j)) else w1.1 i' k'))) : rc = rm := by
  obtain ⟨ha, hE⟩ := hC
  have hb := hM.1
  have hk4 : 0 ≤ fCopy (zSz w k) (zSz w o) (w.1 14 k) (w.1 14 o) k i o j n → 0 ≤ o ∧ o < 4 := (by unfold fCopy; (repeat' split) <;> omega)
  have hR1 : zRel w w1 := hR.m (fun i' k' q hk => by rw [hE i' k' hk]; (repeat' split) <;> first | rfl | (exfalso; omega))
  rw [ha, hb, hR1.sz k, hR1.sz o, hR1.ln k, hR1.ln o]
theorem a_cell {w w1 w2 : zW} {k i lane : Int} {rc rm : Int} (hR : zRel w w) (hO : zOk w) (hO1 : zOk w1)  (hC : rc = fCell (zSz w k) (w.1 14 k) (w.1 (16 + k.toNat) i) k i lane ∧ zEq w w1) (hM : rm = fCell (w1.1 48 k) (w1.1 49 k) (w1.1 50 (60 * k + i)) k i lane ∧ zEq w1 w2) : rc = rm := by
  obtain ⟨ha, hE⟩ := hC
  have hb := hM.1
  have hR1 : zRel w w1 := hR.m (fun i' k' _ hk => hE i' k' hk)
  have hL := hO1 48 k
  change -1 ≤ w1.1 48 k ∧ w1.1 48 k ≤ 60 at hL
  rw [ha, hb, hR1.sz, hR1.ln]
  unfold fCell
  by_cases z : k < 0 ∨ 4 ≤ k ∨ lane < 0 ∨ 2 < lane ∨ w1.1 48 k < 0 ∨ ¬ w1.1 49 k = lane ∨ i < 0 ∨ w1.1 48 k ≤ i
  · rw [if_pos z, if_pos z]
  · rw [if_neg z, if_neg z, hR1.row k i (by omega) (by omega) (by omega) (by omega)]
theorem a_season {w w1 w2 : zW} {g k lane i n what : Int} {rc rm : Int} (hR : zRel w w) (hO : zOk w) (hO1 : zOk w1)  (hC : rc = (if g < 0 ∨ w.1 1 3 ≤ g ∨ k < 0 ∨ 4 ≤ k then -1 else if lane < 0 ∨ 2 < lane ∨ n < 0 ∨ 20 < n ∨ what < 0 ∨ 4 < what then -2 else if ¬ fPairs (w.1 1 3) (w.1 1 2) (zSz w k) (w.1 14 k) lane i n (fun j => w.1 (16 + k.toNat) (i + j)) = 0 then fPairs (w.1 1 3) (w.1 1 2) (zSz w k) (w.1 14 k) lane i n (fun j => w.1 (16 + k.toNat) (i + j)) else if what = 1 then (zSeaC w (16 + k.toNat) i g n.toNat).2.1 else if ¬ (zSeaC w (16 + k.toNat) i g n.toNat).2.1 = -9 then -100 - (zSeaC w (16 + k.toNat) i g n.toNat).2.1 else if what = 0 then (zSeaC w (16 + k.toNat) i g n.toNat).1 else if what = 2 then (zSeaC w (16 + k.toNat) i g n.toNat).2.2.1 else if what = 3 then (zSeaC w (16 + k.toNat) i g n.toNat).2.2.2.1 else (zSeaC w (16 + k.toNat) i g n.toNat).2.2.2.2) ∧ zEq w w1) (hM : rm = (if g < 0 ∨ w1.1 33 6 ≤ g ∨ k < 0 ∨ 4 ≤ k then -1 else if lane < 0 ∨ 2 < lane ∨ n < 0 ∨ 20 < n ∨ what < 0 ∨ 4 < what then -2 else if ¬ fPairs (w1.1 33 6) (w1.1 33 3) (w1.1 48 k) (w1.1 49 k) lane i n (fun j => w1.1 50 (60 * k + i + j)) = 0 then fPairs (w1.1 33 6) (w1.1 33 3) (w1.1 48 k) (w1.1 49 k) lane i n (fun j => w1.1 50 (60 * k + i + j)) else if what = 1 then (zSeaM w1 (60 * k + i) g n.toNat).2.1 else if ¬ (zSeaM w1 (60 * k + i) g n.toNat).2.1 = -9 then -100 - (zSeaM w1 (60 * k + i) g n.toNat).2.1 else if what = 0 then (zSeaM w1 (60 * k + i) g n.toNat).1 else if what = 2 then (zSeaM w1 (60 * k + i) g n.toNat).2.2.1 else if what = 3 then (zSeaM w1 (60 * k + i) g n.toNat).2.2.2.1 else (zSeaM w1 (60 * k + i) g n.toNat).2.2.2.2) ∧ zEq w1 w2) : rc = rm := by
  obtain ⟨ha, hE⟩ := hC
  have hb := hM.1
  have hR1 : zRel w w1 := hR.m (fun i' k' _ hk => hE i' k' hk)
  by_cases hk : k < 0 ∨ 4 ≤ k
  · rw [ha, hb]; rw [if_pos (by omega), if_pos (by omega)]
  have hL := hO1 48 k
  change -1 ≤ w1.1 48 k ∧ w1.1 48 k ≤ 60 at hL
  rw [ha, hb, hR1.pairs hO1 lane (by omega) (by omega), hR1.gs]
  by_cases z : fPairs (w1.1 33 6) (w1.1 33 3) (w1.1 48 k) (w1.1 49 k) lane i n (fun j => w1.1 50 (60 * k + i + j)) = 0
  · have z2 := fPairs_0 z
    rw [hR1.sea g (by omega) (by omega) z2.1 (by omega)]
  · split
    · rfl
    · split
      · rfl
      · first | rfl | rw [if_pos z, if_pos z]
theorem a_may {w w1 w2 : zW} {k lane i n v : Int} {rc rm : Int} (hR : zRel w w) (hO : zOk w) (hO1 : zOk w1)  (hC : rc = (if ¬ (if k < 0 ∨ 4 ≤ k then -1 else if lane < 0 ∨ 2 < lane ∨ n < 0 ∨ 20 < n ∨ v < 0 ∨ 5 < v then -2 else if w.1 1 3 = 0 then -3 else fPairs (w.1 1 3) (w.1 1 2) (zSz w k) (w.1 14 k) lane i n (fun j => w.1 (16 + k.toNat) (i + j))) = 0 then (if k < 0 ∨ 4 ≤ k then -1 else if lane < 0 ∨ 2 < lane ∨ n < 0 ∨ 20 < n ∨ v < 0 ∨ 5 < v then -2 else if w.1 1 3 = 0 then -3 else fPairs (w.1 1 3) (w.1 1 2) (zSz w k) (w.1 14 k) lane i n (fun j => w.1 (16 + k.toNat) (i + j))) else if ¬ (zSeaC w (16 + k.toNat) i 0 n.toNat).2.1 = -9 then -100 - (zSeaC w (16 + k.toNat) i 0 n.toNat).2.1 else zSet (fun g => decide ((zSeaC w (16 + k.toNat) i g n.toNat).1 = v)) (w.1 1 3).toNat) ∧ zEq w w1) (hM : rm = (if ¬ (if k < 0 ∨ 4 ≤ k then -1 else if lane < 0 ∨ 2 < lane ∨ n < 0 ∨ 20 < n ∨ v < 0 ∨ 5 < v then -2 else if w1.1 33 6 = 0 then -3 else fPairs (w1.1 33 6) (w1.1 33 3) (w1.1 48 k) (w1.1 49 k) lane i n (fun j => w1.1 50 (60 * k + i + j))) = 0 then (if k < 0 ∨ 4 ≤ k then -1 else if lane < 0 ∨ 2 < lane ∨ n < 0 ∨ 20 < n ∨ v < 0 ∨ 5 < v then -2 else if w1.1 33 6 = 0 then -3 else fPairs (w1.1 33 6) (w1.1 33 3) (w1.1 48 k) (w1.1 49 k) lane i n (fun j => w1.1 50 (60 * k + i + j))) else if ¬ (zSeaM w1 (60 * k + i) 0 n.toNat).2.1 = -9 then -100 - (zSeaM w1 (60 * k + i) 0 n.toNat).2.1 else zSet (fun g => decide ((zSeaM w1 (60 * k + i) g n.toNat).1 = v)) (w1.1 33 6).toNat) ∧ zEq w1 w2) : rc = rm := by
  obtain ⟨ha, hE⟩ := hC
  have hb := hM.1
  have hR1 : zRel w w1 := hR.m (fun i' k' _ hk => hE i' k' hk)
  by_cases hk : k < 0 ∨ 4 ≤ k
  · rw [ha, hb]; rw [if_pos (show k < 0 ∨ 4 ≤ k from hk), if_pos (show k < 0 ∨ 4 ≤ k from hk), if_pos (by decide), if_pos (by decide)]
  have hL := hO1 48 k
  change -1 ≤ w1.1 48 k ∧ w1.1 48 k ≤ 60 at hL
  rw [ha, hb, hR1.pairs hO1 lane (by omega) (by omega), hR1.gs]
  by_cases z : (if k < 0 ∨ 4 ≤ k then -1 else if lane < 0 ∨ 2 < lane ∨ n < 0 ∨ 20 < n ∨ v < 0 ∨ 5 < v then -2 else if w1.1 33 6 = 0 then -3 else fPairs (w1.1 33 6) (w1.1 33 3) (w1.1 48 k) (w1.1 49 k) lane i n (fun j => w1.1 50 (60 * k + i + j))) = 0
  · have z2 := fPairs_0 (zif3 z)
    rw [hR1.sea 0 (by omega) (by omega) z2.1 (by omega), zSet_eq (P := fun g => decide ((zSeaC w (16 + k.toNat) i g n.toNat).1 = v)) (Q := fun g => decide ((zSeaM w1 (60 * k + i) g n.toNat).1 = v)) (n := (w1.1 33 6).toNat) (fun g _ _ => by rw [hR1.sea g (by omega) (by omega) z2.1 (by omega)])]
  · rw [if_pos z, if_pos z]
theorem a_odds {w w1 w2 : zW} {k lane i n v which : Int} {rc rm : Int} (hR : zRel w w) (hO : zOk w) (hO1 : zOk w1)  (hC : rc = (if ¬ (if k < 0 ∨ 4 ≤ k then -1 else if lane < 0 ∨ 2 < lane ∨ n < 0 ∨ 20 < n ∨ v < 0 ∨ 5 < v then -2 else if w.1 1 3 = 0 then -3 else fPairs (w.1 1 3) (w.1 1 2) (zSz w k) (w.1 14 k) lane i n (fun j => w.1 (16 + k.toNat) (i + j))) = 0 ∨ which < 0 ∨ 1 < which then zLOST else if ¬ (zSeaC w (16 + k.toNat) i 0 n.toNat).2.1 = -9 then zLOST else fShare (zCnt (fun g => decide (v ≤ (zSeaC w (16 + k.toNat) i g n.toNat).1)) (w.1 1 3).toNat) (w.1 1 3) which) ∧ zEq w w1) (hM : rm = (if ¬ (if k < 0 ∨ 4 ≤ k then -1 else if lane < 0 ∨ 2 < lane ∨ n < 0 ∨ 20 < n ∨ v < 0 ∨ 5 < v then -2 else if w1.1 33 6 = 0 then -3 else fPairs (w1.1 33 6) (w1.1 33 3) (w1.1 48 k) (w1.1 49 k) lane i n (fun j => w1.1 50 (60 * k + i + j))) = 0 ∨ which < 0 ∨ 1 < which then zLOST else if ¬ (zSeaM w1 (60 * k + i) 0 n.toNat).2.1 = -9 then zLOST else fShare (zCnt (fun g => decide (v ≤ (zSeaM w1 (60 * k + i) g n.toNat).1)) (w1.1 33 6).toNat) (w1.1 33 6) which) ∧ zEq w1 w2) : rc = rm := by
  obtain ⟨ha, hE⟩ := hC
  have hb := hM.1
  have hR1 : zRel w w1 := hR.m (fun i' k' _ hk => hE i' k' hk)
  by_cases hk : k < 0 ∨ 4 ≤ k
  · rw [ha, hb]; rw [if_pos (Or.inl (by rw [if_pos hk]; decide)), if_pos (Or.inl (by rw [if_pos hk]; decide))]
  have hL := hO1 48 k
  change -1 ≤ w1.1 48 k ∧ w1.1 48 k ≤ 60 at hL
  rw [ha, hb, hR1.pairs hO1 lane (by omega) (by omega), hR1.gs]
  by_cases z : (if k < 0 ∨ 4 ≤ k then -1 else if lane < 0 ∨ 2 < lane ∨ n < 0 ∨ 20 < n ∨ v < 0 ∨ 5 < v then -2 else if w1.1 33 6 = 0 then -3 else fPairs (w1.1 33 6) (w1.1 33 3) (w1.1 48 k) (w1.1 49 k) lane i n (fun j => w1.1 50 (60 * k + i + j))) = 0
  · have z2 := fPairs_0 (zif3 z)
    rw [hR1.sea 0 (by omega) (by omega) z2.1 (by omega), zCnt_eq (P := fun g => decide (v ≤ (zSeaC w (16 + k.toNat) i g n.toNat).1)) (Q := fun g => decide (v ≤ (zSeaM w1 (60 * k + i) g n.toNat).1)) (n := (w1.1 33 6).toNat) (fun g _ _ => by rw [hR1.sea g (by omega) (by omega) z2.1 (by omega)])]
  · rw [if_pos (Or.inl z), if_pos (Or.inl z)]
theorem a_hotel {w w1 w2 : zW} {k lane i n : Int} {rc rm : Int} (hR : zRel w w) (hO : zOk w) (hO1 : zOk w1)  (hC : rc = fHotel (zSz w k) (w.1 14 k) k lane i n (zTx (fun q => w.1 (16 + k.toNat) (i + q)) n) ∧ ((rc < 2 ∧ zEq w w1) ∨ (2 ≤ rc ∧ (zTx (fun q => w.1 (16 + k.toNat) (i + q)) n).1 = true ∧ 0 ≤ k ∧ k < 4 ∧ 0 ≤ i ∧ 0 ≤ n ∧ i + n ≤ zSz w k ∧ zSz w k ≤ 60 ∧ (∀ i' k', zkeep i' k' = true → w1.1 i' k' = (if i' = 6 ∧ k' = 3 then 0 else zHoC w (fun q => w.1 (16 + k.toNat) (i + q)) (zTx (fun q => w.1 (16 + k.toNat) (i + q)) n).2.2.1 (zTx (fun q => w.1 (16 + k.toNat) (i + q)) n).2.2.2 i' k'))))) (hM : rm = fHotel (w1.1 48 k) (w1.1 49 k) k lane i n (zTx (fun q => w1.1 50 (60 * k + i + q)) n) ∧ ((rm < 2 ∧ zEq w1 w2) ∨ (2 ≤ rm ∧ (zTx (fun q => w1.1 50 (60 * k + i + q)) n).1 = true ∧ 0 ≤ k ∧ k < 4 ∧ 0 ≤ i ∧ 0 ≤ n ∧ i + n ≤ w1.1 48 k ∧ (∀ i' k', zkeep i' k' = true → w2.1 i' k' = (if i' = 33 ∧ k' = 29 then 0 else zHoM w1 (fun q => w1.1 50 (60 * k + i + q)) (zTx (fun q => w1.1 50 (60 * k + i + q)) n).2.2.1 (zTx (fun q => w1.1 50 (60 * k + i + q)) n).2.2.2 i' k'))))) : rc = rm := by
  have ha := hC.1
  have hb := hM.1
  have hR1 : zRel w w1 := hR.m (fun i' k' q hk => by
    rcases hC.2 with ⟨_, z⟩ | ⟨_, _, k0, k1, _, _, _, _, z⟩
    · exact z i' k' hk
    · rw [z i' k' hk, if_neg (by omega)]
      unfold zHoC
      rw [if_neg (by omega), if_neg (by omega), if_neg (by omega), if_neg (by omega), if_neg (by omega), if_neg (by omega), if_neg (by omega), if_neg (by omega), if_neg (by omega)])
  have hL := hO1 48 k
  change -1 ≤ w1.1 48 k ∧ w1.1 48 k ≤ 60 at hL
  rw [ha, hb, hR1.sz, hR1.ln]
  unfold fHotel
  by_cases z : k < 0 ∨ 4 ≤ k
  · rw [if_pos z, if_pos z]
  by_cases z2 : i < 0 ∨ w1.1 48 k < i + n
  · rw [if_pos z2, if_pos z2]
  rw [zTx_eq (n := n) (c1 := fun q => w.1 (16 + k.toNat) (i + q)) (c2 := fun q => w1.1 50 (60 * k + i + q)) (fun q q0 q1 => by
    show w.1 (16 + k.toNat) (i + q) = w1.1 50 (60 * k + i + q)
    rw [hR1.row k (i + q) (by omega) (by omega) (by omega) (by omega), Int.add_assoc])]
theorem a_fault {w w1 w2 : zW} {rc rm : Int} (hR : zRel w w) (hO : zOk w) (hO1 : zOk w1) (hF : w.1 0 7 = w.1 33 0) (hC : w = w1 ∧ rc = w.1 0 7) (hM : w1 = w2 ∧ rm = w1.1 33 0) : rc = rm := by
  obtain ⟨rfl, ha⟩ := hC
  obtain ⟨rfl, hb⟩ := hM
  rw [ha, hb, hF]
theorem a_fewest {w w1 w2 : zW} {g : Int} {rc rm : Int} (hR : zRel w w) (hO : zOk w) (hO1 : zOk w1) (hG : w.1 33 6 = 0) (hC : rc = (if g < -1 then -1 else if w.1 1 3 = 0 then -3 else if w.1 1 3 ≤ g ∨ zLC w (w.1 1 3).toNat 12 = 1000000 then -9 else if g < 0 then zWnC w (w.1 1 3).toNat else zDgC w g) ∧ zEq w w1) (hM : zEq w1 w2 ∧ ((g < -1 ∧ rm = -1) ∨ (-1 ≤ g ∧ w1.1 33 6 = 0 ∧ rm = -3) ∨ (-1 ≤ g ∧ 0 < w1.1 33 6))) : rc = rm := by
  obtain ⟨ha, hE⟩ := hC
  have h6 : w1.1 33 6 = 0 := (hE 33 6 rfl).trans hG
  rw [ha, hR.gs, hG, if_pos (show (0 : Int) = 0 from rfl)]
  split <;> omega
