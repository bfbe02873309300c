set_option maxRecDepth 20000 in
set_option maxHeartbeats 4000000 in
theorem cP_weight (w : zW) (g : Int) (d : Int) (l : Int) (hg0 : 0 ≤ g) (hg1 : g < 6) (hd0 : 0 ≤ d) (hd1 : d < 4) (hl0 : 0 ≤ l) (hl1 : l ≤ 12) : zC mP_weight 2 [zR 5, zR 1, zI g, zI d, zI l] w (zrI fun a w' => w = w' ∧ a = zWt (fun d => w.1 8 d) (zOwnC w) (fun q => w.1 (22 + (g + 1).toNat) q) g l d ∧ -1021 ≤ a ∧ a ≤ 1001000) := by
  refine zC.of (by decide +kernel) (Nat.le_of_ble_eq_true rfl) ?_
  show zM mP_weight (zZm 2 _) 0 [(0, zR 5), (1, zR 1), (2, zI g), (3, zI d), (4, zI l)] [] w
  refine r_iload 4 4 dP_weight_0 rfl ?_
  refine r_aload_n 1 1 dP_weight_2 rfl rfl ?_
  refine r_getRN (k := 5) (b := 8) fX0 rfl rfl rfl (by decide) kw_40 rfl dP_weight_3 ?_
  refine r_iload_n 3 3 dP_weight_6 rfl rfl ?_
  refine r_iaload rfl (by decide) dP_weight_7 (by omega) (by omega) rfl (fun y_7 ey_7 ly_7 uy_7 => ?_)
  refine r_isub dP_weight_8 ?_
  refine r_nmI (fun x_9 ex_9 => ?_)
  refine r_istore (ls' := [(5, zI x_9), (0, zR 5), (1, zR 1), (2, zI g), (3, zI d), (4, zI l)]) 5 dP_weight_9 (by decide) rfl ?_
  refine r_iload 5 0 dP_weight_11 rfl ?_
  refine r_if_lt 32 dP_weight_13 (by decide) ⟨by omega, by omega⟩ (fun c_13 => ?_) (fun c_13 => ?_)
  · skip
    refine r_ldc (a := 1000000) dP_weight_32 kw_362 (by decide +kernel) ?_
    refine r_iret rfl dP_weight_34 ⟨_, rfl, ?_⟩
    exact ⟨rfl, by show _ = (if l - w.1 8 d < 0 ∨ w.1 (22 + (g + 1).toNat) (l - w.1 8 d) = 1000000 then (1000000 : Int) else zOwnC w g d + w.1 (22 + (g + 1).toNat) (l - w.1 8 d)); rw [if_pos]; first | exact Or.inl (by omega) | (refine Or.inr ?_; rw [← ey_7, ← ex_9, ← ey_26]; exact c_29) | (refine Or.inr ?_; rw [← ey_7, ← ex_9, ← ey_26]; omega), by decide, by decide⟩
  · refine r_aload_n 0 1 dP_weight_16 rfl rfl ?_
    refine r_getR (k := 0) (b := 21) fX3 rfl rfl rfl (by decide) kw_155 rfl dP_weight_17 ?_
    refine r_iload_n 2 3 dP_weight_20 rfl rfl ?_
    refine r_iconst dP_weight_21 ?_
    refine r_iadd dP_weight_22 ?_
    refine r_aaload (b := (22 + (g + 1).toNat)) rfl (by decide) dP_weight_23 (by omega) (by omega) (z_least _ (by omega) (by omega)) ?_
    refine r_iload 5 0 dP_weight_24 rfl ?_
    refine r_iaload (z_leastS (j := (g + 1)) (by omega) (by omega)) (by decide) dP_weight_26 (by omega) (by omega) (z_leastB (j := (g + 1)) (by omega) (by omega) _) (fun y_26 ey_26 ly_26 uy_26 => ?_)
    refine r_ldc (a := 1000000) dP_weight_27 kw_362 (by decide +kernel) ?_
    refine r_ic_ne 35 dP_weight_29 (by decide) ⟨by omega, by omega⟩ ⟨by omega, by omega⟩ (fun c_29 => ?_) (fun c_29 => ?_)
    · refine r_aload_n 1 2 dP_weight_35 rfl rfl ?_
      refine r_iload_n 2 3 dP_weight_36 rfl rfl ?_
      refine r_iload_n 3 4 dP_weight_37 rfl rfl ?_
      refine r_cVIN (cH_isWon w g d (by omega) (by omega) (by omega) (by omega)) qH_isWon rfl kw_367 rfl rfl dP_weight_38 (st0 := [zI d, zI g, zR 1]) (st := []) rfl ⟨Nat.le_of_ble_eq_true rfl, Nat.le_of_ble_eq_true rfl⟩ ⟨Nat.le_of_ble_eq_true rfl, Nat.le_of_ble_eq_true rfl⟩ (Nat.le_of_ble_eq_true rfl) (fun a_38 w_38 h_38 ok_38 => ?_)
      obtain ⟨rfl, h_38⟩ := h_38
      have J_51 : ∀ (b : Int) (hb : (w.1 1 1 ≤ zPC w g d ∧ b = 1000) ∨ (zPC w g d < w.1 1 1 ∧ b = 0)), zM mP_weight (zZm 2 (zrI fun a w' => w = w' ∧ a = zWt (fun d => w.1 8 d) (zOwnC w) (fun q => w.1 (22 + (g + 1).toNat) q) g l d ∧ -1021 ≤ a ∧ a ≤ 1001000)) 51 [(5, zI x_9), (0, zR 5), (1, zR 1), (2, zI g), (3, zI d), (4, zI l)] [zI b] w := by
        intro b hb
        refine r_istore (ls' := [(6, zI b), (5, zI x_9), (0, zR 5), (1, zR 1), (2, zI g), (3, zI d), (4, zI l)]) 6 dP_weight_51 (by decide) rfl ?_
        refine r_iload 6 0 dP_weight_53 rfl ?_
        refine r_aload_n 1 3 dP_weight_55 rfl rfl ?_
        refine r_iload_n 2 4 dP_weight_56 rfl rfl ?_
        refine r_iload_n 3 5 dP_weight_57 rfl rfl ?_
        refine r_cVIN (cH_pleasure w g d (by omega) (by omega) (by omega) (by omega)) qH_pleasure rfl kw_368 rfl rfl dP_weight_58 (st0 := [zI d, zI g, zR 1, zI b]) (st := [zI b]) rfl ⟨Nat.le_of_ble_eq_true rfl, Nat.le_of_ble_eq_true rfl⟩ ⟨Nat.le_of_ble_eq_true rfl, Nat.le_of_ble_eq_true rfl⟩ (Nat.le_of_ble_eq_true rfl) (fun a_58 w_58 h_58 ok_58 => ?_)
        obtain ⟨rfl, h_58⟩ := h_58
        refine r_isub dP_weight_61 ?_
        refine r_aload_n 0 2 dP_weight_62 rfl rfl ?_
        refine r_getR (k := 0) (b := 21) fX3 rfl rfl rfl (by decide) kw_155 rfl dP_weight_63 ?_
        refine r_iload_n 2 4 dP_weight_66 rfl rfl ?_
        refine r_iconst dP_weight_67 ?_
        refine r_iadd dP_weight_68 ?_
        refine r_aaload (b := (22 + (g + 1).toNat)) rfl (by decide) dP_weight_69 (by omega) (by omega) (z_least _ (by omega) (by omega)) ?_
        refine r_iload 5 1 dP_weight_70 rfl ?_
        refine r_iaload (z_leastS (j := (g + 1)) (by omega) (by omega)) (by decide) dP_weight_72 (by omega) (by omega) (z_leastB (j := (g + 1)) (by omega) (by omega) _) (fun y_72 ey_72 ly_72 uy_72 => ?_)
        refine r_iadd dP_weight_73 ?_
        refine r_iret rfl dP_weight_74 ⟨_, rfl, ?_⟩
        exact ⟨rfl, by show _ = (if l - w.1 8 d < 0 ∨ w.1 (22 + (g + 1).toNat) (l - w.1 8 d) = 1000000 then (1000000 : Int) else zOwnC w g d + w.1 (22 + (g + 1).toNat) (l - w.1 8 d)); rw [← ey_7, ← ex_9, ← ey_26, if_neg (by omega)]; unfold zOwnC; rw [← h_58.1]; split <;> omega, by omega, by omega⟩
      refine r_if_eq 50 dP_weight_41 (by decide) ⟨by omega, by omega⟩ (fun c_41 => ?_) (fun c_41 => ?_)
      · refine r_iconst dP_weight_50 ?_
        exact J_51 0 (by omega)
      · refine r_sipush dP_weight_44 (by decide) ?_
        refine r_goto 51 dP_weight_47 (by decide) ?_
        exact J_51 1000 (by omega)
    · skip
      refine r_ldc (a := 1000000) dP_weight_32 kw_362 (by decide +kernel) ?_
      refine r_iret rfl dP_weight_34 ⟨_, rfl, ?_⟩
      exact ⟨rfl, by show _ = (if l - w.1 8 d < 0 ∨ w.1 (22 + (g + 1).toNat) (l - w.1 8 d) = 1000000 then (1000000 : Int) else zOwnC w g d + w.1 (22 + (g + 1).toNat) (l - w.1 8 d)); rw [if_pos]; first | exact Or.inl (by omega) | (refine Or.inr ?_; rw [← ey_7, ← ex_9, ← ey_26]; exact c_29) | (refine Or.inr ?_; rw [← ey_7, ← ex_9, ← ey_26]; omega), by decide, by decide⟩

set_option maxRecDepth 20000 in
set_option maxHeartbeats 4000000 in
theorem cP_leastOf (w : zW) (g : Int) (l : Int) (hg0 : 0 ≤ g) (hg1 : g < 6) (hl0 : 0 ≤ l) (hl1 : l ≤ 12) : zC mP_leastOf 3 [zR 5, zR 1, zI g, zI l] w (zrI fun a w' => w = w' ∧ a = zMin (zWt (fun d => w.1 8 d) (zOwnC w) (fun q => w.1 (22 + (g + 1).toNat) q) g l) (w.1 1 2).toNat ∧ -1021 ≤ a ∧ a ≤ 1000000) := by
  refine zC.of (by decide +kernel) (Nat.le_of_ble_eq_true rfl) ?_
  show zM mP_leastOf (zZm 3 _) 0 [(0, zR 5), (1, zR 1), (2, zI g), (3, zI l)] [] w
  refine r_ok (fun hO => ?_)
  have hDs := hO 1 2
  change 0 ≤ w.1 1 2 ∧ w.1 1 2 ≤ 4 at hDs
  refine r_ldc (a := 1000000) dP_leastOf_0 kw_362 (by decide +kernel) ?_
  refine r_istore (ls' := [(4, zI 1000000), (0, zR 5), (1, zR 1), (2, zI g), (3, zI l)]) 4 dP_leastOf_2 (by decide) rfl ?_
  refine r_iconst dP_leastOf_4 ?_
  refine r_istore (ls' := [(5, zI 0), (4, zI 1000000), (0, zR 5), (1, zR 1), (2, zI g), (3, zI l)]) 5 dP_leastOf_5 (by decide) rfl ?_
  have L_7 : ∀ (n_7 : Nat) (best : Int) (i : Int) (hi0 : 0 ≤ i) (hi1 : i ≤ w.1 1 2) (hb0 : -1021 ≤ best) (hb1 : best ≤ 1000000) (hb : best = zMin (zWt (fun d => w.1 8 d) (zOwnC w) (fun q => w.1 (22 + (g + 1).toNat) q) g l) i.toNat), w.1 1 2 - i < (n_7 : Int) → zM mP_leastOf (zZm 3 (zrI fun a w' => w = w' ∧ a = zMin (zWt (fun d => w.1 8 d) (zOwnC w) (fun q => w.1 (22 + (g + 1).toNat) q) g l) (w.1 1 2).toNat ∧ -1021 ≤ a ∧ a ≤ 1000000)) 7 [(5, zI i), (4, zI best), (0, zR 5), (1, zR 1), (2, zI g), (3, zI l)] [] w := by
    intro n_7
    induction n_7 with
    | zero => intro best i hi0 hi1 hb0 hb1 hb hm_7; exfalso; omega
    | succ n_7 ih_7 =>
      intro best i hi0 hi1 hb0 hb1 hb hm_7
      refine r_iload 5 0 dP_leastOf_7 rfl ?_
      refine r_aload_n 1 3 dP_leastOf_9 rfl rfl ?_
      refine r_getIN (k := 2) fX0 rfl rfl (by decide) kw_30 rfl 2 rfl dP_leastOf_10 rfl (fun y_10 ey_10 ly_10 uy_10 => ?_)
      refine r_ic_ge 38 dP_leastOf_13 (by decide) ⟨by omega, by omega⟩ ⟨by omega, by omega⟩ (fun c_13 => ?_) (fun c_13 => ?_)
      · refine r_iload 4 1 dP_leastOf_38 rfl ?_
        refine r_iret rfl dP_leastOf_40 ⟨_, rfl, ?_⟩
        exact ⟨rfl, by rw [show (w.1 1 2).toNat = i.toNat by omega]; exact hb, hb0, hb1⟩
      · refine r_iload 4 1 dP_leastOf_16 rfl ?_
        refine r_aload_n 0 2 dP_leastOf_18 rfl rfl ?_
        refine r_aload_n 1 3 dP_leastOf_19 rfl rfl ?_
        refine r_iload_n 2 4 dP_leastOf_20 rfl rfl ?_
        refine r_iload 5 0 dP_leastOf_21 rfl ?_
        refine r_iload_n 3 5 dP_leastOf_23 rfl rfl ?_
        refine r_cVI (cP_weight w g i l (by omega) (by omega) (by omega) (by omega) (by omega) (by omega)) qP_weight rfl kw_363 rfl rfl dP_leastOf_24 (st0 := [zI l, zI i, zI g, zR 1, zR 5, zI best]) (st := [zI best]) rfl ⟨Nat.le_of_ble_eq_true rfl, Nat.le_of_ble_eq_true rfl⟩ ⟨Nat.le_of_ble_eq_true rfl, Nat.le_of_ble_eq_true rfl⟩ (Nat.le_of_ble_eq_true rfl) (fun a_24 w_24 h_24 ok_24 => ?_)
        obtain ⟨rfl, h_24⟩ := h_24
        refine r_min kw_369 kw_370 kw_9 kw_371 dP_leastOf_27 ⟨by omega, by omega⟩ ⟨by omega, by omega⟩ (Nat.le_of_ble_eq_true rfl) (Nat.le_of_ble_eq_true rfl) (Nat.le_of_ble_eq_true rfl) (Nat.le_of_ble_eq_true rfl) ?_
        refine r_nmI (fun x_30 ex_30 => ?_)
        refine r_istore (ls' := [(4, zI x_30), (5, zI i), (0, zR 5), (1, zR 1), (2, zI g), (3, zI l)]) 4 dP_leastOf_30 (by decide) rfl ?_
        refine r_iinc (ls' := [(5, zI (i + 1)), (4, zI x_30), (0, zR 5), (1, zR 1), (2, zI g), (3, zI l)]) 5 1 dP_leastOf_32 rfl (by decide) rfl ?_
        refine r_goto 7 dP_leastOf_35 (by decide) ?_
        exact ih_7 x_30 (i + 1) (by omega) (by omega) (by rw [ex_30]; split <;> omega) (by rw [ex_30]; split <;> omega) (by rw [zMin_s _ hi0, ← h_24.1, ← hb]; exact ex_30) (by omega)
  exact L_7 7 1000000 0 (by omega) (by omega) (by omega) (by omega) rfl (by omega)

set_option maxRecDepth 20000 in
set_option maxHeartbeats 4000000 in
theorem cP_firstBest (w : zW) (g : Int) (l : Int) (hg0 : 0 ≤ g) (hg1 : g < 6) (hl0 : 0 ≤ l) (hl1 : l ≤ 12) : zC mP_firstBest 3 [zR 5, zR 1, zI g, zI l] w (zrI fun a w' => w = w' ∧ a = zPk (zWt (fun d => w.1 8 d) (zOwnC w) (fun q => w.1 (22 + (g + 1).toNat) q) g l) (w.1 (22 + g.toNat) l) (w.1 1 2).toNat 0 ∧ 0 ≤ a ∧ a ≤ 3) := by
  refine zC.of (by decide +kernel) (Nat.le_of_ble_eq_true rfl) ?_
  show zM mP_firstBest (zZm 3 _) 0 [(0, zR 5), (1, zR 1), (2, zI g), (3, zI l)] [] w
  refine r_ok (fun hO => ?_)
  have hDs := hO 1 2
  change 0 ≤ w.1 1 2 ∧ w.1 1 2 ≤ 4 at hDs
  refine r_iconst dP_firstBest_0 ?_
  refine r_istore (ls' := [(4, zI 0), (0, zR 5), (1, zR 1), (2, zI g), (3, zI l)]) 4 dP_firstBest_1 (by decide) rfl ?_
  have L_3 : ∀ (n_3 : Nat) (i : Int) (hi0 : 0 ≤ i) (hi1 : i ≤ w.1 1 2) (hz : zPk (zWt (fun d => w.1 8 d) (zOwnC w) (fun q => w.1 (22 + (g + 1).toNat) q) g l) (w.1 (22 + g.toNat) l) (w.1 1 2).toNat 0 = zPk (zWt (fun d => w.1 8 d) (zOwnC w) (fun q => w.1 (22 + (g + 1).toNat) q) g l) (w.1 (22 + g.toNat) l) (w.1 1 2 - i).toNat i), w.1 1 2 - i < (n_3 : Int) → zM mP_firstBest (zZm 3 (zrI fun a w' => w = w' ∧ a = zPk (zWt (fun d => w.1 8 d) (zOwnC w) (fun q => w.1 (22 + (g + 1).toNat) q) g l) (w.1 (22 + g.toNat) l) (w.1 1 2).toNat 0 ∧ 0 ≤ a ∧ a ≤ 3)) 3 [(4, zI i), (0, zR 5), (1, zR 1), (2, zI g), (3, zI l)] [] w := by
    intro n_3
    induction n_3 with
    | zero => intro i hi0 hi1 hz hm_3; exfalso; omega
    | succ n_3 ih_3 =>
      intro i hi0 hi1 hz hm_3
      refine r_iload 4 0 dP_firstBest_3 rfl ?_
      refine r_aload_n 1 2 dP_firstBest_5 rfl rfl ?_
      refine r_getIN (k := 2) fX0 rfl rfl (by decide) kw_30 rfl 2 rfl dP_firstBest_6 rfl (fun y_6 ey_6 ly_6 uy_6 => ?_)
      refine r_ic_ge 41 dP_firstBest_9 (by decide) ⟨by omega, by omega⟩ ⟨by omega, by omega⟩ (fun c_9 => ?_) (fun c_9 => ?_)
      · refine r_iconst dP_firstBest_41 ?_
        refine r_iret rfl dP_firstBest_42 ⟨_, rfl, ?_⟩
        exact ⟨rfl, by rw [hz, show (w.1 1 2 - i).toNat = 0 by omega]; rfl, by decide, by decide⟩
      · refine r_aload_n 0 1 dP_firstBest_12 rfl rfl ?_
        refine r_aload_n 1 2 dP_firstBest_13 rfl rfl ?_
        refine r_iload_n 2 3 dP_firstBest_14 rfl rfl ?_
        refine r_iload 4 0 dP_firstBest_15 rfl ?_
        refine r_iload_n 3 4 dP_firstBest_17 rfl rfl ?_
        refine r_cVI (cP_weight w g i l (by omega) (by omega) (by omega) (by omega) (by omega) (by omega)) qP_weight rfl kw_363 rfl rfl dP_firstBest_18 (st0 := [zI l, zI i, zI g, zR 1, zR 5]) (st := []) rfl ⟨Nat.le_of_ble_eq_true rfl, Nat.le_of_ble_eq_true rfl⟩ ⟨Nat.le_of_ble_eq_true rfl, Nat.le_of_ble_eq_true rfl⟩ (Nat.le_of_ble_eq_true rfl) (fun a_18 w_18 h_18 ok_18 => ?_)
        obtain ⟨rfl, h_18⟩ := h_18
        refine r_aload_n 0 1 dP_firstBest_21 rfl rfl ?_
        refine r_getR (k := 0) (b := 21) fX3 rfl rfl rfl (by decide) kw_155 rfl dP_firstBest_22 ?_
        refine r_iload_n 2 3 dP_firstBest_25 rfl rfl ?_
        refine r_aaload (b := (22 + g.toNat)) rfl (by decide) dP_firstBest_26 (by omega) (by omega) (z_least _ (by omega) (by omega)) ?_
        refine r_iload_n 3 4 dP_firstBest_27 rfl rfl ?_
        refine r_iaload (z_leastS (j := g) (by omega) (by omega)) (by decide) dP_firstBest_28 (by omega) (by omega) (z_leastB (j := g) (by omega) (by omega) _) (fun y_28 ey_28 ly_28 uy_28 => ?_)
        refine r_ic_ne 35 dP_firstBest_29 (by decide) ⟨by omega, by omega⟩ ⟨by omega, by omega⟩ (fun c_29 => ?_) (fun c_29 => ?_)
        · refine r_iinc (ls' := [(4, zI (i + 1)), (0, zR 5), (1, zR 1), (2, zI g), (3, zI l)]) 4 0 dP_firstBest_35 rfl (by decide) rfl ?_
          refine r_goto 3 dP_firstBest_38 (by decide) ?_
          exact ih_3 (i + 1) (by omega) (by omega) (by rw [hz, zPk_r (by omega), if_neg (by rw [← h_18.1, ← ey_28]; omega)]) (by omega)
        · refine r_iload 4 0 dP_firstBest_32 rfl ?_
          refine r_iret rfl dP_firstBest_34 ⟨_, rfl, ?_⟩
          exact ⟨rfl, by rw [hz, zPk_r (by omega), if_pos (by rw [← h_18.1, ← ey_28]; omega)], by omega, by omega⟩
  exact L_3 7 0 (by omega) (by omega) (by rw [Int.sub_zero]) (by omega)

set_option maxRecDepth 20000 in
set_option maxHeartbeats 4000000 in
theorem cP_choose (w : zW) (hT : ∀ g l : Int, 0 ≤ g → g ≤ w.1 1 3 → 0 ≤ l → l ≤ 12 → w.1 (22 + g.toNat) l = zLC w (w.1 1 3 - g).toNat l) (hN : ¬ zLC w (w.1 1 3).toNat 12 = 1000000) : zC mP_choose 4 [zR 5, zR 1] w (zrV fun w' => (∀ i k, i ≠ 29 → ¬ (i = 5 ∧ k = 2) → w'.1 i k = w.1 i k) ∧ w'.1 5 2 = zWnC w (w.1 1 3).toNat ∧ (∀ g : Int, 0 ≤ g → g < w.1 1 3 → w'.1 29 g = zDgC w g)) := by
  refine zC.of (by decide +kernel) (Nat.le_of_ble_eq_true rfl) ?_
  show zM mP_choose (zZm 4 _) 0 [(0, zR 5), (1, zR 1)] [] w
  refine r_ok (fun hO => ?_)
  have hDs := hO 1 2
  change 0 ≤ w.1 1 2 ∧ w.1 1 2 ≤ 4 at hDs
  have hG := hO 1 3
  change 0 ≤ w.1 1 3 ∧ w.1 1 3 ≤ 6 at hG
  refine r_bipush dP_choose_0 (by decide) ?_
  refine r_istore_n (ls' := [(2, zI 12), (0, zR 5), (1, zR 1)]) 2 dP_choose_2 rfl (by decide) rfl ?_
  refine r_aload_n 0 1 dP_choose_3 rfl rfl ?_
  refine r_iconst dP_choose_4 ?_
  refine r_putI (k := 2) fX3 rfl rfl (by decide) kw_158 rfl rfl (by decide +kernel) 2 rfl dP_choose_5 rfl (by omega) (by omega) (fun w_5 ew_5 => ?_)
  refine r_iconst dP_choose_8 ?_
  refine r_istore_n (ls' := [(3, zI 0), (2, zI 12), (0, zR 5), (1, zR 1)]) 3 dP_choose_9 rfl (by decide) rfl ?_
  have L_10 : ∀ (n_10 : Nat) (l : Int) (g : Int) (wl : zW) (hg0 : 0 ≤ g) (hg1 : g ≤ w.1 1 3) (hl : 0 ≤ l ∧ l ≤ 12) (hle : l = zLfC w g.toNat) (hn : ¬ zLC w (w.1 1 3 - g).toNat l = 1000000) (hw : ∀ i k, i ≠ 29 → ¬ (i = 5 ∧ k = 2) → wl.1 i k = w.1 i k) (hwn : wl.1 5 2 = zWnC w g.toNat) (hdg : ∀ j : Int, 0 ≤ j → j < g → wl.1 29 j = zDgC w j), w.1 1 3 - g < (n_10 : Int) → zM mP_choose (zZm 4 (zrV fun w' => (∀ i k, i ≠ 29 → ¬ (i = 5 ∧ k = 2) → w'.1 i k = w.1 i k) ∧ w'.1 5 2 = zWnC w (w.1 1 3).toNat ∧ (∀ g : Int, 0 ≤ g → g < w.1 1 3 → w'.1 29 g = zDgC w g))) 10 [(3, zI g), (2, zI l), (0, zR 5), (1, zR 1)] [] wl := by
    intro n_10
    induction n_10 with
    | zero => intro l g wl hg0 hg1 hl hle hn hw hwn hdg hm_10; exfalso; omega
    | succ n_10 ih_10 =>
      intro l g wl hg0 hg1 hl hle hn hw hwn hdg hm_10
      have hsh : zSameH w wl := fun i k q => hw i k (by omega) (by omega)
      have e13 : wl.1 1 3 = w.1 1 3 := hsh 1 3 (by decide)
      have hwm := zCnt_in (fun g => decide (w.1 1 1 ≤ zPC w g (zDgC w g))) g.toNat
      have hwm2 : 0 ≤ wl.1 5 2 ∧ wl.1 5 2 ≤ g := (by rw [hwn]; unfold zWnC; omega)
      refine r_iload_n 3 0 dP_choose_10 rfl rfl ?_
      refine r_aload_n 1 3 dP_choose_11 rfl rfl ?_
      refine r_getIN (k := 3) fX0 rfl rfl (by decide) kw_34 rfl 3 rfl dP_choose_12 rfl (fun y_12 ey_12 ly_12 uy_12 => ?_)
      refine r_ic_ge 71 dP_choose_15 (by decide) ⟨by omega, by omega⟩ ⟨by omega, by omega⟩ (fun c_15 => ?_) (fun c_15 => ?_)
      · refine r_vret rfl dP_choose_71 ⟨rfl, ?_⟩
        exact ⟨hw, by rw [hwn, show (w.1 1 3).toNat = g.toNat by omega], fun j q1 q2 => hdg j q1 (by omega)⟩
      · refine r_aload_n 0 2 dP_choose_18 rfl rfl ?_
        refine r_aload_n 1 3 dP_choose_19 rfl rfl ?_
        refine r_iload_n 3 0 dP_choose_20 rfl rfl ?_
        refine r_iload_n 2 1 dP_choose_21 rfl rfl ?_
        refine r_cVI (cP_firstBest wl g l (by omega) (by omega) (by omega) (by omega)) qP_firstBest rfl kw_376 rfl rfl dP_choose_22 (st0 := [zI l, zI g, zR 1, zR 5]) (st := []) rfl ⟨Nat.le_of_ble_eq_true rfl, Nat.le_of_ble_eq_true rfl⟩ ⟨Nat.le_of_ble_eq_true rfl, Nat.le_of_ble_eq_true rfl⟩ (Nat.le_of_ble_eq_true rfl) (fun a_22 w_22 h_22 ok_22 => ?_)
        obtain ⟨rfl, h_22⟩ := h_22
        have hT1 : ∀ q : Int, 0 ≤ q → q ≤ 12 → wl.1 (22 + (g + 1).toNat) q = zLC w (w.1 1 3 - (g + 1)).toNat q := fun q q0 q1 => (by rw [hw _ _ (by omega) (by omega)]; exact hT (g + 1) q (by omega) (by omega) q0 q1)
        have hc0 : ∀ d, 0 ≤ w.1 8 d := fun d => (hO 8 d).1
        have hag : a_22 = zDgC w g := by
          rw [h_22.1]
          unfold zDgC zDg zDgOf
          show _ = zPk (zWt (fun d => w.1 8 d) (zOwnC w) (zLC w (w.1 1 3 - (g + 1)).toNat) g (zLfC w g.toNat)) (zLC w (w.1 1 3 - g).toNat (zLfC w g.toNat)) (w.1 1 2).toNat 0
          rw [← hle, hsh.own, hsh 1 2 (by decide), hw _ _ (by omega) (by omega), hT g l hg0 (by omega) hl.1 hl.2, show (fun d => wl.1 8 d) = (fun d => w.1 8 d) from funext fun d => hsh 8 d (by omega)]
          exact zPk_eq _ _ (fun d _ _ => zWt_eq (fun z => hT1 _ (by omega) (by have := hc0 d; show l - w.1 8 d ≤ 12; omega)))
        obtain ⟨d1, d2, d3, d4, d5, d6⟩ := zDg_ok (ds := w.1 1 2) (gs := w.1 1 3) (cost := fun d => w.1 8 d) (own := zOwnC w) (g := g) (l := l) hg0 (by omega) hn
        rw [show zDgOf (w.1 1 2) (w.1 1 3) (fun d => w.1 8 d) (zOwnC w) g l = a_22 by rw [hag]; unfold zDgC zDg; rw [hle]; rfl] at d1 d2 d3 d4 d5 d6
        change 0 ≤ l - w.1 8 a_22 at d3
        have e8 : wl.1 8 a_22 = w.1 8 a_22 := hsh 8 _ (by omega)
        have ep : zPC wl g a_22 = zPC w g a_22 := hsh.pl _ _
        have e11 : wl.1 1 1 = w.1 1 1 := hsh 1 1 (by decide)
        refine r_istore (ls' := [(4, zI a_22), (3, zI g), (2, zI l), (0, zR 5), (1, zR 1)]) 4 dP_choose_25 (by decide) rfl ?_
        refine r_aload_n 0 3 dP_choose_27 rfl rfl ?_
        refine r_getR (k := 1) (b := 29) fX3 rfl rfl rfl (by decide) kw_156 rfl dP_choose_28 ?_
        refine r_iload_n 3 1 dP_choose_31 rfl rfl ?_
        refine r_iload 4 0 dP_choose_32 rfl ?_
        refine r_iastore rfl (by decide) dP_choose_34 (by omega) (by omega) rfl (by omega) (by omega) (fun w_34 ew_34 => ?_)
        refine r_iload_n 2 2 dP_choose_35 rfl rfl ?_
        refine r_aload_n 1 4 dP_choose_36 rfl rfl ?_
        refine r_getRN (k := 5) (b := 8) fX0 rfl rfl rfl (by decide) kw_40 rfl dP_choose_37 ?_
        refine r_iload 4 0 dP_choose_40 rfl ?_
        refine r_iaload rfl (by decide) dP_choose_42 (by omega) (by omega) rfl (fun y_42 ey_42 ly_42 uy_42 => ?_)
        rw [ew_34, zput_i (i := 29) (i' := 8) _ _ _ _ (by decide)] at ey_42
        refine r_isub dP_choose_43 ?_
        refine r_nmI (fun x_44 ex_44 => ?_)
        refine r_istore_n (ls' := [(2, zI x_44), (4, zI a_22), (3, zI g), (0, zR 5), (1, zR 1)]) 2 dP_choose_44 rfl (by decide) rfl ?_
        refine r_aload_n 1 4 dP_choose_45 rfl rfl ?_
        refine r_iload_n 3 2 dP_choose_46 rfl rfl ?_
        refine r_iload 4 1 dP_choose_47 rfl ?_
        refine r_cVIN (cH_isWon w_34 g a_22 (by omega) (by omega) (by omega) (by omega)) qH_isWon rfl kw_367 rfl rfl dP_choose_49 (st0 := [zI a_22, zI g, zR 1]) (st := []) rfl ⟨Nat.le_of_ble_eq_true rfl, Nat.le_of_ble_eq_true rfl⟩ ⟨Nat.le_of_ble_eq_true rfl, Nat.le_of_ble_eq_true rfl⟩ (Nat.le_of_ble_eq_true rfl) (fun a_49 w_49 h_49 ok_49 => ?_)
        obtain ⟨rfl, h_49⟩ := h_49
        have z_49_0 : w_34.1 1 1 = wl.1 1 1 := by rw [ew_34, zput_i (i := 29) (i' := 1) _ _ _ _ (by decide)]
        have z_49_1 : zPC w_34 g a_22 = zPC wl g a_22 := by rw [ew_34, zPC_put (i := 29) (by decide)]
        refine r_if_eq 65 dP_choose_52 (by decide) ⟨by omega, by omega⟩ (fun c_52 => ?_) (fun c_52 => ?_)
        · refine r_iinc (ls' := [(3, zI (g + 1)), (2, zI x_44), (4, zI a_22), (0, zR 5), (1, zR 1)]) 3 2 dP_choose_65 rfl (by decide) rfl ?_
          refine r_goto 10 dP_choose_68 (by decide) ?_
          refine r_sub (ls' := [(3, zI (g + 1)), (2, zI x_44), (0, zR 5), (1, zR 1)]) [0, 1, 3, 4] rfl ?_
          exact ih_10 x_44 (g + 1) w_34 (by omega) (by omega) (by omega) (by unfold zLfC; rw [zLf_s hg0]; show _ = zLfC w g.toNat - w.1 8 (zDgC w g); rw [← hle, ← hag]; omega) (by rw [show x_44 = l - w.1 8 a_22 by omega]; exact d4) (fun i k q1 q2 => by rw [ew_34, zput_i _ _ _ _ q1]; exact hw i k q1 q2) (by rw [ew_34, zput_i _ _ _ _ (by decide), hwn]; unfold zWnC; rw [zCnt_s _ hg0, ← hag, if_neg (by rw [decide_eq_true_eq]; omega)]) (fun j q1 q2 => by rw [ew_34]; by_cases z : j = g; (rw [z, zput_s]; exact hag); (rw [zput_k _ _ z]; exact hdg j q1 (by omega))) (by omega)
        · refine r_aload_n 0 3 dP_choose_55 rfl rfl ?_
          refine r_dup dP_choose_56 rfl ?_
          refine r_getI (k := 2) fX3 rfl rfl (by decide) kw_158 rfl 2 rfl dP_choose_57 rfl (fun y_57 ey_57 ly_57 uy_57 => ?_)
          rw [ew_34, zput_i (i := 29) (i' := 5) _ _ _ _ (by decide)] at ey_57
          refine r_iconst dP_choose_60 ?_
          refine r_iadd dP_choose_61 ?_
          refine r_putI (k := 2) fX3 rfl rfl (by decide) kw_158 rfl rfl (by decide +kernel) 2 rfl dP_choose_62 rfl (by omega) (by omega) (fun w_62 ew_62 => ?_)
          refine r_iinc (ls' := [(3, zI (g + 1)), (2, zI x_44), (4, zI a_22), (0, zR 5), (1, zR 1)]) 3 2 dP_choose_65 rfl (by decide) rfl ?_
          refine r_goto 10 dP_choose_68 (by decide) ?_
          refine r_sub (ls' := [(3, zI (g + 1)), (2, zI x_44), (0, zR 5), (1, zR 1)]) [0, 1, 3, 4] rfl ?_
          exact ih_10 x_44 (g + 1) w_62 (by omega) (by omega) (by omega) (by unfold zLfC; rw [zLf_s hg0]; show _ = zLfC w g.toNat - w.1 8 (zDgC w g); rw [← hle, ← hag]; omega) (by rw [show x_44 = l - w.1 8 a_22 by omega]; exact d4) (fun i k q1 q2 => by rw [ew_62, zput_e, if_neg q2, ew_34, zput_i _ _ _ _ q1]; exact hw i k q1 q2) (by rw [ew_62, zput_s, ey_57, hwn]; unfold zWnC; rw [zCnt_s _ hg0, ← hag, if_pos (decide_eq_true (by omega))]) (fun j q1 q2 => by rw [ew_62, zput_i _ _ _ _ (by decide), ew_34]; by_cases z : j = g; (rw [z, zput_s]; exact hag); (rw [zput_k _ _ z]; exact hdg j q1 (by omega))) (by omega)
  exact L_10 7 12 0 w_5 (by omega) (by omega) (by omega) rfl (by rw [Int.sub_zero]; exact hN) (fun i k q1 q2 => by rw [ew_5, zput_e, if_neg q2]) (by rw [ew_5, zput_s]; rfl) (fun j q1 q2 => absurd q2 (by omega)) (by omega)

set_option maxRecDepth 20000 in
set_option maxHeartbeats 4000000 in
theorem cP_isMade (w : zW) (hg1 : 0 < w.1 1 3) : zC mP_isMade 5 [zR 5, zR 1] w (zrI fun a w' => (∀ i k, i ≠ 5 → ¬ (22 ≤ i ∧ i ≤ 29) → w'.1 i k = w.1 i k) ∧ ((zLC w (w.1 1 3).toNat 12 = 1000000 ∧ a = 0) ∨ (¬ zLC w (w.1 1 3).toNat 12 = 1000000 ∧ a = 1 ∧ w'.1 5 2 = zWnC w (w.1 1 3).toNat ∧ (∀ g : Int, 0 ≤ g → g < w.1 1 3 → w'.1 29 g = zDgC w g)))) := by
  refine zC.of (by decide +kernel) (Nat.le_of_ble_eq_true rfl) ?_
  show zM mP_isMade (zZm 5 _) 0 [(0, zR 5), (1, zR 1)] [] w
  refine r_ok (fun hO => ?_)
  have hDs := hO 1 2
  change 0 ≤ w.1 1 2 ∧ w.1 1 2 ≤ 4 at hDs
  have hG := hO 1 3
  change 0 ≤ w.1 1 3 ∧ w.1 1 3 ≤ 6 at hG
  refine r_iconst dP_isMade_0 ?_
  refine r_istore_n (ls' := [(2, zI 0), (0, zR 5), (1, zR 1)]) 2 dP_isMade_1 rfl (by decide) rfl ?_
  have L_2 : ∀ (n_2 : Nat) (l : Int) (wl : zW) (hl0 : 0 ≤ l) (hl1 : l ≤ 13) (hw : ∀ i k, ¬ (22 ≤ i ∧ i ≤ 28) → wl.1 i k = w.1 i k) (ht : ∀ q : Int, 0 ≤ q → q < l → wl.1 (22 + (w.1 1 3).toNat) q = 0), 13 - l < (n_2 : Int) → zM mP_isMade (zZm 5 (zrI fun a w' => (∀ i k, i ≠ 5 → ¬ (22 ≤ i ∧ i ≤ 29) → w'.1 i k = w.1 i k) ∧ ((zLC w (w.1 1 3).toNat 12 = 1000000 ∧ a = 0) ∨ (¬ zLC w (w.1 1 3).toNat 12 = 1000000 ∧ a = 1 ∧ w'.1 5 2 = zWnC w (w.1 1 3).toNat ∧ (∀ g : Int, 0 ≤ g → g < w.1 1 3 → w'.1 29 g = zDgC w g))))) 2 [(2, zI l), (0, zR 5), (1, zR 1)] [] wl := by
    intro n_2
    induction n_2 with
    | zero => intro l wl hl0 hl1 hw ht hm_2; exfalso; omega
    | succ n_2 ih_2 =>
      intro l wl hl0 hl1 hw ht hm_2
      have e13 : wl.1 1 3 = w.1 1 3 := hw 1 3 (by decide)
      refine r_iload_n 2 0 dP_isMade_2 rfl rfl ?_
      refine r_bipush dP_isMade_3 (by decide) ?_
      refine r_ic_gt 26 dP_isMade_5 (by decide) ⟨by omega, by omega⟩ ⟨by omega, by omega⟩ (fun c_5 => ?_) (fun c_5 => ?_)
      · refine r_aload_n 1 2 dP_isMade_26 rfl rfl ?_
        refine r_getIN (k := 3) fX0 rfl rfl (by decide) kw_34 rfl 3 rfl dP_isMade_27 rfl (fun y_27 ey_27 ly_27 uy_27 => ?_)
        refine r_iconst dP_isMade_30 ?_
        refine r_isub dP_isMade_31 ?_
        refine r_nmI (fun x_32 ex_32 => ?_)
        refine r_istore_n (ls' := [(2, zI x_32), (0, zR 5), (1, zR 1)]) 2 dP_isMade_32 rfl (by decide) rfl ?_
        have L_33 : ∀ (n_33 : Nat) (g : Int) (wm : zW) (hg0 : -1 ≤ g) (hg2 : g < w.1 1 3) (hm : ∀ i k, ¬ (22 ≤ i ∧ i ≤ 28) → wm.1 i k = w.1 i k) (htm : ∀ q l : Int, g + 1 ≤ q → q ≤ w.1 1 3 → 0 ≤ l → l ≤ 12 → wm.1 (22 + q.toNat) l = zLC w (w.1 1 3 - q).toNat l), g + 1 < (n_33 : Int) → zM mP_isMade (zZm 5 (zrI fun a w' => (∀ i k, i ≠ 5 → ¬ (22 ≤ i ∧ i ≤ 29) → w'.1 i k = w.1 i k) ∧ ((zLC w (w.1 1 3).toNat 12 = 1000000 ∧ a = 0) ∨ (¬ zLC w (w.1 1 3).toNat 12 = 1000000 ∧ a = 1 ∧ w'.1 5 2 = zWnC w (w.1 1 3).toNat ∧ (∀ g : Int, 0 ≤ g → g < w.1 1 3 → w'.1 29 g = zDgC w g))))) 33 [(2, zI g), (0, zR 5), (1, zR 1)] [] wm := by
          intro n_33
          induction n_33 with
          | zero => intro g wm hg0 hg2 hm htm hm_33; exfalso; omega
          | succ n_33 ih_33 =>
            intro g wm hg0 hg2 hm htm hm_33
            refine r_iload_n 2 0 dP_isMade_33 rfl rfl ?_
            refine r_if_lt 72 dP_isMade_34 (by decide) ⟨by omega, by omega⟩ (fun c_34 => ?_) (fun c_34 => ?_)
            · refine r_aload_n 0 1 dP_isMade_72 rfl rfl ?_
              refine r_getR (k := 0) (b := 21) fX3 rfl rfl rfl (by decide) kw_155 rfl dP_isMade_73 ?_
              refine r_iconst dP_isMade_76 ?_
              refine r_aaload (b := 22) rfl (by decide) dP_isMade_77 (by omega) (by omega) rfl ?_
              refine r_bipush dP_isMade_78 (by decide) ?_
              refine r_iaload rfl (by decide) dP_isMade_80 (by omega) (by omega) rfl (fun y_80 ey_80 ly_80 uy_80 => ?_)
              have e80 : y_80 = zLC w (w.1 1 3).toNat 12 := (by rw [ey_80]; have q := htm 0 12 (by omega) (by omega) (by decide) (by decide); rw [Int.sub_zero] at q; exact q)
              have hs9 : zSameH w wm := fun i k q => hm i k (by omega)
              have hdg9 : zDgC wm = zDgC w := by
                funext q
                unfold zDgC
                rw [hs9.own, hs9 1 2 (by decide), hs9 1 3 (by decide), show (fun d => wm.1 8 d) = (fun d => w.1 8 d) from funext fun d => hs9 8 d (by omega)]
              have hwn9 : zWnC wm = zWnC w := by
                funext q
                unfold zWnC
                rw [hdg9, hs9 1 1 (by decide), show (fun g => decide (w.1 1 1 ≤ zPC wm g (zDgC w g))) = (fun g => decide (w.1 1 1 ≤ zPC w g (zDgC w g))) from funext fun q => by rw [hs9.pl]]
              refine r_ldc (a := 1000000) dP_isMade_81 kw_362 (by decide +kernel) ?_
              refine r_ic_ne 88 dP_isMade_83 (by decide) ⟨by omega, by omega⟩ ⟨by omega, by omega⟩ (fun c_83 => ?_) (fun c_83 => ?_)
              · refine r_aload_n 0 1 dP_isMade_88 rfl rfl ?_
                refine r_aload_n 1 2 dP_isMade_89 rfl rfl ?_
                refine r_cVV (cP_choose wm (fun q l2 q1 q2 l3 l4 => by rw [hs9.L, hs9 1 3 (by decide)]; exact htm q l2 (by omega) (by rw [hs9 1 3 (by decide)] at q2; exact q2) l3 l4) (by rw [hs9.L, hs9 1 3 (by decide), ← e80]; exact c_83)) qP_choose rfl kw_372 rfl rfl dP_isMade_90 (st0 := [zR 1, zR 5]) (st := []) rfl ⟨Nat.le_of_ble_eq_true rfl, Nat.le_of_ble_eq_true rfl⟩ ⟨Nat.le_of_ble_eq_true rfl, Nat.le_of_ble_eq_true rfl⟩ (Nat.le_of_ble_eq_true rfl) (fun w_90 h_90 ok_90 => ?_)
                refine r_iconst dP_isMade_93 ?_
                refine r_zret rfl (by omega) dP_isMade_94 ⟨_, rfl, ?_⟩
                exact ⟨fun i k q1 q2 => by rw [h_90.1 i k (by omega) (by omega)]; exact hm i k (by omega), Or.inr ⟨by omega, rfl, by rw [h_90.2.1, hwn9, hs9 1 3 (by decide)], fun q q1 q2 => by rw [h_90.2.2 q q1 (by rw [hs9 1 3 (by decide)]; exact q2), hdg9]⟩⟩
              · refine r_iconst dP_isMade_86 ?_
                refine r_zret rfl (by omega) dP_isMade_87 ⟨_, rfl, ?_⟩
                exact ⟨fun i k q1 q2 => hm i k (by omega), Or.inl ⟨by omega, rfl⟩⟩
            · refine r_iconst dP_isMade_37 ?_
              refine r_istore_n (ls' := [(3, zI 0), (2, zI g), (0, zR 5), (1, zR 1)]) 3 dP_isMade_38 rfl (by decide) rfl ?_
              have L_39 : ∀ (n_39 : Nat) (x : Int) (wv : zW) (hx0 : 0 ≤ x) (hx1 : x ≤ 13) (hv : ∀ i k, ¬ (22 ≤ i ∧ i ≤ 28) → wv.1 i k = w.1 i k) (hv3 : ∀ q l : Int, g + 1 ≤ q → q ≤ w.1 1 3 → 0 ≤ l → l ≤ 12 → wv.1 (22 + q.toNat) l = zLC w (w.1 1 3 - q).toNat l) (hv2 : ∀ l : Int, 0 ≤ l → l < x → wv.1 (22 + g.toNat) l = zLC w (w.1 1 3 - g).toNat l), 13 - x < (n_39 : Int) → zM mP_isMade (zZm 5 (zrI fun a w' => (∀ i k, i ≠ 5 → ¬ (22 ≤ i ∧ i ≤ 29) → w'.1 i k = w.1 i k) ∧ ((zLC w (w.1 1 3).toNat 12 = 1000000 ∧ a = 0) ∨ (¬ zLC w (w.1 1 3).toNat 12 = 1000000 ∧ a = 1 ∧ w'.1 5 2 = zWnC w (w.1 1 3).toNat ∧ (∀ g : Int, 0 ≤ g → g < w.1 1 3 → w'.1 29 g = zDgC w g))))) 39 [(3, zI x), (2, zI g), (0, zR 5), (1, zR 1)] [] wv := by
                intro n_39
                induction n_39 with
                | zero => intro x wv hx0 hx1 hv hv3 hv2 hm_39; exfalso; omega
                | succ n_39 ih_39 =>
                  intro x wv hx0 hx1 hv hv3 hv2 hm_39
                  have hsh : zSameH w wv := fun i k q => hv i k (by omega)
                  refine r_iload_n 3 0 dP_isMade_39 rfl rfl ?_
                  refine r_bipush dP_isMade_40 (by decide) ?_
                  refine r_ic_gt 66 dP_isMade_42 (by decide) ⟨by omega, by omega⟩ ⟨by omega, by omega⟩ (fun c_42 => ?_) (fun c_42 => ?_)
                  · refine r_iinc (ls' := [(2, zI (g + (-1))), (3, zI x), (0, zR 5), (1, zR 1)]) 2 1 dP_isMade_66 rfl (by decide) rfl ?_
                    refine r_goto 33 dP_isMade_69 (by decide) ?_
                    refine r_sub (ls' := [(2, zI (g + (-1))), (0, zR 5), (1, zR 1)]) [0, 2, 3] rfl ?_
                    exact ih_33 (g + (-1)) wv (by omega) (by omega) hv (fun q l2 q1 q2 l3 l4 => by by_cases z : q = g; (rw [z]; exact hv2 l2 l3 (by omega)); (exact hv3 q l2 (by omega) q2 l3 l4)) (by omega)
                  · refine r_aload_n 0 2 dP_isMade_45 rfl rfl ?_
                    refine r_getR (k := 0) (b := 21) fX3 rfl rfl rfl (by decide) kw_155 rfl dP_isMade_46 ?_
                    refine r_iload_n 2 1 dP_isMade_49 rfl rfl ?_
                    refine r_aaload (b := (22 + g.toNat)) rfl (by decide) dP_isMade_50 (by omega) (by omega) (z_least _ (by omega) (by omega)) ?_
                    refine r_iload_n 3 0 dP_isMade_51 rfl rfl ?_
                    refine r_aload_n 0 2 dP_isMade_52 rfl rfl ?_
                    refine r_aload_n 1 3 dP_isMade_53 rfl rfl ?_
                    refine r_iload_n 2 1 dP_isMade_54 rfl rfl ?_
                    refine r_iload_n 3 0 dP_isMade_55 rfl rfl ?_
                    refine r_cVI (cP_leastOf wv g x (by omega) (by omega) (by omega) (by omega)) qP_leastOf rfl kw_358 rfl rfl dP_isMade_56 (st0 := [zI x, zI g, zR 1, zR 5, zI x, zR (22 + g.toNat)]) (st := [zI x, zR (22 + g.toNat)]) rfl ⟨Nat.le_of_ble_eq_true rfl, Nat.le_of_ble_eq_true rfl⟩ ⟨Nat.le_of_ble_eq_true rfl, Nat.le_of_ble_eq_true rfl⟩ (Nat.le_of_ble_eq_true rfl) (fun a_56 w_56 h_56 ok_56 => ?_)
                    obtain ⟨rfl, h_56⟩ := h_56
                    have hag : a_56 = zLC w (w.1 1 3 - g).toNat x := by
                      rw [h_56.1, hsh.own, hsh 1 2 (by decide), show (fun d => wv.1 8 d) = (fun d => w.1 8 d) from funext fun d => hsh 8 d (by omega)]
                      have e9 := zWt_L (ds := w.1 1 2) (gs := w.1 1 3) (cost := fun d => w.1 8 d) (own := zOwnC w) (g := g) (l := x) (by omega) hg2
                      refine Eq.trans ?_ e9.symm
                      exact zMin_eq (fun d _ _ => zWt_eq (fun z => hv3 (g + 1) _ (by omega) (by omega) (by omega) (by have : 0 ≤ w.1 8 d := (hO 8 d).1; show x - w.1 8 d ≤ 12; omega)))
                    have hin := zL_in (ds := w.1 1 2) (gs := w.1 1 3) (cost := fun d => w.1 8 d) (own := zOwnC w) (zOwnC_in hO) (w.1 1 3 - g).toNat x (by omega)
                    change zLC w _ _ = _ ∨ _ ≤ zLC w _ _ ∧ zLC w _ _ ≤ _ at hin
                    refine r_iastore (z_leastS (j := g) (by omega) (by omega)) (by decide) dP_isMade_59 (by omega) (by omega) (z_leastB (j := g) (by omega) (by omega) _) (by rw [hag]; omega) (by rw [hag]; omega) (fun w_59 ew_59 => ?_)
                    refine r_iinc (ls' := [(3, zI (x + 1)), (2, zI g), (0, zR 5), (1, zR 1)]) 3 0 dP_isMade_60 rfl (by decide) rfl ?_
                    refine r_goto 39 dP_isMade_63 (by decide) ?_
                    exact ih_39 (x + 1) w_59 (by omega) (by omega) (fun i k q => by rw [ew_59, zput_i _ _ _ _ (by omega)]; exact hv i k q) (fun q l2 q1 q2 l3 l4 => by rw [ew_59, zput_i _ _ _ _ (by omega)]; exact hv3 q l2 q1 q2 l3 l4) (fun l q1 q2 => by rw [ew_59]; by_cases z : l = x; (rw [z, zput_s]; exact hag); (rw [zput_k _ _ z]; exact hv2 l q1 (by omega))) (by omega)
              exact L_39 14 0 wm (by omega) (by omega) hm htm (fun q q1 q2 => absurd q2 (by omega)) (by omega)
        exact L_33 8 x_32 wl (by omega) (by omega) hw (fun q l2 q1 q2 l3 l4 => by rw [show q = w.1 1 3 by omega, Int.sub_self]; exact ht l2 l3 (by omega)) (by omega)
      · refine r_aload_n 0 1 dP_isMade_8 rfl rfl ?_
        refine r_getR (k := 0) (b := 21) fX3 rfl rfl rfl (by decide) kw_155 rfl dP_isMade_9 ?_
        refine r_aload_n 1 2 dP_isMade_12 rfl rfl ?_
        refine r_getIN (k := 3) fX0 rfl rfl (by decide) kw_34 rfl 3 rfl dP_isMade_13 rfl (fun y_13 ey_13 ly_13 uy_13 => ?_)
        refine r_aaload (b := (22 + y_13.toNat)) rfl (by decide) dP_isMade_16 (by omega) (by omega) (z_least _ (by omega) (by omega)) ?_
        refine r_iload_n 2 0 dP_isMade_17 rfl rfl ?_
        refine r_iconst dP_isMade_18 ?_
        refine r_iastore (z_leastS (j := y_13) (by omega) (by omega)) (by decide) dP_isMade_19 (by omega) (by omega) (z_leastB (j := y_13) (by omega) (by omega) _) (by omega) (by omega) (fun w_19 ew_19 => ?_)
        refine r_iinc (ls' := [(2, zI (l + 1)), (0, zR 5), (1, zR 1)]) 2 0 dP_isMade_20 rfl (by decide) rfl ?_
        refine r_goto 2 dP_isMade_23 (by decide) ?_
        exact ih_2 (l + 1) w_19 (by omega) (by omega) (fun i k q => by rw [ew_19, zput_i _ _ _ _ (by omega)]; exact hw i k q) (fun q q1 q2 => by rw [ew_19, show y_13 = w.1 1 3 by omega]; by_cases z : q = l; (rw [z, zput_s]); (rw [zput_k _ _ z]; exact ht q q1 (by omega))) (by omega)
  exact L_2 14 0 w (by omega) (by omega) (fun _ _ _ => rfl) (fun q q1 q2 => absurd q2 (by omega)) (by omega)

set_option maxRecDepth 20000 in
set_option maxHeartbeats 4000000 in
theorem cC_fewest (w : zW) (g : Int) (zg : zin g) : zC mC_fewest 6 [zR 0, zI g] w (zrI fun a w' => a = (if g < -1 then -1 else if w.1 1 3 = 0 then -3 else if w.1 1 3 ≤ g ∨ zLC w (w.1 1 3).toNat 12 = 1000000 then -9 else if g < 0 then zWnC w (w.1 1 3).toNat else zDgC w g) ∧ zEq w w') := by
  refine zC.of (by decide +kernel) (Nat.le_of_ble_eq_true rfl) ?_
  show zM mC_fewest (zZm 6 _) 0 [(0, zR 0), (1, zI g)] [] w
  refine r_iload_n 1 1 dC_fewest_0 rfl rfl ?_
  refine r_iconst dC_fewest_1 ?_
  refine r_ic_ge 7 dC_fewest_2 (by decide) ⟨by omega, by omega⟩ ⟨by omega, by omega⟩ (fun c_2 => ?_) (fun c_2 => ?_)
  · refine r_aload_n 0 0 dC_fewest_7 rfl rfl ?_
    refine r_getR (k := 0) (b := 1) fX6 rfl rfl rfl (by decide) kw_187 rfl dC_fewest_8 ?_
    refine r_cVIN (cH_isOpen w) qH_isOpen rfl kw_294 rfl rfl dC_fewest_11 (st0 := [zR 1]) (st := []) rfl ⟨Nat.le_of_ble_eq_true rfl, Nat.le_of_ble_eq_true rfl⟩ ⟨Nat.le_of_ble_eq_true rfl, Nat.le_of_ble_eq_true rfl⟩ (Nat.le_of_ble_eq_true rfl) (fun a_11 w_11 h_11 ok_11 => ?_)
    obtain ⟨rfl, h_11⟩ := h_11
    refine r_if_ne 20 dC_fewest_14 (by decide) ⟨by omega, by omega⟩ (fun c_14 => ?_) (fun c_14 => ?_)
    · refine r_iload_n 1 1 dC_fewest_20 rfl rfl ?_
      refine r_aload_n 0 0 dC_fewest_21 rfl rfl ?_
      refine r_getR (k := 0) (b := 1) fX6 rfl rfl rfl (by decide) kw_187 rfl dC_fewest_22 ?_
      refine r_getIN (k := 3) fX0 rfl rfl (by decide) kw_35 rfl 3 rfl dC_fewest_25 rfl (fun y_25 ey_25 ly_25 uy_25 => ?_)
      refine r_ic_ge 45 dC_fewest_28 (by decide) ⟨by omega, by omega⟩ ⟨by omega, by omega⟩ (fun c_28 => ?_) (fun c_28 => ?_)
      · refine r_bipush dC_fewest_45 (by decide) ?_
        refine r_iret rfl dC_fewest_47 ⟨_, rfl, ?_⟩
        exact ⟨by rw [if_neg (by omega), if_neg (by omega), if_pos (Or.inl (by omega))], zEq.refl w⟩
      · refine r_aload_n 0 0 dC_fewest_31 rfl rfl ?_
        refine r_getR (k := 4) (b := 5) fX6 rfl rfl rfl (by decide) kw_191 rfl dC_fewest_32 ?_
        refine r_aload_n 0 0 dC_fewest_35 rfl rfl ?_
        refine r_getR (k := 0) (b := 1) fX6 rfl rfl rfl (by decide) kw_187 rfl dC_fewest_36 ?_
        refine r_cVIN (cP_isMade w (by omega)) qP_isMade rfl kw_354 rfl rfl dC_fewest_39 (st0 := [zR 1, zR 5]) (st := []) rfl ⟨Nat.le_of_ble_eq_true rfl, Nat.le_of_ble_eq_true rfl⟩ ⟨Nat.le_of_ble_eq_true rfl, Nat.le_of_ble_eq_true rfl⟩ (Nat.le_of_ble_eq_true rfl) (fun a_39 w_39 h_39 ok_39 => ?_)
        have hzp : zEq w w_39 := fun i k hk' => h_39.1 i k (fun q => by rw [q, zkeep_5] at hk'; cases hk') (fun q => by have q9 := zkeep_tab q k; rw [q9] at hk'; cases hk')
        refine r_if_ne 48 dC_fewest_42 (by decide) ⟨by omega, by omega⟩ (fun c_42 => ?_) (fun c_42 => ?_)
        · refine r_iload_n 1 1 dC_fewest_48 rfl rfl ?_
          refine r_if_ge 62 dC_fewest_49 (by decide) ⟨by omega, by omega⟩ (fun c_49 => ?_) (fun c_49 => ?_)
          · refine r_aload_n 0 0 dC_fewest_62 rfl rfl ?_
            refine r_getR (k := 4) (b := 5) fX6 rfl rfl rfl (by decide) kw_191 rfl dC_fewest_63 ?_
            refine r_getRN (k := 1) (b := 29) fX3 rfl rfl rfl (by decide) kw_157 rfl dC_fewest_66 ?_
            refine r_iload_n 1 1 dC_fewest_69 rfl rfl ?_
            refine r_iaload rfl (by decide) dC_fewest_70 (by omega) (by omega) rfl (fun y_70 ey_70 ly_70 uy_70 => ?_)
            refine r_iret rfl dC_fewest_71 ⟨_, rfl, ?_⟩
            obtain ⟨k1, -, k3, k4⟩ : ¬ zLC w (w.1 1 3).toNat 12 = 1000000 ∧ a_39 = 1 ∧ w_39.1 5 2 = zWnC w (w.1 1 3).toNat ∧ (∀ g : Int, 0 ≤ g → g < w.1 1 3 → w_39.1 29 g = zDgC w g) := (by rcases h_39.2 with q | q; exact absurd q.2 (by omega); exact q)
            first | exact ⟨by rw [if_neg (by omega), if_neg (by omega), if_neg (by omega), if_pos (by omega), ey_56]; exact k3, hzp⟩ | exact ⟨by rw [if_neg (by omega), if_neg (by omega), if_neg (by omega), if_neg (by omega), ey_70]; exact k4 g (by omega) (by omega), hzp⟩
          · refine r_aload_n 0 0 dC_fewest_52 rfl rfl ?_
            refine r_getR (k := 4) (b := 5) fX6 rfl rfl rfl (by decide) kw_191 rfl dC_fewest_53 ?_
            refine r_getIN (k := 2) fX3 rfl rfl (by decide) kw_159 rfl 2 rfl dC_fewest_56 rfl (fun y_56 ey_56 ly_56 uy_56 => ?_)
            refine r_goto 71 dC_fewest_59 (by decide) ?_
            refine r_iret rfl dC_fewest_71 ⟨_, rfl, ?_⟩
            obtain ⟨k1, -, k3, k4⟩ : ¬ zLC w (w.1 1 3).toNat 12 = 1000000 ∧ a_39 = 1 ∧ w_39.1 5 2 = zWnC w (w.1 1 3).toNat ∧ (∀ g : Int, 0 ≤ g → g < w.1 1 3 → w_39.1 29 g = zDgC w g) := (by rcases h_39.2 with q | q; exact absurd q.2 (by omega); exact q)
            first | exact ⟨by rw [if_neg (by omega), if_neg (by omega), if_neg (by omega), if_pos (by omega), ey_56]; exact k3, hzp⟩ | exact ⟨by rw [if_neg (by omega), if_neg (by omega), if_neg (by omega), if_neg (by omega), ey_70]; exact k4 g (by omega) (by omega), hzp⟩
        · refine r_bipush dC_fewest_45 (by decide) ?_
          refine r_iret rfl dC_fewest_47 ⟨_, rfl, ?_⟩
          exact ⟨by rw [if_neg (by omega), if_neg (by omega), if_pos (Or.inr (by omega))], hzp⟩
    · refine r_bipush dC_fewest_17 (by decide) ?_
      refine r_iret rfl dC_fewest_19 ⟨_, rfl, ?_⟩
      exact ⟨by rw [if_neg (by omega), if_pos (by omega)], zEq.refl w⟩
  · refine r_iconst dC_fewest_5 ?_
    refine r_iret rfl dC_fewest_6 ⟨_, rfl, ?_⟩
    exact ⟨by rw [if_pos (by omega)], zEq.refl w⟩
