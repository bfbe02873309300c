set_option maxRecDepth 20000 in
set_option maxHeartbeats 4000000 in
theorem cT_next (w : zW) (low : Int) (high : Int) (c : Int → Int) (n : Int) (p : Int) (zlow : zin low) (zhigh : zin high) (hT : zTS w c n p) : zC mT_next 0 [zR 3, zI low, zI high] w (zrI fun a w' => zTS w' c n (p + a) ∧ (∀ i k, ¬ (i = 3 ∧ k = 3) → w'.1 i k = w.1 i k) ∧ ((p < n ∧ low ≤ c p ∧ c p ≤ high ∧ a = 1) ∨ ((n ≤ p ∨ c p < low ∨ high < c p) ∧ a = 0))) := by
  refine zC.of (by decide +kernel) (Nat.le_of_ble_eq_true rfl) ?_
  show zM mT_next (zZm 0 _) 0 [(0, zR 3), (1, zI low), (2, zI high)] [] w
  obtain ⟨⟨hS, hB, hr⟩, hfl, hc, hn, hp⟩ := id hT
  refine r_ok (fun hO => ?_)
  have hfr := hO 3 1
  change 0 ≤ w.1 3 1 ∧ w.1 3 1 ≤ 60 at hfr
  have hln := hO 3 2
  change 0 ≤ w.1 3 2 ∧ w.1 3 2 ≤ 60 at hln
  have hpl := hO 3 3
  change 0 ≤ w.1 3 3 ∧ w.1 3 3 ≤ 60 at hpl
  refine r_aload_n 0 0 dT_next_0 rfl rfl ?_
  refine r_getI (k := 3) fX5 rfl rfl (by decide) kw_102 rfl 3 rfl dT_next_1 rfl (fun y_1 ey_1 ly_1 uy_1 => ?_)
  refine r_aload_n 0 0 dT_next_4 rfl rfl ?_
  refine r_getI (k := 2) fX5 rfl rfl (by decide) kw_101 rfl 2 rfl dT_next_5 rfl (fun y_5 ey_5 ly_5 uy_5 => ?_)
  refine r_ic_lt 13 dT_next_8 (by decide) ⟨by omega, by omega⟩ ⟨by omega, by omega⟩ (fun c_8 => ?_) (fun c_8 => ?_)
  · refine r_aload_n 0 0 dT_next_13 rfl rfl ?_
    refine r_getR (k := 0) (b := w.2) fX5 rfl rfl rfl (by decide) kw_99 rfl dT_next_14 ?_
    refine r_aload_n 0 0 dT_next_17 rfl rfl ?_
    refine r_getI (k := 1) fX5 rfl rfl (by decide) kw_100 rfl 1 rfl dT_next_18 rfl (fun y_18 ey_18 ly_18 uy_18 => ?_)
    refine r_aload_n 0 0 dT_next_21 rfl rfl ?_
    refine r_getI (k := 3) fX5 rfl rfl (by decide) kw_102 rfl 3 rfl dT_next_22 rfl (fun y_22 ey_22 ly_22 uy_22 => ?_)
    refine r_iadd dT_next_25 ?_
    refine r_iaload hS (by decide) dT_next_26 (by omega) (by omega) (hB _) (fun y_26 ey_26 ly_26 uy_26 => ?_)
    refine r_istore_n (ls' := [(3, zI y_26), (0, zR 3), (1, zI low), (2, zI high)]) 3 dT_next_27 rfl (by decide) rfl ?_
    have ec : y_26 = c p := (by rw [ey_26, ey_18, ey_22, hc, hp])
    refine r_iload_n 3 0 dT_next_28 rfl rfl ?_
    refine r_iload_n 1 2 dT_next_29 rfl rfl ?_
    refine r_ic_lt 38 dT_next_30 (by decide) ⟨by omega, by omega⟩ ⟨by omega, by omega⟩ (fun c_30 => ?_) (fun c_30 => ?_)
    · refine r_iconst dT_next_38 ?_
      refine r_zret rfl (by omega) dT_next_39 ⟨_, rfl, ?_⟩
      exact ⟨by rw [Int.add_zero]; exact hT, fun _ _ _ => rfl, by omega⟩
    · refine r_iload_n 3 0 dT_next_33 rfl rfl ?_
      refine r_iload_n 2 3 dT_next_34 rfl rfl ?_
      refine r_ic_le 40 dT_next_35 (by decide) ⟨by omega, by omega⟩ ⟨by omega, by omega⟩ (fun c_35 => ?_) (fun c_35 => ?_)
      · refine r_aload_n 0 1 dT_next_40 rfl rfl ?_
        refine r_dup dT_next_41 rfl ?_
        refine r_getI (k := 3) fX5 rfl rfl (by decide) kw_102 rfl 3 rfl dT_next_42 rfl (fun y_42 ey_42 ly_42 uy_42 => ?_)
        refine r_iconst dT_next_45 ?_
        refine r_iadd dT_next_46 ?_
        refine r_putI (k := 3) fX5 rfl rfl (by decide) kw_102 rfl rfl (by decide +kernel) 3 rfl dT_next_47 rfl (by omega) (by omega) (fun w_47 ew_47 => ?_)
        refine r_iconst dT_next_50 ?_
        refine r_zret rfl (by omega) dT_next_51 ⟨_, rfl, ?_⟩
        exact ⟨by rw [ew_47, ey_42, hp]; exact hT.put, fun i k q => by rw [ew_47, zput_e, if_neg q], by omega⟩
      · refine r_iconst dT_next_38 ?_
        refine r_zret rfl (by omega) dT_next_39 ⟨_, rfl, ?_⟩
        exact ⟨by rw [Int.add_zero]; exact hT, fun _ _ _ => rfl, by omega⟩
  · refine r_iconst dT_next_11 ?_
    refine r_zret rfl (by omega) dT_next_12 ⟨_, rfl, ?_⟩
    exact ⟨by rw [Int.add_zero]; exact hT, fun _ _ _ => rfl, by omega⟩

set_option maxRecDepth 20000 in
set_option maxHeartbeats 4000000 in
theorem cT_isLetter (w : zW) (c : Int → Int) (n : Int) (p : Int) (hT : zTS w c n p) : zC mT_isLetter 1 [zR 3] w (zrI fun a w' => zTS w' c n (p + a) ∧ (∀ i k, ¬ (i = 3 ∧ k = 3) → w'.1 i k = w.1 i k) ∧ ((p < n ∧ (c p = 103 ∨ c p = 99 ∨ c p = 112) ∧ a = 1) ∨ ((n ≤ p ∨ ¬ (c p = 103 ∨ c p = 99 ∨ c p = 112)) ∧ a = 0))) := by
  refine zC.of (by decide +kernel) (Nat.le_of_ble_eq_true rfl) ?_
  show zM mT_isLetter (zZm 1 _) 0 [(0, zR 3)] [] w
  refine r_aload_n 0 0 dT_isLetter_0 rfl rfl ?_
  refine r_bipush dT_isLetter_1 (by decide) ?_
  refine r_bipush dT_isLetter_3 (by decide) ?_
  refine r_cVI (cT_next w 103 103 c n p ⟨by omega, by omega⟩ ⟨by omega, by omega⟩ hT) qT_next rfl kw_239 rfl rfl dT_isLetter_5 (st0 := [zI 103, zI 103, zR 3]) (st := []) rfl ⟨Nat.le_of_ble_eq_true rfl, Nat.le_of_ble_eq_true rfl⟩ ⟨Nat.le_of_ble_eq_true rfl, Nat.le_of_ble_eq_true rfl⟩ (Nat.le_of_ble_eq_true rfl) (fun a_5 w_5 h_5 ok_5 => ?_)
  refine r_if_ne 33 dT_isLetter_8 (by decide) ⟨by omega, by omega⟩ (fun c_8 => ?_) (fun c_8 => ?_)
  · refine r_iconst dT_isLetter_33 ?_
    refine r_goto 38 dT_isLetter_34 (by decide) ?_
    refine r_zret rfl (by omega) dT_isLetter_38 ⟨_, rfl, ?_⟩
    exact ⟨(by have q := h_5.1; rw [show p + a_5 = p + 1 by omega] at q; exact q), h_5.2.1, by omega⟩
  · refine r_aload_n 0 0 dT_isLetter_11 rfl rfl ?_
    refine r_bipush dT_isLetter_12 (by decide) ?_
    refine r_bipush dT_isLetter_14 (by decide) ?_
    refine r_cVI (cT_next w_5 99 99 c n p ⟨by omega, by omega⟩ ⟨by omega, by omega⟩ (by have q := h_5.1; rw [show p + a_5 = p by omega] at q; exact q)) qT_next rfl kw_239 rfl rfl dT_isLetter_16 (st0 := [zI 99, zI 99, zR 3]) (st := []) rfl ⟨Nat.le_of_ble_eq_true rfl, Nat.le_of_ble_eq_true rfl⟩ ⟨Nat.le_of_ble_eq_true rfl, Nat.le_of_ble_eq_true rfl⟩ (Nat.le_of_ble_eq_true rfl) (fun a_16 w_16 h_16 ok_16 => ?_)
    refine r_if_ne 33 dT_isLetter_19 (by decide) ⟨by omega, by omega⟩ (fun c_19 => ?_) (fun c_19 => ?_)
    · refine r_iconst dT_isLetter_33 ?_
      refine r_goto 38 dT_isLetter_34 (by decide) ?_
      refine r_zret rfl (by omega) dT_isLetter_38 ⟨_, rfl, ?_⟩
      exact ⟨(by have q := h_16.1; rw [show p + a_16 = p + 1 by omega] at q; exact q), fun i k q => (h_16.2.1 i k q).trans (h_5.2.1 i k q), by omega⟩
    · refine r_aload_n 0 0 dT_isLetter_22 rfl rfl ?_
      refine r_bipush dT_isLetter_23 (by decide) ?_
      refine r_bipush dT_isLetter_25 (by decide) ?_
      refine r_cVI (cT_next w_16 112 112 c n p ⟨by omega, by omega⟩ ⟨by omega, by omega⟩ (by have q := h_16.1; rw [show p + a_16 = p by omega] at q; exact q)) qT_next rfl kw_239 rfl rfl dT_isLetter_27 (st0 := [zI 112, zI 112, zR 3]) (st := []) rfl ⟨Nat.le_of_ble_eq_true rfl, Nat.le_of_ble_eq_true rfl⟩ ⟨Nat.le_of_ble_eq_true rfl, Nat.le_of_ble_eq_true rfl⟩ (Nat.le_of_ble_eq_true rfl) (fun a_27 w_27 h_27 ok_27 => ?_)
      refine r_if_eq 37 dT_isLetter_30 (by decide) ⟨by omega, by omega⟩ (fun c_30 => ?_) (fun c_30 => ?_)
      · refine r_iconst dT_isLetter_37 ?_
        refine r_zret rfl (by omega) dT_isLetter_38 ⟨_, rfl, ?_⟩
        exact ⟨by first | (have q := h_27.1; rw [show p + a_27 = p + 1 by omega] at q; exact q) | (have q := h_27.1; rw [show p + a_27 = p + 0 by omega] at q; exact q), fun i k q => (h_27.2.1 i k q).trans ((h_16.2.1 i k q).trans (h_5.2.1 i k q)), by omega⟩
      · refine r_iconst dT_isLetter_33 ?_
        refine r_goto 38 dT_isLetter_34 (by decide) ?_
        refine r_zret rfl (by omega) dT_isLetter_38 ⟨_, rfl, ?_⟩
        exact ⟨by first | (have q := h_27.1; rw [show p + a_27 = p + 1 by omega] at q; exact q) | (have q := h_27.1; rw [show p + a_27 = p + 0 by omega] at q; exact q), fun i k q => (h_27.2.1 i k q).trans ((h_16.2.1 i k q).trans (h_5.2.1 i k q)), by omega⟩

set_option maxRecDepth 20000 in
set_option maxHeartbeats 4000000 in
theorem cT_areDoings (w : zW) (c : Int → Int) (n : Int) (hT : zTS w c n 3) : zC mT_areDoings 1 [zR 3] w (zrI fun a w' => (((zDs c n 4 0).1 = true ∧ a = 1) ∨ ((zDs c n 4 0).1 = false ∧ a = 0)) ∧ zTS w' c n (zDs c n 4 0).2.2 ∧ w'.1 3 4 = (zDs c n 4 0).2.1 ∧ (∀ i k, ¬ (i = 3 ∧ (k = 3 ∨ k = 4)) → w'.1 i k = w.1 i k)) := by
  refine zC.of (by decide +kernel) (Nat.le_of_ble_eq_true rfl) ?_
  show zM mT_areDoings (zZm 1 _) 0 [(0, zR 3)] [] w
  refine r_aload_n 0 0 dT_areDoings_0 rfl rfl ?_
  refine r_iconst dT_areDoings_1 ?_
  refine r_putI (k := 4) fX5 rfl rfl (by decide) kw_105 rfl rfl (by decide +kernel) 4 rfl dT_areDoings_2 rfl (by omega) (by omega) (fun w_2 ew_2 => ?_)
  have L_5 : ∀ (n_5 : Nat) (k : Int) (wl : zW) (hk0 : 0 ≤ k) (hk1 : k ≤ 4) (hw4 : wl.1 3 4 = k) (hT9 : zTS wl c n (3 + 3 * k)) (hw : ∀ i k, ¬ (i = 3 ∧ (k = 3 ∨ k = 4)) → wl.1 i k = w.1 i k) (hz : zDs c n 4 0 = zDs c n (4 - k).toNat k), 4 - k < (n_5 : Int) → zM mT_areDoings (zZm 1 (zrI fun a w' => (((zDs c n 4 0).1 = true ∧ a = 1) ∨ ((zDs c n 4 0).1 = false ∧ a = 0)) ∧ zTS w' c n (zDs c n 4 0).2.2 ∧ w'.1 3 4 = (zDs c n 4 0).2.1 ∧ (∀ i k, ¬ (i = 3 ∧ (k = 3 ∨ k = 4)) → w'.1 i k = w.1 i k))) 5 [(0, zR 3)] [] wl := by
    intro n_5
    induction n_5 with
    | zero => intro k wl hk0 hk1 hw4 hT9 hw hz hm_5; exfalso; omega
    | succ n_5 ih_5 =>
      intro k wl hk0 hk1 hw4 hT9 hw hz hm_5
      refine r_aload_n 0 0 dT_areDoings_5 rfl rfl ?_
      refine r_getI (k := 4) fX5 rfl rfl (by decide) kw_105 rfl 4 rfl dT_areDoings_6 rfl (fun y_6 ey_6 ly_6 uy_6 => ?_)
      refine r_iconst dT_areDoings_9 ?_
      rw [hw4] at ey_6
      refine r_ic_ge 61 dT_areDoings_10 (by decide) ⟨by omega, by omega⟩ ⟨by omega, by omega⟩ (fun c_10 => ?_) (fun c_10 => ?_)
      · refine r_aload_n 0 0 dT_areDoings_61 rfl rfl ?_
        refine r_getI (k := 4) fX5 rfl rfl (by decide) kw_105 rfl 4 rfl dT_areDoings_62 rfl (fun y_62 ey_62 ly_62 uy_62 => ?_)
        rw [hw4] at ey_62
        refine r_if_le 72 dT_areDoings_65 (by decide) ⟨by omega, by omega⟩ (fun c_65 => ?_) (fun c_65 => ?_)
        · refine r_iconst dT_areDoings_72 ?_
          refine r_zret rfl (by omega) dT_areDoings_73 ⟨_, rfl, ?_⟩
          have hk4 : k = 4 := (by omega)
          subst hk4
          have hD : zDs c n 4 0 = (true, 4, 15) := (by rw [hz]; rfl)
          rw [hD]
          exact ⟨by first | exact Or.inl ⟨rfl, rfl⟩ | (exfalso; omega), hT9, hw4, hw⟩
        · refine r_iconst dT_areDoings_68 ?_
          refine r_goto 73 dT_areDoings_69 (by decide) ?_
          refine r_zret rfl (by omega) dT_areDoings_73 ⟨_, rfl, ?_⟩
          have hk4 : k = 4 := (by omega)
          subst hk4
          have hD : zDs c n 4 0 = (true, 4, 15) := (by rw [hz]; rfl)
          rw [hD]
          exact ⟨by first | exact Or.inl ⟨rfl, rfl⟩ | (exfalso; omega), hT9, hw4, hw⟩
      · refine r_aload_n 0 0 dT_areDoings_13 rfl rfl ?_
        refine r_bipush dT_areDoings_14 (by decide) ?_
        refine r_bipush dT_areDoings_16 (by decide) ?_
        refine r_cVI (cT_next wl 47 47 c n (3 + 3 * k) ⟨by omega, by omega⟩ ⟨by omega, by omega⟩ hT9) qT_next rfl kw_239 rfl rfl dT_areDoings_18 (st0 := [zI 47, zI 47, zR 3]) (st := []) rfl ⟨Nat.le_of_ble_eq_true rfl, Nat.le_of_ble_eq_true rfl⟩ ⟨Nat.le_of_ble_eq_true rfl, Nat.le_of_ble_eq_true rfl⟩ (Nat.le_of_ble_eq_true rfl) (fun a_18 w_18 h_18 ok_18 => ?_)
        refine r_if_eq 61 dT_areDoings_21 (by decide) ⟨by omega, by omega⟩ (fun c_21 => ?_) (fun c_21 => ?_)
        · refine r_aload_n 0 0 dT_areDoings_61 rfl rfl ?_
          refine r_getI (k := 4) fX5 rfl rfl (by decide) kw_105 rfl 4 rfl dT_areDoings_62 rfl (fun y_62 ey_62 ly_62 uy_62 => ?_)
          skip
          refine r_if_le 72 dT_areDoings_65 (by decide) ⟨by omega, by omega⟩ (fun c_65 => ?_) (fun c_65 => ?_)
          · refine r_iconst dT_areDoings_72 ?_
            refine r_zret rfl (by omega) dT_areDoings_73 ⟨_, rfl, ?_⟩
            have hD : zDs c n 4 0 = (decide (0 < k), k, 3 + 3 * k) := (by rw [hz, zDs_r (by omega), if_neg (by omega)])
            rw [hD]
            have e62 : y_62 = k := (by rw [ey_62, h_18.2.1 3 4 (by decide), hw4])
            exact ⟨by show (decide (0 < k) = true ∧ _) ∨ (decide (0 < k) = false ∧ _); rw [decide_eq_true_eq, decide_eq_false_iff_not]; omega, (by have q := h_18.1; rw [show 3 + 3 * k + a_18 = 3 + 3 * k by omega] at q; exact q), (h_18.2.1 3 4 (by decide)).trans hw4, fun i k q => (h_18.2.1 i k (fun z => q ⟨z.1, Or.inl z.2⟩)).trans (hw i k q)⟩
          · refine r_iconst dT_areDoings_68 ?_
            refine r_goto 73 dT_areDoings_69 (by decide) ?_
            refine r_zret rfl (by omega) dT_areDoings_73 ⟨_, rfl, ?_⟩
            have hD : zDs c n 4 0 = (decide (0 < k), k, 3 + 3 * k) := (by rw [hz, zDs_r (by omega), if_neg (by omega)])
            rw [hD]
            have e62 : y_62 = k := (by rw [ey_62, h_18.2.1 3 4 (by decide), hw4])
            exact ⟨by show (decide (0 < k) = true ∧ _) ∨ (decide (0 < k) = false ∧ _); rw [decide_eq_true_eq, decide_eq_false_iff_not]; omega, (by have q := h_18.1; rw [show 3 + 3 * k + a_18 = 3 + 3 * k by omega] at q; exact q), (h_18.2.1 3 4 (by decide)).trans hw4, fun i k q => (h_18.2.1 i k (fun z => q ⟨z.1, Or.inl z.2⟩)).trans (hw i k q)⟩
        · refine r_aload_n 0 0 dT_areDoings_24 rfl rfl ?_
          refine r_bipush dT_areDoings_25 (by decide) ?_
          refine r_bipush dT_areDoings_27 (by decide) ?_
          refine r_cVI (cT_next w_18 48 57 c n (4 + 3 * k) ⟨by omega, by omega⟩ ⟨by omega, by omega⟩ (by have q := h_18.1; rw [show 3 + 3 * k + a_18 = 4 + 3 * k by omega] at q; exact q)) qT_next rfl kw_239 rfl rfl dT_areDoings_29 (st0 := [zI 57, zI 48, zR 3]) (st := []) rfl ⟨Nat.le_of_ble_eq_true rfl, Nat.le_of_ble_eq_true rfl⟩ ⟨Nat.le_of_ble_eq_true rfl, Nat.le_of_ble_eq_true rfl⟩ (Nat.le_of_ble_eq_true rfl) (fun a_29 w_29 h_29 ok_29 => ?_)
          refine r_if_eq 46 dT_areDoings_32 (by decide) ⟨by omega, by omega⟩ (fun c_32 => ?_) (fun c_32 => ?_)
          · refine r_iconst dT_areDoings_46 ?_
            refine r_zret rfl (by omega) dT_areDoings_47 ⟨_, rfl, ?_⟩
            have hD : zDs c n 4 0 = (false, k, 4 + 3 * k) := (by rw [hz, zDs_r (by omega), if_pos (by omega), if_neg (by omega)])
            rw [hD]
            exact ⟨Or.inr ⟨rfl, rfl⟩, (by have q := h_29.1; rw [show 4 + 3 * k + a_29 = 4 + 3 * k by omega] at q; exact q), (h_29.2.1 3 4 (by decide)).trans ((h_18.2.1 3 4 (by decide)).trans (hw4)), fun i k q => (h_29.2.1 i k (fun z => q ⟨z.1, Or.inl z.2⟩)).trans ((h_18.2.1 i k (fun z => q ⟨z.1, Or.inl z.2⟩)).trans (hw i k q))⟩
          · refine r_aload_n 0 0 dT_areDoings_35 rfl rfl ?_
            refine r_bipush dT_areDoings_36 (by decide) ?_
            refine r_bipush dT_areDoings_38 (by decide) ?_
            refine r_cVI (cT_next w_29 48 51 c n (5 + 3 * k) ⟨by omega, by omega⟩ ⟨by omega, by omega⟩ (by have q := h_29.1; rw [show 4 + 3 * k + a_29 = 5 + 3 * k by omega] at q; exact q)) qT_next rfl kw_239 rfl rfl dT_areDoings_40 (st0 := [zI 51, zI 48, zR 3]) (st := []) rfl ⟨Nat.le_of_ble_eq_true rfl, Nat.le_of_ble_eq_true rfl⟩ ⟨Nat.le_of_ble_eq_true rfl, Nat.le_of_ble_eq_true rfl⟩ (Nat.le_of_ble_eq_true rfl) (fun a_40 w_40 h_40 ok_40 => ?_)
            refine r_if_ne 48 dT_areDoings_43 (by decide) ⟨by omega, by omega⟩ (fun c_43 => ?_) (fun c_43 => ?_)
            · refine r_aload_n 0 0 dT_areDoings_48 rfl rfl ?_
              refine r_dup dT_areDoings_49 rfl ?_
              refine r_getI (k := 4) fX5 rfl rfl (by decide) kw_105 rfl 4 rfl dT_areDoings_50 rfl (fun y_50 ey_50 ly_50 uy_50 => ?_)
              refine r_iconst dT_areDoings_53 ?_
              refine r_iadd dT_areDoings_54 ?_
              refine r_putI (k := 4) fX5 rfl rfl (by decide) kw_105 rfl rfl (by decide +kernel) 4 rfl dT_areDoings_55 rfl (by rw [h_40.2.1 3 4 (by decide), h_29.2.1 3 4 (by decide), h_18.2.1 3 4 (by decide), hw4] at ey_50; omega) (by rw [h_40.2.1 3 4 (by decide), h_29.2.1 3 4 (by decide), h_18.2.1 3 4 (by decide), hw4] at ey_50; omega) (fun w_55 ew_55 => ?_)
              refine r_goto 5 dT_areDoings_58 (by decide) ?_
              exact ih_5 (k + 1) w_55 (by omega) (by omega) (by rw [ew_55, zput_s, ey_50, h_40.2.1 3 4 (by decide), h_29.2.1 3 4 (by decide), h_18.2.1 3 4 (by decide), hw4]) (by rw [ew_55]; refine zTS.put2 ?_ (Or.inl rfl); have q := h_40.1; rw [show 5 + 3 * k + a_40 = 3 + 3 * (k + 1) by omega] at q; exact q) (fun i k q => by rw [ew_55, zput_e, if_neg (fun z => q ⟨z.1, Or.inr z.2⟩), h_40.2.1 i k (fun z => q ⟨z.1, Or.inl z.2⟩), h_29.2.1 i k (fun z => q ⟨z.1, Or.inl z.2⟩), h_18.2.1 i k (fun z => q ⟨z.1, Or.inl z.2⟩), hw i k q]) (by rw [hz, zDs_r (by omega), if_pos (by omega), if_pos (by omega), if_pos (by omega)]) (by omega)
            · refine r_iconst dT_areDoings_46 ?_
              refine r_zret rfl (by omega) dT_areDoings_47 ⟨_, rfl, ?_⟩
              have hD : zDs c n 4 0 = (false, k, 5 + 3 * k) := (by rw [hz, zDs_r (by omega), if_pos (by omega), if_pos (by omega), if_neg (by omega)])
              rw [hD]
              exact ⟨Or.inr ⟨rfl, rfl⟩, (by have q := h_40.1; rw [show 5 + 3 * k + a_40 = 5 + 3 * k by omega] at q; exact q), (h_40.2.1 3 4 (by decide)).trans ((h_29.2.1 3 4 (by decide)).trans ((h_18.2.1 3 4 (by decide)).trans (hw4))), fun i k q => (h_40.2.1 i k (fun z => q ⟨z.1, Or.inl z.2⟩)).trans ((h_29.2.1 i k (fun z => q ⟨z.1, Or.inl z.2⟩)).trans ((h_18.2.1 i k (fun z => q ⟨z.1, Or.inl z.2⟩)).trans (hw i k q)))⟩
  exact L_5 5 0 w_2 (by omega) (by omega) (by rw [ew_2, zput_s]) (by rw [ew_2]; exact hT.put2 (Or.inl rfl)) (fun i k q => by rw [ew_2, zput_e, if_neg (fun z => q ⟨z.1, Or.inr z.2⟩)]) rfl (by omega)

set_option maxRecDepth 20000 in
set_option maxHeartbeats 4000000 in
theorem cT_areGuests (w : zW) (c : Int → Int) (n : Int) (nd : Int) (hT : zTS w c n (3 + 3 * nd)) (hnd : w.1 3 4 = nd) (hn1 : 1 ≤ nd) (hn4 : nd ≤ 4) : zC mT_areGuests 2 [zR 3] w (zrI fun a w' => (((zGs c n nd 6 0).1 = true ∧ a = 1) ∨ ((zGs c n nd 6 0).1 = false ∧ a = 0)) ∧ zTS w' c n (zGs c n nd 6 0).2.2 ∧ w'.1 3 5 = (zGs c n nd 6 0).2.1 ∧ (∀ i k, ¬ (i = 3 ∧ (k = 3 ∨ k = 5)) → w'.1 i k = w.1 i k)) := by
  refine zC.of (by decide +kernel) (Nat.le_of_ble_eq_true rfl) ?_
  show zM mT_areGuests (zZm 2 _) 0 [(0, zR 3)] [] w
  refine r_aload_n 0 0 dT_areGuests_0 rfl rfl ?_
  refine r_iconst dT_areGuests_1 ?_
  refine r_putI (k := 5) fX5 rfl rfl (by decide) kw_107 rfl rfl (by decide +kernel) 5 rfl dT_areGuests_2 rfl (by omega) (by omega) (fun w_2 ew_2 => ?_)
  have L_5 : ∀ (n_5 : Nat) (j : Int) (wl : zW) (hk0 : 0 ≤ j) (hk1 : j ≤ 6) (hw5 : wl.1 3 5 = j) (hT9 : zTS wl c n (3 + 3 * nd + 4 * j)) (hw : ∀ i k, ¬ (i = 3 ∧ (k = 3 ∨ k = 5)) → wl.1 i k = w.1 i k) (hz : zGs c n nd 6 0 = zGs c n nd (6 - j).toNat j), 6 - j < (n_5 : Int) → zM mT_areGuests (zZm 2 (zrI fun a w' => (((zGs c n nd 6 0).1 = true ∧ a = 1) ∨ ((zGs c n nd 6 0).1 = false ∧ a = 0)) ∧ zTS w' c n (zGs c n nd 6 0).2.2 ∧ w'.1 3 5 = (zGs c n nd 6 0).2.1 ∧ (∀ i k, ¬ (i = 3 ∧ (k = 3 ∨ k = 5)) → w'.1 i k = w.1 i k))) 5 [(0, zR 3)] [] wl := by
    intro n_5
    induction n_5 with
    | zero => intro j wl hk0 hk1 hw5 hT9 hw hz hm_5; exfalso; omega
    | succ n_5 ih_5 =>
      intro j wl hk0 hk1 hw5 hT9 hw hz hm_5
      refine r_aload_n 0 0 dT_areGuests_5 rfl rfl ?_
      refine r_getI (k := 5) fX5 rfl rfl (by decide) kw_107 rfl 5 rfl dT_areGuests_6 rfl (fun y_6 ey_6 ly_6 uy_6 => ?_)
      refine r_bipush dT_areGuests_9 (by decide) ?_
      rw [hw5] at ey_6
      refine r_ic_ge 76 dT_areGuests_11 (by decide) ⟨by omega, by omega⟩ ⟨by omega, by omega⟩ (fun c_11 => ?_) (fun c_11 => ?_)
      · refine r_aload_n 0 0 dT_areGuests_76 rfl rfl ?_
        refine r_getI (k := 5) fX5 rfl rfl (by decide) kw_107 rfl 5 rfl dT_areGuests_77 rfl (fun y_77 ey_77 ly_77 uy_77 => ?_)
        refine r_iconst dT_areGuests_80 ?_
        rw [hw5] at ey_77
        refine r_ic_lt 88 dT_areGuests_81 (by decide) ⟨by omega, by omega⟩ ⟨by omega, by omega⟩ (fun c_81 => ?_) (fun c_81 => ?_)
        · refine r_iconst dT_areGuests_88 ?_
          refine r_zret rfl (by omega) dT_areGuests_89 ⟨_, rfl, ?_⟩
          have hk4 : j = 6 := (by omega)
          subst hk4
          have hD : zGs c n nd 6 0 = (true, 6, 3 + 3 * nd + 4 * 6) := (by rw [hz]; rfl)
          rw [hD]
          exact ⟨by first | exact Or.inl ⟨rfl, rfl⟩ | (exfalso; omega), hT9, hw5, hw⟩
        · refine r_iconst dT_areGuests_84 ?_
          refine r_goto 89 dT_areGuests_85 (by decide) ?_
          refine r_zret rfl (by omega) dT_areGuests_89 ⟨_, rfl, ?_⟩
          have hk4 : j = 6 := (by omega)
          subst hk4
          have hD : zGs c n nd 6 0 = (true, 6, 3 + 3 * nd + 4 * 6) := (by rw [hz]; rfl)
          rw [hD]
          exact ⟨by first | exact Or.inl ⟨rfl, rfl⟩ | (exfalso; omega), hT9, hw5, hw⟩
      · refine r_aload_n 0 0 dT_areGuests_14 rfl rfl ?_
        refine r_bipush dT_areGuests_15 (by decide) ?_
        refine r_bipush dT_areGuests_17 (by decide) ?_
        refine r_cVI (cT_next wl 59 59 c n (3 + 3 * nd + 4 * j) ⟨by omega, by omega⟩ ⟨by omega, by omega⟩ hT9) qT_next rfl kw_239 rfl rfl dT_areGuests_19 (st0 := [zI 59, zI 59, zR 3]) (st := []) rfl ⟨Nat.le_of_ble_eq_true rfl, Nat.le_of_ble_eq_true rfl⟩ ⟨Nat.le_of_ble_eq_true rfl, Nat.le_of_ble_eq_true rfl⟩ (Nat.le_of_ble_eq_true rfl) (fun a_19 w_19 h_19 ok_19 => ?_)
        refine r_if_eq 76 dT_areGuests_22 (by decide) ⟨by omega, by omega⟩ (fun c_22 => ?_) (fun c_22 => ?_)
        · refine r_aload_n 0 0 dT_areGuests_76 rfl rfl ?_
          refine r_getI (k := 5) fX5 rfl rfl (by decide) kw_107 rfl 5 rfl dT_areGuests_77 rfl (fun y_77 ey_77 ly_77 uy_77 => ?_)
          refine r_iconst dT_areGuests_80 ?_
          skip
          refine r_ic_lt 88 dT_areGuests_81 (by decide) ⟨by omega, by omega⟩ ⟨by omega, by omega⟩ (fun c_81 => ?_) (fun c_81 => ?_)
          · refine r_iconst dT_areGuests_88 ?_
            refine r_zret rfl (by omega) dT_areGuests_89 ⟨_, rfl, ?_⟩
            have hD : zGs c n nd 6 0 = (decide (2 ≤ j), j, 3 + 3 * nd + 4 * j) := (by rw [hz, zGs_r (by omega), if_neg (by omega)])
            rw [hD]
            have e62 : y_77 = j := (by rw [ey_77, h_19.2.1 3 5 (by decide), hw5])
            exact ⟨by show (decide (2 ≤ j) = true ∧ _) ∨ (decide (2 ≤ j) = false ∧ _); rw [decide_eq_true_eq, decide_eq_false_iff_not]; omega, (by have q := h_19.1; rw [show 3 + 3 * nd + 4 * j + a_19 = 3 + 3 * nd + 4 * j by omega] at q; exact q), (h_19.2.1 3 5 (by decide)).trans hw5, fun i k q => (h_19.2.1 i k (fun z => q ⟨z.1, Or.inl z.2⟩)).trans (hw i k q)⟩
          · refine r_iconst dT_areGuests_84 ?_
            refine r_goto 89 dT_areGuests_85 (by decide) ?_
            refine r_zret rfl (by omega) dT_areGuests_89 ⟨_, rfl, ?_⟩
            have hD : zGs c n nd 6 0 = (decide (2 ≤ j), j, 3 + 3 * nd + 4 * j) := (by rw [hz, zGs_r (by omega), if_neg (by omega)])
            rw [hD]
            have e62 : y_77 = j := (by rw [ey_77, h_19.2.1 3 5 (by decide), hw5])
            exact ⟨by show (decide (2 ≤ j) = true ∧ _) ∨ (decide (2 ≤ j) = false ∧ _); rw [decide_eq_true_eq, decide_eq_false_iff_not]; omega, (by have q := h_19.1; rw [show 3 + 3 * nd + 4 * j + a_19 = 3 + 3 * nd + 4 * j by omega] at q; exact q), (h_19.2.1 3 5 (by decide)).trans hw5, fun i k q => (h_19.2.1 i k (fun z => q ⟨z.1, Or.inl z.2⟩)).trans (hw i k q)⟩
        · refine r_aload_n 0 0 dT_areGuests_25 rfl rfl ?_
          refine r_cVI (cT_isLetter w_19 c n (4 + 3 * nd + 4 * j) (by have q := h_19.1; rw [show 3 + 3 * nd + 4 * j + a_19 = 4 + 3 * nd + 4 * j by omega] at q; exact q)) qT_isLetter rfl kw_251 rfl rfl dT_areGuests_26 (st0 := [zR 3]) (st := []) rfl ⟨Nat.le_of_ble_eq_true rfl, Nat.le_of_ble_eq_true rfl⟩ ⟨Nat.le_of_ble_eq_true rfl, Nat.le_of_ble_eq_true rfl⟩ (Nat.le_of_ble_eq_true rfl) (fun a_26 w_26 h_26 ok_26 => ?_)
          refine r_if_eq 61 dT_areGuests_29 (by decide) ⟨by omega, by omega⟩ (fun c_29 => ?_) (fun c_29 => ?_)
          · refine r_iconst dT_areGuests_61 ?_
            refine r_zret rfl (by omega) dT_areGuests_62 ⟨_, rfl, ?_⟩
            have hD : zGs c n nd 6 0 = (false, j, 4 + 3 * nd + 4 * j) := (by rw [hz, zGs_r (by omega), if_pos (by omega), if_neg (by omega)])
            rw [hD]
            exact ⟨Or.inr ⟨rfl, rfl⟩, (by have q := h_26.1; rw [show 4 + 3 * nd + 4 * j + a_26 = 4 + 3 * nd + 4 * j by omega] at q; exact q), (h_26.2.1 3 5 (by decide)).trans ((h_19.2.1 3 5 (by decide)).trans (hw5)), fun i k q => (h_26.2.1 i k (fun z => q ⟨z.1, Or.inl z.2⟩)).trans ((h_19.2.1 i k (fun z => q ⟨z.1, Or.inl z.2⟩)).trans (hw i k q))⟩
          · refine r_aload_n 0 0 dT_areGuests_32 rfl rfl ?_
            refine r_bipush dT_areGuests_33 (by decide) ?_
            refine r_bipush dT_areGuests_35 (by decide) ?_
            refine r_cVI (cT_next w_26 48 57 c n (5 + 3 * nd + 4 * j) ⟨by omega, by omega⟩ ⟨by omega, by omega⟩ (by have q := h_26.1; rw [show 4 + 3 * nd + 4 * j + a_26 = 5 + 3 * nd + 4 * j by omega] at q; exact q)) qT_next rfl kw_239 rfl rfl dT_areGuests_37 (st0 := [zI 57, zI 48, zR 3]) (st := []) rfl ⟨Nat.le_of_ble_eq_true rfl, Nat.le_of_ble_eq_true rfl⟩ ⟨Nat.le_of_ble_eq_true rfl, Nat.le_of_ble_eq_true rfl⟩ (Nat.le_of_ble_eq_true rfl) (fun a_37 w_37 h_37 ok_37 => ?_)
            refine r_if_eq 61 dT_areGuests_40 (by decide) ⟨by omega, by omega⟩ (fun c_40 => ?_) (fun c_40 => ?_)
            · refine r_iconst dT_areGuests_61 ?_
              refine r_zret rfl (by omega) dT_areGuests_62 ⟨_, rfl, ?_⟩
              have hD : zGs c n nd 6 0 = (false, j, 5 + 3 * nd + 4 * j) := (by rw [hz, zGs_r (by omega), if_pos (by omega), if_pos (by omega), if_neg (by omega)])
              rw [hD]
              exact ⟨Or.inr ⟨rfl, rfl⟩, (by have q := h_37.1; rw [show 5 + 3 * nd + 4 * j + a_37 = 5 + 3 * nd + 4 * j by omega] at q; exact q), (h_37.2.1 3 5 (by decide)).trans ((h_26.2.1 3 5 (by decide)).trans ((h_19.2.1 3 5 (by decide)).trans (hw5))), fun i k q => (h_37.2.1 i k (fun z => q ⟨z.1, Or.inl z.2⟩)).trans ((h_26.2.1 i k (fun z => q ⟨z.1, Or.inl z.2⟩)).trans ((h_19.2.1 i k (fun z => q ⟨z.1, Or.inl z.2⟩)).trans (hw i k q)))⟩
            · refine r_aload_n 0 0 dT_areGuests_43 rfl rfl ?_
              refine r_bipush dT_areGuests_44 (by decide) ?_
              refine r_bipush dT_areGuests_46 (by decide) ?_
              refine r_aload_n 0 0 dT_areGuests_48 rfl rfl ?_
              refine r_getI (k := 4) fX5 rfl rfl (by decide) kw_105 rfl 4 rfl dT_areGuests_49 rfl (fun y_49 ey_49 ly_49 uy_49 => ?_)
              rw [h_37.2.1 3 4 (by decide), h_26.2.1 3 4 (by decide), h_19.2.1 3 4 (by decide), hw 3 4 (by decide), hnd] at ey_49
              refine r_iadd dT_areGuests_52 ?_
              refine r_iconst dT_areGuests_53 ?_
              refine r_isub dT_areGuests_54 ?_
              refine r_cVI (cT_next w_37 48 ((48 + y_49) - 1) c n (6 + 3 * nd + 4 * j) ⟨by omega, by omega⟩ ⟨by omega, by omega⟩ (by have q := h_37.1; rw [show 5 + 3 * nd + 4 * j + a_37 = 6 + 3 * nd + 4 * j by omega] at q; exact q)) qT_next rfl kw_239 rfl rfl dT_areGuests_55 (st0 := [zI ((48 + y_49) - 1), zI 48, zR 3]) (st := []) rfl ⟨Nat.le_of_ble_eq_true rfl, Nat.le_of_ble_eq_true rfl⟩ ⟨Nat.le_of_ble_eq_true rfl, Nat.le_of_ble_eq_true rfl⟩ (Nat.le_of_ble_eq_true rfl) (fun a_55 w_55 h_55 ok_55 => ?_)
              refine r_if_ne 63 dT_areGuests_58 (by decide) ⟨by omega, by omega⟩ (fun c_58 => ?_) (fun c_58 => ?_)
              · refine r_aload_n 0 0 dT_areGuests_63 rfl rfl ?_
                refine r_dup dT_areGuests_64 rfl ?_
                refine r_getI (k := 5) fX5 rfl rfl (by decide) kw_107 rfl 5 rfl dT_areGuests_65 rfl (fun y_65 ey_65 ly_65 uy_65 => ?_)
                refine r_iconst dT_areGuests_68 ?_
                refine r_iadd dT_areGuests_69 ?_
                refine r_putI (k := 5) fX5 rfl rfl (by decide) kw_107 rfl rfl (by decide +kernel) 5 rfl dT_areGuests_70 rfl (by rw [h_55.2.1 3 5 (by decide), h_37.2.1 3 5 (by decide), h_26.2.1 3 5 (by decide), h_19.2.1 3 5 (by decide), hw5] at ey_65; omega) (by rw [h_55.2.1 3 5 (by decide), h_37.2.1 3 5 (by decide), h_26.2.1 3 5 (by decide), h_19.2.1 3 5 (by decide), hw5] at ey_65; omega) (fun w_70 ew_70 => ?_)
                refine r_goto 5 dT_areGuests_73 (by decide) ?_
                exact ih_5 (j + 1) w_70 (by omega) (by omega) (by rw [ew_70, zput_s, ey_65, h_55.2.1 3 5 (by decide), h_37.2.1 3 5 (by decide), h_26.2.1 3 5 (by decide), h_19.2.1 3 5 (by decide), hw5]) (by rw [ew_70]; refine zTS.put2 ?_ (Or.inr rfl); have q := h_55.1; rw [show 6 + 3 * nd + 4 * j + a_55 = 3 + 3 * nd + 4 * (j + 1) by omega] at q; exact q) (fun i k q => by rw [ew_70, zput_e, if_neg (fun z => q ⟨z.1, Or.inr z.2⟩), h_55.2.1 i k (fun z => q ⟨z.1, Or.inl z.2⟩), h_37.2.1 i k (fun z => q ⟨z.1, Or.inl z.2⟩), h_26.2.1 i k (fun z => q ⟨z.1, Or.inl z.2⟩), h_19.2.1 i k (fun z => q ⟨z.1, Or.inl z.2⟩), hw i k q]) (by rw [hz, zGs_r (by omega), if_pos (by omega), if_pos (by omega), if_pos (by omega), if_pos (by omega)]) (by omega)
              · refine r_iconst dT_areGuests_61 ?_
                refine r_zret rfl (by omega) dT_areGuests_62 ⟨_, rfl, ?_⟩
                have hD : zGs c n nd 6 0 = (false, j, 6 + 3 * nd + 4 * j) := (by rw [hz, zGs_r (by omega), if_pos (by omega), if_pos (by omega), if_pos (by omega), if_neg (by omega)])
                rw [hD]
                exact ⟨Or.inr ⟨rfl, rfl⟩, (by have q := h_55.1; rw [show 6 + 3 * nd + 4 * j + a_55 = 6 + 3 * nd + 4 * j by omega] at q; exact q), (h_55.2.1 3 5 (by decide)).trans ((h_37.2.1 3 5 (by decide)).trans ((h_26.2.1 3 5 (by decide)).trans ((h_19.2.1 3 5 (by decide)).trans (hw5)))), fun i k q => (h_55.2.1 i k (fun z => q ⟨z.1, Or.inl z.2⟩)).trans ((h_37.2.1 i k (fun z => q ⟨z.1, Or.inl z.2⟩)).trans ((h_26.2.1 i k (fun z => q ⟨z.1, Or.inl z.2⟩)).trans ((h_19.2.1 i k (fun z => q ⟨z.1, Or.inl z.2⟩)).trans (hw i k q))))⟩
  exact L_5 7 0 w_2 (by omega) (by omega) (by rw [ew_2, zput_s]) (by rw [ew_2, Int.mul_zero, Int.add_zero]; exact hT.put2 (Or.inr rfl)) (fun i k q => by rw [ew_2, zput_e, if_neg (fun z => q ⟨z.1, Or.inr z.2⟩)]) rfl (by omega)
