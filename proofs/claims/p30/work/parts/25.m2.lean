set_option maxRecDepth 20000 in
set_option maxHeartbeats 4000000 in
theorem cM_ofGuest (w : zW) (g : Int) (what : Int) (zg : zin g) (zwhat : zin what) : zC mM_ofGuest 2 [zR 33, zI g, zI what] w (zrI fun a w' => w = w' ∧ a = fOfGuest (w.1 33 6) (w.1 36 g) (w.1 37 g) (w.1 38 g) g what) := by
  refine zC.of (by decide +kernel) (Nat.le_of_ble_eq_true rfl) ?_
  show zM mM_ofGuest (zZm 2 _) 0 [(0, zR 33), (1, zI g), (2, zI what)] [] w
  refine r_aload_n 0 0 dM_ofGuest_0 rfl rfl ?_
  refine r_iload_n 1 1 dM_ofGuest_1 rfl rfl ?_
  refine r_cVI (cM_noGuest w g (by omega)) qM_noGuest rfl kw_671 rfl rfl dM_ofGuest_2 (st0 := [zI g, zR 33]) (st := []) rfl ⟨Nat.le_of_ble_eq_true rfl, Nat.le_of_ble_eq_true rfl⟩ ⟨Nat.le_of_ble_eq_true rfl, Nat.le_of_ble_eq_true rfl⟩ (Nat.le_of_ble_eq_true rfl) (fun a_2 w_2 h_2 ok_2 => ?_)
  obtain ⟨rfl, h_2⟩ := h_2
  refine r_if_eq 10 dM_ofGuest_5 (by decide) ⟨by omega, by omega⟩ (fun c_5 => ?_) (fun c_5 => ?_)
  · refine r_iload_n 2 2 dM_ofGuest_10 rfl rfl ?_
    refine r_if_ne 23 dM_ofGuest_11 (by decide) ⟨by omega, by omega⟩ (fun c_11 => ?_) (fun c_11 => ?_)
    · refine r_iload_n 2 2 dM_ofGuest_23 rfl rfl ?_
      refine r_iconst dM_ofGuest_24 ?_
      refine r_ic_ne 37 dM_ofGuest_25 (by decide) ⟨by omega, by omega⟩ ⟨by omega, by omega⟩ (fun c_25 => ?_) (fun c_25 => ?_)
      · refine r_iload_n 2 2 dM_ofGuest_37 rfl rfl ?_
        refine r_iconst dM_ofGuest_38 ?_
        refine r_ic_ne 51 dM_ofGuest_39 (by decide) ⟨by omega, by omega⟩ ⟨by omega, by omega⟩ (fun c_39 => ?_) (fun c_39 => ?_)
        · refine r_bipush dM_ofGuest_51 (by decide) ?_
          refine r_iret rfl dM_ofGuest_53 ⟨_, rfl, ?_⟩
          exact ⟨rfl, by unfold fOfGuest; (repeat' split) <;> omega⟩
        · refine r_aload_n 0 0 dM_ofGuest_42 rfl rfl ?_
          refine r_getR (k := 9) (b := 38) fX7 rfl rfl rfl (by decide) kw_514 rfl dM_ofGuest_43 ?_
          refine r_iload_n 1 1 dM_ofGuest_46 rfl rfl ?_
          refine r_iaload rfl (by decide) dM_ofGuest_47 (by omega) (by omega) rfl (fun y_47 ey_47 ly_47 uy_47 => ?_)
          refine r_goto 53 dM_ofGuest_48 (by decide) ?_
          refine r_iret rfl dM_ofGuest_53 ⟨_, rfl, ?_⟩
          exact ⟨rfl, by unfold fOfGuest; (repeat' split) <;> omega⟩
      · refine r_aload_n 0 0 dM_ofGuest_28 rfl rfl ?_
        refine r_getR (k := 8) (b := 37) fX7 rfl rfl rfl (by decide) kw_513 rfl dM_ofGuest_29 ?_
        refine r_iload_n 1 1 dM_ofGuest_32 rfl rfl ?_
        refine r_iaload rfl (by decide) dM_ofGuest_33 (by omega) (by omega) rfl (fun y_33 ey_33 ly_33 uy_33 => ?_)
        refine r_goto 53 dM_ofGuest_34 (by decide) ?_
        refine r_iret rfl dM_ofGuest_53 ⟨_, rfl, ?_⟩
        exact ⟨rfl, by unfold fOfGuest; (repeat' split) <;> omega⟩
    · refine r_aload_n 0 0 dM_ofGuest_14 rfl rfl ?_
      refine r_getR (k := 7) (b := 36) fX7 rfl rfl rfl (by decide) kw_512 rfl dM_ofGuest_15 ?_
      refine r_iload_n 1 1 dM_ofGuest_18 rfl rfl ?_
      refine r_iaload rfl (by decide) dM_ofGuest_19 (by omega) (by omega) rfl (fun y_19 ey_19 ly_19 uy_19 => ?_)
      refine r_goto 53 dM_ofGuest_20 (by decide) ?_
      refine r_iret rfl dM_ofGuest_53 ⟨_, rfl, ?_⟩
      exact ⟨rfl, by unfold fOfGuest; (repeat' split) <;> omega⟩
  · refine r_iconst dM_ofGuest_8 ?_
    refine r_iret rfl dM_ofGuest_9 ⟨_, rfl, ?_⟩
    exact ⟨rfl, by unfold fOfGuest; (repeat' split) <;> omega⟩

set_option maxRecDepth 20000 in
set_option maxHeartbeats 4000000 in
theorem cM_ofDoing (w : zW) (d : Int) (what : Int) (zd : zin d) (zwhat : zin what) : zC mM_ofDoing 3 [zR 33, zI d, zI what] w (zrI fun a w' => w = w' ∧ a = fOfGuest (w.1 33 3) (w.1 34 d) (w.1 35 d) (zWMo w d) d what) := by
  refine zC.of (by decide +kernel) (Nat.le_of_ble_eq_true rfl) ?_
  show zM mM_ofDoing (zZm 3 _) 0 [(0, zR 33), (1, zI d), (2, zI what)] [] w
  refine r_aload_n 0 0 dM_ofDoing_0 rfl rfl ?_
  refine r_iload_n 1 1 dM_ofDoing_1 rfl rfl ?_
  refine r_cVI (cM_noDoing w d (by omega)) qM_noDoing rfl kw_679 rfl rfl dM_ofDoing_2 (st0 := [zI d, zR 33]) (st := []) rfl ⟨Nat.le_of_ble_eq_true rfl, Nat.le_of_ble_eq_true rfl⟩ ⟨Nat.le_of_ble_eq_true rfl, Nat.le_of_ble_eq_true rfl⟩ (Nat.le_of_ble_eq_true rfl) (fun a_2 w_2 h_2 ok_2 => ?_)
  obtain ⟨rfl, h_2⟩ := h_2
  refine r_if_eq 10 dM_ofDoing_5 (by decide) ⟨by omega, by omega⟩ (fun c_5 => ?_) (fun c_5 => ?_)
  · refine r_iload_n 2 2 dM_ofDoing_10 rfl rfl ?_
    refine r_if_ne 23 dM_ofDoing_11 (by decide) ⟨by omega, by omega⟩ (fun c_11 => ?_) (fun c_11 => ?_)
    · refine r_iload_n 2 2 dM_ofDoing_23 rfl rfl ?_
      refine r_iconst dM_ofDoing_24 ?_
      refine r_ic_ne 37 dM_ofDoing_25 (by decide) ⟨by omega, by omega⟩ ⟨by omega, by omega⟩ (fun c_25 => ?_) (fun c_25 => ?_)
      · refine r_iload_n 2 2 dM_ofDoing_37 rfl rfl ?_
        refine r_iconst dM_ofDoing_38 ?_
        refine r_ic_ne 50 dM_ofDoing_39 (by decide) ⟨by omega, by omega⟩ ⟨by omega, by omega⟩ (fun c_39 => ?_) (fun c_39 => ?_)
        · refine r_bipush dM_ofDoing_50 (by decide) ?_
          refine r_iret rfl dM_ofDoing_52 ⟨_, rfl, ?_⟩
          exact ⟨rfl, by unfold fOfGuest; (repeat' split) <;> omega⟩
        · refine r_aload_n 0 0 dM_ofDoing_42 rfl rfl ?_
          refine r_iload_n 1 1 dM_ofDoing_43 rfl rfl ?_
          refine r_cVI (cM_losersOf w d (by omega) (by omega)) qM_losersOf rfl kw_683 rfl rfl dM_ofDoing_44 (st0 := [zI d, zR 33]) (st := []) rfl ⟨Nat.le_of_ble_eq_true rfl, Nat.le_of_ble_eq_true rfl⟩ ⟨Nat.le_of_ble_eq_true rfl, Nat.le_of_ble_eq_true rfl⟩ (Nat.le_of_ble_eq_true rfl) (fun a_44 w_44 h_44 ok_44 => ?_)
          obtain ⟨rfl, h_44⟩ := h_44
          refine r_goto 52 dM_ofDoing_47 (by decide) ?_
          refine r_iret rfl dM_ofDoing_52 ⟨_, rfl, ?_⟩
          exact ⟨rfl, by unfold fOfGuest; (repeat' split) <;> omega⟩
      · refine r_aload_n 0 0 dM_ofDoing_28 rfl rfl ?_
        refine r_getR (k := 5) (b := 35) fX7 rfl rfl rfl (by decide) kw_510 rfl dM_ofDoing_29 ?_
        refine r_iload_n 1 1 dM_ofDoing_32 rfl rfl ?_
        refine r_iaload rfl (by decide) dM_ofDoing_33 (by omega) (by omega) rfl (fun y_33 ey_33 ly_33 uy_33 => ?_)
        refine r_goto 52 dM_ofDoing_34 (by decide) ?_
        refine r_iret rfl dM_ofDoing_52 ⟨_, rfl, ?_⟩
        exact ⟨rfl, by unfold fOfGuest; (repeat' split) <;> omega⟩
    · refine r_aload_n 0 0 dM_ofDoing_14 rfl rfl ?_
      refine r_getR (k := 4) (b := 34) fX7 rfl rfl rfl (by decide) kw_509 rfl dM_ofDoing_15 ?_
      refine r_iload_n 1 1 dM_ofDoing_18 rfl rfl ?_
      refine r_iaload rfl (by decide) dM_ofDoing_19 (by omega) (by omega) rfl (fun y_19 ey_19 ly_19 uy_19 => ?_)
      refine r_goto 52 dM_ofDoing_20 (by decide) ?_
      refine r_iret rfl dM_ofDoing_52 ⟨_, rfl, ?_⟩
      exact ⟨rfl, by unfold fOfGuest; (repeat' split) <;> omega⟩
  · refine r_iconst dM_ofDoing_8 ?_
    refine r_iret rfl dM_ofDoing_9 ⟨_, rfl, ?_⟩
    exact ⟨rfl, by unfold fOfGuest; (repeat' split) <;> omega⟩

set_option maxRecDepth 20000 in
set_option maxHeartbeats 4000000 in
theorem cM_strict (w : zW) (v : Int) (zv : zin v) : zC mM_strict 1 [zR 33, zI v] w (zrI fun a w' => a = fStrict (w.1 33 6) (w.1 33 2) v ∧ ∀ i k, w'.1 i k = (if i = 33 ∧ k = 2 ∧ 1 ≤ v ∧ v ≤ 9 ∧ 0 < w.1 33 6 then v else w.1 i k)) := by
  refine zC.of (by decide +kernel) (Nat.le_of_ble_eq_true rfl) ?_
  show zM mM_strict (zZm 1 _) 0 [(0, zR 33), (1, zI v)] [] w
  refine r_iload_n 1 1 dM_strict_0 rfl rfl ?_
  refine r_i2l dM_strict_1 ⟨by omega, by omega⟩ ?_
  refine r_lconst (v := 1) dM_strict_2 rfl ?_
  refine r_ldc2 (a := 9) dM_strict_3 kw_699 (by decide +kernel) ?_
  refine r_cSI (cM_in w v 1 9 (by omega) (by omega) (by omega)) qM_in rfl kw_628 dM_strict_6 (st0 := [zJ 9, zJ 1, zJ v]) (st := []) rfl ⟨Nat.le_of_ble_eq_true rfl, Nat.le_of_ble_eq_true rfl⟩ ⟨Nat.le_of_ble_eq_true rfl, Nat.le_of_ble_eq_true rfl⟩ (Nat.le_of_ble_eq_true rfl) (fun a_6 w_6 h_6 ok_6 => ?_)
  obtain ⟨rfl, h_6⟩ := h_6
  refine r_if_ne 15 dM_strict_9 (by decide) ⟨by omega, by omega⟩ (fun c_9 => ?_) (fun c_9 => ?_)
  · refine r_aload_n 0 0 dM_strict_15 rfl rfl ?_
    refine r_getI (k := 6) fX7 rfl rfl (by decide) kw_511 rfl 6 rfl dM_strict_16 rfl (fun y_16 ey_16 ly_16 uy_16 => ?_)
    refine r_if_ne 25 dM_strict_19 (by decide) ⟨by omega, by omega⟩ (fun c_19 => ?_) (fun c_19 => ?_)
    · refine r_aload_n 0 0 dM_strict_25 rfl rfl ?_
      refine r_getI (k := 2) fX7 rfl rfl (by decide) kw_507 rfl 2 rfl dM_strict_26 rfl (fun y_26 ey_26 ly_26 uy_26 => ?_)
      refine r_istore_n (ls' := [(2, zI y_26), (0, zR 33), (1, zI v)]) 2 dM_strict_29 rfl (by decide) rfl ?_
      refine r_aload_n 0 1 dM_strict_30 rfl rfl ?_
      refine r_iload_n 1 2 dM_strict_31 rfl rfl ?_
      refine r_putI (k := 2) fX7 rfl rfl (by decide) kw_507 rfl rfl (by decide +kernel) 2 rfl dM_strict_32 rfl (by omega) (by omega) (fun w_32 ew_32 => ?_)
      refine r_iload_n 2 0 dM_strict_35 rfl rfl ?_
      refine r_iret rfl dM_strict_36 ⟨_, rfl, ?_⟩
      exact ⟨by unfold fStrict; (repeat' split) <;> omega, fun i k => by rw [ew_32, zput_e]; (repeat' split) <;> first | rfl | omega⟩
    · refine r_bipush dM_strict_22 (by decide) ?_
      refine r_iret rfl dM_strict_24 ⟨_, rfl, ?_⟩
      exact ⟨by unfold fStrict; (repeat' split) <;> omega, fun i k => by rw [if_neg (by omega)]⟩
  · refine r_bipush dM_strict_12 (by decide) ?_
    refine r_iret rfl dM_strict_14 ⟨_, rfl, ?_⟩
    exact ⟨by unfold fStrict; (repeat' split) <;> omega, fun i k => by rw [if_neg (by omega)]⟩

set_option maxRecDepth 20000 in
set_option maxHeartbeats 4000000 in
theorem cM_stars (w : zW) (v : Int) (zv : zin v) : zC mM_stars 1 [zR 33, zI v] w (zrI fun a w' => a = fStars (w.1 33 6) (w.1 33 1) v ∧ ∀ i k, w'.1 i k = (if i = 33 ∧ k = 1 ∧ 0 ≤ v ∧ v ≤ 5 ∧ 0 < w.1 33 6 then v else w.1 i k)) := by
  refine zC.of (by decide +kernel) (Nat.le_of_ble_eq_true rfl) ?_
  show zM mM_stars (zZm 1 _) 0 [(0, zR 33), (1, zI v)] [] w
  refine r_iload_n 1 1 dM_stars_0 rfl rfl ?_
  refine r_i2l dM_stars_1 ⟨by omega, by omega⟩ ?_
  refine r_lconst (v := 0) dM_stars_2 rfl ?_
  refine r_ldc2 (a := 5) dM_stars_3 kw_704 (by decide +kernel) ?_
  refine r_cSI (cM_in w v 0 5 (by omega) (by omega) (by omega)) qM_in rfl kw_628 dM_stars_6 (st0 := [zJ 5, zJ 0, zJ v]) (st := []) rfl ⟨Nat.le_of_ble_eq_true rfl, Nat.le_of_ble_eq_true rfl⟩ ⟨Nat.le_of_ble_eq_true rfl, Nat.le_of_ble_eq_true rfl⟩ (Nat.le_of_ble_eq_true rfl) (fun a_6 w_6 h_6 ok_6 => ?_)
  obtain ⟨rfl, h_6⟩ := h_6
  refine r_if_ne 15 dM_stars_9 (by decide) ⟨by omega, by omega⟩ (fun c_9 => ?_) (fun c_9 => ?_)
  · refine r_aload_n 0 0 dM_stars_15 rfl rfl ?_
    refine r_getI (k := 6) fX7 rfl rfl (by decide) kw_511 rfl 6 rfl dM_stars_16 rfl (fun y_16 ey_16 ly_16 uy_16 => ?_)
    refine r_if_ne 25 dM_stars_19 (by decide) ⟨by omega, by omega⟩ (fun c_19 => ?_) (fun c_19 => ?_)
    · refine r_aload_n 0 0 dM_stars_25 rfl rfl ?_
      refine r_getI (k := 1) fX7 rfl rfl (by decide) kw_506 rfl 1 rfl dM_stars_26 rfl (fun y_26 ey_26 ly_26 uy_26 => ?_)
      refine r_istore_n (ls' := [(2, zI y_26), (0, zR 33), (1, zI v)]) 2 dM_stars_29 rfl (by decide) rfl ?_
      refine r_aload_n 0 1 dM_stars_30 rfl rfl ?_
      refine r_iload_n 1 2 dM_stars_31 rfl rfl ?_
      refine r_putI (k := 1) fX7 rfl rfl (by decide) kw_506 rfl rfl (by decide +kernel) 1 rfl dM_stars_32 rfl (by omega) (by omega) (fun w_32 ew_32 => ?_)
      refine r_iload_n 2 0 dM_stars_35 rfl rfl ?_
      refine r_iret rfl dM_stars_36 ⟨_, rfl, ?_⟩
      exact ⟨by unfold fStars; (repeat' split) <;> omega, fun i k => by rw [ew_32, zput_e]; (repeat' split) <;> first | rfl | omega⟩
    · refine r_bipush dM_stars_22 (by decide) ?_
      refine r_iret rfl dM_stars_24 ⟨_, rfl, ?_⟩
      exact ⟨by unfold fStars; (repeat' split) <;> omega, fun i k => by rw [if_neg (by omega)]⟩
  · refine r_bipush dM_stars_12 (by decide) ?_
    refine r_iret rfl dM_stars_14 ⟨_, rfl, ?_⟩
    exact ⟨by unfold fStars; (repeat' split) <;> omega, fun i k => by rw [if_neg (by omega)]⟩

set_option maxRecDepth 20000 in
set_option maxHeartbeats 4000000 in
theorem cM_pleased (w : zW) (g : Int) (d : Int) (zg : zin g) (zd : zin d) : zC mM_pleased 2 [zR 33, zI g, zI d] w (zrI fun a w' => w = w' ∧ a = fPleased (w.1 33 6) (w.1 33 3) (zPM w g d) g d) := by
  refine zC.of (by decide +kernel) (Nat.le_of_ble_eq_true rfl) ?_
  show zM mM_pleased (zZm 2 _) 0 [(0, zR 33), (1, zI g), (2, zI d)] [] w
  refine r_aload_n 0 0 dM_pleased_0 rfl rfl ?_
  refine r_iload_n 1 1 dM_pleased_1 rfl rfl ?_
  refine r_cVI (cM_noGuest w g (by omega)) qM_noGuest rfl kw_671 rfl rfl dM_pleased_2 (st0 := [zI g, zR 33]) (st := []) rfl ⟨Nat.le_of_ble_eq_true rfl, Nat.le_of_ble_eq_true rfl⟩ ⟨Nat.le_of_ble_eq_true rfl, Nat.le_of_ble_eq_true rfl⟩ (Nat.le_of_ble_eq_true rfl) (fun a_2 w_2 h_2 ok_2 => ?_)
  obtain ⟨rfl, h_2⟩ := h_2
  refine r_if_ne 16 dM_pleased_5 (by decide) ⟨by omega, by omega⟩ (fun c_5 => ?_) (fun c_5 => ?_)
  · refine r_iconst dM_pleased_16 ?_
    refine r_goto 26 dM_pleased_17 (by decide) ?_
    refine r_iret rfl dM_pleased_26 ⟨_, rfl, ?_⟩
    exact ⟨rfl, by unfold fPleased; (repeat' split) <;> omega⟩
  · refine r_aload_n 0 0 dM_pleased_8 rfl rfl ?_
    refine r_iload_n 2 2 dM_pleased_9 rfl rfl ?_
    refine r_cVI (cM_noDoing w d (by omega)) qM_noDoing rfl kw_679 rfl rfl dM_pleased_10 (st0 := [zI d, zR 33]) (st := []) rfl ⟨Nat.le_of_ble_eq_true rfl, Nat.le_of_ble_eq_true rfl⟩ ⟨Nat.le_of_ble_eq_true rfl, Nat.le_of_ble_eq_true rfl⟩ (Nat.le_of_ble_eq_true rfl) (fun a_10 w_10 h_10 ok_10 => ?_)
    obtain ⟨rfl, h_10⟩ := h_10
    refine r_if_eq 20 dM_pleased_13 (by decide) ⟨by omega, by omega⟩ (fun c_13 => ?_) (fun c_13 => ?_)
    · refine r_aload_n 0 0 dM_pleased_20 rfl rfl ?_
      refine r_iload_n 1 1 dM_pleased_21 rfl rfl ?_
      refine r_iload_n 2 2 dM_pleased_22 rfl rfl ?_
      refine r_cVI (cM_pleasedBy w g d (by omega) (by omega) (by omega) (by omega)) qM_pleasedBy rfl kw_691 rfl rfl dM_pleased_23 (st0 := [zI d, zI g, zR 33]) (st := []) rfl ⟨Nat.le_of_ble_eq_true rfl, Nat.le_of_ble_eq_true rfl⟩ ⟨Nat.le_of_ble_eq_true rfl, Nat.le_of_ble_eq_true rfl⟩ (Nat.le_of_ble_eq_true rfl) (fun a_23 w_23 h_23 ok_23 => ?_)
      obtain ⟨rfl, h_23⟩ := h_23
      refine r_iret rfl dM_pleased_26 ⟨_, rfl, ?_⟩
      exact ⟨rfl, by unfold fPleased; (repeat' split) <;> omega⟩
    · refine r_iconst dM_pleased_16 ?_
      refine r_goto 26 dM_pleased_17 (by decide) ?_
      refine r_iret rfl dM_pleased_26 ⟨_, rfl, ?_⟩
      exact ⟨rfl, by unfold fPleased; (repeat' split) <;> omega⟩

set_option maxRecDepth 20000 in
set_option maxHeartbeats 4000000 in
theorem cM_dull (w : zW) (g : Int) (zg : zin g) : zC mM_dull 2 [zR 33, zI g] w (zrI fun a w' => w = w' ∧ a = (if g < 0 ∨ w.1 33 6 ≤ g then -1 else (zDul (fun d => zPM w g d) (w.1 33 2) (w.1 33 3).toNat).1)) := by
  refine zC.of (by decide +kernel) (Nat.le_of_ble_eq_true rfl) ?_
  show zM mM_dull (zZm 2 _) 0 [(0, zR 33), (1, zI g)] [] w
  refine r_ok (fun hO => ?_)
  have hDs := hO 33 3
  change 0 ≤ w.1 33 3 ∧ w.1 33 3 ≤ 4 at hDs
  refine r_aload_n 0 0 dM_dull_0 rfl rfl ?_
  refine r_iload_n 1 1 dM_dull_1 rfl rfl ?_
  refine r_cVI (cM_noGuest w g (by omega)) qM_noGuest rfl kw_671 rfl rfl dM_dull_2 (st0 := [zI g, zR 33]) (st := []) rfl ⟨Nat.le_of_ble_eq_true rfl, Nat.le_of_ble_eq_true rfl⟩ ⟨Nat.le_of_ble_eq_true rfl, Nat.le_of_ble_eq_true rfl⟩ (Nat.le_of_ble_eq_true rfl) (fun a_2 w_2 h_2 ok_2 => ?_)
  obtain ⟨rfl, h_2⟩ := h_2
  refine r_if_eq 10 dM_dull_5 (by decide) ⟨by omega, by omega⟩ (fun c_5 => ?_) (fun c_5 => ?_)
  · refine r_bipush dM_dull_10 (by decide) ?_
    refine r_istore_n (ls' := [(2, zI (-9)), (0, zR 33), (1, zI g)]) 2 dM_dull_12 rfl (by decide) rfl ?_
    refine r_iconst dM_dull_13 ?_
    refine r_istore_n (ls' := [(3, zI 0), (2, zI (-9)), (0, zR 33), (1, zI g)]) 3 dM_dull_14 rfl (by decide) rfl ?_
    have L_15 : ∀ (n_15 : Nat) (most : Int) (best : Int) (i : Int) (hi0 : 0 ≤ i) (hi1 : i ≤ w.1 33 3) (hb : (best = -9 ∧ most = -1) ∨ (0 ≤ best ∧ best < 4 ∧ most = zPM w g best ∧ 0 ≤ most)) (hz : zDul (fun d => zPM w g d) (w.1 33 2) i.toNat = (best, most)), w.1 33 3 - i < (n_15 : Int) → zM mM_dull (zZm 2 (zrI fun a w' => w = w' ∧ a = (if g < 0 ∨ w.1 33 6 ≤ g then -1 else (zDul (fun d => zPM w g d) (w.1 33 2) (w.1 33 3).toNat).1))) 15 [(3, zI i), (2, zI best), (0, zR 33), (1, zI g)] [] w := by
      intro n_15
      induction n_15 with
      | zero => intro most best i hi0 hi1 hb hz hm_15; exfalso; omega
      | succ n_15 ih_15 =>
        intro most best i hi0 hi1 hb hz hm_15
        have hpi := zPM_in ‹zOk w› g i
        refine r_iload_n 3 0 dM_dull_15 rfl rfl ?_
        refine r_aload_n 0 2 dM_dull_16 rfl rfl ?_
        refine r_getI (k := 3) fX7 rfl rfl (by decide) kw_508 rfl 3 rfl dM_dull_17 rfl (fun y_17 ey_17 ly_17 uy_17 => ?_)
        refine r_ic_ge 75 dM_dull_20 (by decide) ⟨by omega, by omega⟩ ⟨by omega, by omega⟩ (fun c_20 => ?_) (fun c_20 => ?_)
        · refine r_iload_n 2 1 dM_dull_75 rfl rfl ?_
          refine r_iret rfl dM_dull_76 ⟨_, rfl, ?_⟩
          exact ⟨rfl, by rw [if_neg (by omega), show (w.1 33 3).toNat = i.toNat by omega, hz]⟩
        · refine r_aload_n 0 2 dM_dull_23 rfl rfl ?_
          refine r_iload_n 1 3 dM_dull_24 rfl rfl ?_
          refine r_iload_n 3 0 dM_dull_25 rfl rfl ?_
          refine r_cVI (cM_doesLose w g i (by omega) (by omega) (by omega) (by omega)) qM_doesLose rfl kw_687 rfl rfl dM_dull_26 (st0 := [zI i, zI g, zR 33]) (st := []) rfl ⟨Nat.le_of_ble_eq_true rfl, Nat.le_of_ble_eq_true rfl⟩ ⟨Nat.le_of_ble_eq_true rfl, Nat.le_of_ble_eq_true rfl⟩ (Nat.le_of_ble_eq_true rfl) (fun a_26 w_26 h_26 ok_26 => ?_)
          obtain ⟨rfl, h_26⟩ := h_26
          have J_56 : ∀ (b : Int) (hbb : ((zPM w g i < w.1 33 2 ∧ most < zPM w g i) ∧ b = 1) ∨ (¬ (zPM w g i < w.1 33 2 ∧ most < zPM w g i) ∧ b = 0)), zM mM_dull (zZm 2 (zrI fun a w' => w = w' ∧ a = (if g < 0 ∨ w.1 33 6 ≤ g then -1 else (zDul (fun d => zPM w g d) (w.1 33 2) (w.1 33 3).toNat).1))) 56 [(3, zI i), (2, zI best), (0, zR 33), (1, zI g)] [zI b] w := by
            intro b hbb
            refine r_istore (ls' := [(4, zI b), (3, zI i), (2, zI best), (0, zR 33), (1, zI g)]) 4 dM_dull_56 (by decide) rfl ?_
            refine r_iload 4 0 dM_dull_58 rfl ?_
            refine r_if_eq 67 dM_dull_60 (by decide) ⟨by omega, by omega⟩ (fun c_60 => ?_) (fun c_60 => ?_)
            · refine r_iload_n 2 2 dM_dull_67 rfl rfl ?_
              refine r_istore_n (ls' := [(2, zI best), (4, zI b), (3, zI i), (0, zR 33), (1, zI g)]) 2 dM_dull_68 rfl (by decide) rfl ?_
              refine r_iinc (ls' := [(3, zI (i + 1)), (2, zI best), (4, zI b), (0, zR 33), (1, zI g)]) 3 2 dM_dull_69 rfl (by decide) rfl ?_
              refine r_goto 15 dM_dull_72 (by decide) ?_
              refine r_sub (ls' := [(3, zI (i + 1)), (2, zI best), (0, zR 33), (1, zI g)]) [0, 1, 3, 4] rfl ?_
              exact ih_15 (if b = 0 then most else zPM w g i) best (i + 1) (by omega) (by omega) (by rcases hbb with ⟨q1, q2⟩ | ⟨q1, q2⟩; (rw [if_neg (by omega)]; omega); (rw [if_pos q2]; omega)) (by rw [zDul_s _ _ hi0, hz]; show (if zPM w g i < w.1 33 2 ∧ most < zPM w g i then (i, zPM w g i) else (best, most)) = _; rcases hbb with ⟨q1, q2⟩ | ⟨q1, q2⟩; (rw [if_pos q1, if_neg (by omega)] <;> first | rfl | (exfalso; omega)); (rw [if_neg q1, if_pos q2] <;> first | rfl | (exfalso; omega))) (by omega)
            · refine r_iload_n 3 1 dM_dull_63 rfl rfl ?_
              refine r_goto 68 dM_dull_64 (by decide) ?_
              refine r_istore_n (ls' := [(2, zI i), (4, zI b), (3, zI i), (0, zR 33), (1, zI g)]) 2 dM_dull_68 rfl (by decide) rfl ?_
              refine r_iinc (ls' := [(3, zI (i + 1)), (2, zI i), (4, zI b), (0, zR 33), (1, zI g)]) 3 2 dM_dull_69 rfl (by decide) rfl ?_
              refine r_goto 15 dM_dull_72 (by decide) ?_
              refine r_sub (ls' := [(3, zI (i + 1)), (2, zI i), (0, zR 33), (1, zI g)]) [0, 1, 3, 4] rfl ?_
              exact ih_15 (if b = 0 then most else zPM w g i) i (i + 1) (by omega) (by omega) (by rcases hbb with ⟨q1, q2⟩ | ⟨q1, q2⟩; (rw [if_neg (by omega)]; omega); (rw [if_pos q2]; omega)) (by rw [zDul_s _ _ hi0, hz]; show (if zPM w g i < w.1 33 2 ∧ most < zPM w g i then (i, zPM w g i) else (best, most)) = _; rcases hbb with ⟨q1, q2⟩ | ⟨q1, q2⟩; (rw [if_pos q1, if_neg (by omega)] <;> first | rfl | (exfalso; omega)); (rw [if_neg q1, if_pos q2] <;> first | rfl | (exfalso; omega))) (by omega)
          refine r_if_ne 55 dM_dull_29 (by decide) ⟨by omega, by omega⟩ (fun c_29 => ?_) (fun c_29 => ?_)
          · refine r_iconst dM_dull_55 ?_
            exact J_56 0 (by omega)
          · refine r_iload_n 2 1 dM_dull_32 rfl rfl ?_
            refine r_if_lt 51 dM_dull_33 (by decide) ⟨by omega, by omega⟩ (fun c_33 => ?_) (fun c_33 => ?_)
            · refine r_iconst dM_dull_51 ?_
              refine r_goto 56 dM_dull_52 (by decide) ?_
              exact J_56 1 (by omega)
            · refine r_aload_n 0 2 dM_dull_36 rfl rfl ?_
              refine r_iload_n 1 3 dM_dull_37 rfl rfl ?_
              refine r_iload_n 3 0 dM_dull_38 rfl rfl ?_
              refine r_cVI (cM_pleasedBy w g i (by omega) (by omega) (by omega) (by omega)) qM_pleasedBy rfl kw_691 rfl rfl dM_dull_39 (st0 := [zI i, zI g, zR 33]) (st := []) rfl ⟨Nat.le_of_ble_eq_true rfl, Nat.le_of_ble_eq_true rfl⟩ ⟨Nat.le_of_ble_eq_true rfl, Nat.le_of_ble_eq_true rfl⟩ (Nat.le_of_ble_eq_true rfl) (fun a_39 w_39 h_39 ok_39 => ?_)
              obtain ⟨rfl, h_39⟩ := h_39
              refine r_aload_n 0 2 dM_dull_42 rfl rfl ?_
              refine r_iload_n 1 3 dM_dull_43 rfl rfl ?_
              refine r_iload_n 2 1 dM_dull_44 rfl rfl ?_
              refine r_cVI (cM_pleasedBy w g best (by omega) (by omega) (by omega) (by omega)) qM_pleasedBy rfl kw_691 rfl rfl dM_dull_45 (st0 := [zI best, zI g, zR 33, zI a_39]) (st := [zI a_39]) rfl ⟨Nat.le_of_ble_eq_true rfl, Nat.le_of_ble_eq_true rfl⟩ ⟨Nat.le_of_ble_eq_true rfl, Nat.le_of_ble_eq_true rfl⟩ (Nat.le_of_ble_eq_true rfl) (fun a_45 w_45 h_45 ok_45 => ?_)
              obtain ⟨rfl, h_45⟩ := h_45
              refine r_ic_le 55 dM_dull_48 (by decide) ⟨by omega, by omega⟩ ⟨by omega, by omega⟩ (fun c_48 => ?_) (fun c_48 => ?_)
              · refine r_iconst dM_dull_55 ?_
                exact J_56 0 (by omega)
              · refine r_iconst dM_dull_51 ?_
                refine r_goto 56 dM_dull_52 (by decide) ?_
                exact J_56 1 (by omega)
    exact L_15 7 (-1) (-9) 0 (by omega) (by omega) (by omega) rfl (by omega)
  · refine r_iconst dM_dull_8 ?_
    refine r_iret rfl dM_dull_9 ⟨_, rfl, ?_⟩
    exact ⟨rfl, by rw [if_pos (by omega)]⟩

set_option maxRecDepth 20000 in
set_option maxHeartbeats 4000000 in
theorem cM_reading (w : zW) (g : Int) (d : Int) (b : Int) (zg : zin g) (zd : zin d) (hb : b = 0 ∨ b = 1) : zC mM_reading 2 [zR 33, zI g, zI d, zI b] w (zrI fun a w' => a = fReading (w.1 33 6) (w.1 33 3) (w.1 33 29) g d ∧ ∀ i k, w'.1 i k = (if 0 ≤ g ∧ g < w.1 33 6 ∧ 0 ≤ d ∧ d < w.1 33 3 ∧ w.1 33 29 < 8 then (if i = 33 ∧ k = 29 then w.1 33 29 + 1 else if i = 47 ∧ k = w.1 33 29 then b else if i = 46 ∧ k = w.1 33 29 then d else if i = 45 ∧ k = w.1 33 29 then g else w.1 i k) else w.1 i k)) := by
  refine zC.of (by decide +kernel) (Nat.le_of_ble_eq_true rfl) ?_
  show zM mM_reading (zZm 2 _) 0 [(0, zR 33), (1, zI g), (2, zI d), (3, zI b)] [] w
  refine r_aload_n 0 0 dM_reading_0 rfl rfl ?_
  refine r_iload_n 1 1 dM_reading_1 rfl rfl ?_
  refine r_cVI (cM_noGuest w g (by omega)) qM_noGuest rfl kw_671 rfl rfl dM_reading_2 (st0 := [zI g, zR 33]) (st := []) rfl ⟨Nat.le_of_ble_eq_true rfl, Nat.le_of_ble_eq_true rfl⟩ ⟨Nat.le_of_ble_eq_true rfl, Nat.le_of_ble_eq_true rfl⟩ (Nat.le_of_ble_eq_true rfl) (fun a_2 w_2 h_2 ok_2 => ?_)
  obtain ⟨rfl, h_2⟩ := h_2
  refine r_if_ne 16 dM_reading_5 (by decide) ⟨by omega, by omega⟩ (fun c_5 => ?_) (fun c_5 => ?_)
  · refine r_iconst dM_reading_16 ?_
    refine r_iret rfl dM_reading_17 ⟨_, rfl, ?_⟩
    exact ⟨by unfold fReading; (repeat' split) <;> omega, fun i k => by rw [if_neg (by omega)]⟩
  · refine r_aload_n 0 0 dM_reading_8 rfl rfl ?_
    refine r_iload_n 2 2 dM_reading_9 rfl rfl ?_
    refine r_cVI (cM_noDoing w d (by omega)) qM_noDoing rfl kw_679 rfl rfl dM_reading_10 (st0 := [zI d, zR 33]) (st := []) rfl ⟨Nat.le_of_ble_eq_true rfl, Nat.le_of_ble_eq_true rfl⟩ ⟨Nat.le_of_ble_eq_true rfl, Nat.le_of_ble_eq_true rfl⟩ (Nat.le_of_ble_eq_true rfl) (fun a_10 w_10 h_10 ok_10 => ?_)
    obtain ⟨rfl, h_10⟩ := h_10
    refine r_if_eq 18 dM_reading_13 (by decide) ⟨by omega, by omega⟩ (fun c_13 => ?_) (fun c_13 => ?_)
    · refine r_aload_n 0 0 dM_reading_18 rfl rfl ?_
      refine r_getI (k := 29) fX7 rfl rfl (by decide) kw_534 rfl 29 rfl dM_reading_19 rfl (fun y_19 ey_19 ly_19 uy_19 => ?_)
      refine r_bipush dM_reading_22 (by decide) ?_
      refine r_ic_ne 30 dM_reading_24 (by decide) ⟨by omega, by omega⟩ ⟨by omega, by omega⟩ (fun c_24 => ?_) (fun c_24 => ?_)
      · refine r_aload_n 0 0 dM_reading_30 rfl rfl ?_
        refine r_getR (k := 30) (b := 45) fX7 rfl rfl rfl (by decide) kw_535 rfl dM_reading_31 ?_
        refine r_aload_n 0 0 dM_reading_34 rfl rfl ?_
        refine r_getI (k := 29) fX7 rfl rfl (by decide) kw_534 rfl 29 rfl dM_reading_35 rfl (fun y_35 ey_35 ly_35 uy_35 => ?_)
        refine r_iload_n 1 1 dM_reading_38 rfl rfl ?_
        refine r_iastore rfl (by decide) dM_reading_39 (by omega) (by omega) rfl (by omega) (by omega) (fun w_39 ew_39 => ?_)
        refine r_aload_n 0 0 dM_reading_40 rfl rfl ?_
        refine r_getR (k := 31) (b := 46) fX7 rfl rfl rfl (by decide) kw_536 rfl dM_reading_41 ?_
        refine r_aload_n 0 0 dM_reading_44 rfl rfl ?_
        refine r_getI (k := 29) fX7 rfl rfl (by decide) kw_534 rfl 29 rfl dM_reading_45 rfl (fun y_45 ey_45 ly_45 uy_45 => ?_)
        rw [ew_39, zput_i (i := 45) (i' := 33) _ _ _ _ (by decide)] at ey_45
        refine r_iload_n 2 2 dM_reading_48 rfl rfl ?_
        refine r_iastore rfl (by decide) dM_reading_49 (by omega) (by omega) rfl (by omega) (by omega) (fun w_49 ew_49 => ?_)
        refine r_aload_n 0 0 dM_reading_50 rfl rfl ?_
        refine r_getR (k := 32) (b := 47) fX7 rfl rfl rfl (by decide) kw_537 rfl dM_reading_51 ?_
        refine r_aload_n 0 0 dM_reading_54 rfl rfl ?_
        refine r_getI (k := 29) fX7 rfl rfl (by decide) kw_534 rfl 29 rfl dM_reading_55 rfl (fun y_55 ey_55 ly_55 uy_55 => ?_)
        rw [ew_49, zput_i (i := 46) (i' := 33) _ _ _ _ (by decide)] at ey_55
        rw [ew_39, zput_i (i := 45) (i' := 33) _ _ _ _ (by decide)] at ey_55
        refine r_iload_n 3 3 dM_reading_58 rfl rfl ?_
        refine r_bastore rfl (by decide) dM_reading_59 (by omega) (by omega) (by omega) rfl (by omega) (by omega) (fun w_59 ew_59 => ?_)
        refine r_aload_n 0 0 dM_reading_60 rfl rfl ?_
        refine r_dup dM_reading_61 rfl ?_
        refine r_getI (k := 29) fX7 rfl rfl (by decide) kw_534 rfl 29 rfl dM_reading_62 rfl (fun y_62 ey_62 ly_62 uy_62 => ?_)
        rw [ew_59, zput_i (i := 47) (i' := 33) _ _ _ _ (by decide)] at ey_62
        rw [ew_49, zput_i (i := 46) (i' := 33) _ _ _ _ (by decide)] at ey_62
        rw [ew_39, zput_i (i := 45) (i' := 33) _ _ _ _ (by decide)] at ey_62
        refine r_iconst dM_reading_65 ?_
        refine r_iadd dM_reading_66 ?_
        refine r_putI (k := 29) fX7 rfl rfl (by decide) kw_534 rfl rfl (by decide +kernel) 29 rfl dM_reading_67 rfl (by omega) (by omega) (fun w_67 ew_67 => ?_)
        refine r_aload_n 0 0 dM_reading_70 rfl rfl ?_
        refine r_getI (k := 29) fX7 rfl rfl (by decide) kw_534 rfl 29 rfl dM_reading_71 rfl (fun y_71 ey_71 ly_71 uy_71 => ?_)
        rw [ew_67, zput_s] at ey_71
        refine r_iconst dM_reading_74 ?_
        refine r_isub dM_reading_75 ?_
        refine r_iret rfl dM_reading_76 ⟨_, rfl, ?_⟩
        exact ⟨by unfold fReading; (repeat' split) <;> omega, fun i k => by rw [ew_67, ew_59, ew_49, ew_39, if_pos (by omega), zput_e, zput_e, zput_e, zput_e, show y_35 = w.1 33 29 from ey_35, show y_45 = w.1 33 29 from ey_45, show y_55 = w.1 33 29 from ey_55, show y_62 = w.1 33 29 from ey_62]⟩
      · refine r_bipush dM_reading_27 (by decide) ?_
        refine r_iret rfl dM_reading_29 ⟨_, rfl, ?_⟩
        exact ⟨by unfold fReading; (repeat' split) <;> omega, fun i k => by rw [if_neg (by omega)]⟩
    · refine r_iconst dM_reading_16 ?_
      refine r_iret rfl dM_reading_17 ⟨_, rfl, ?_⟩
      exact ⟨by unfold fReading; (repeat' split) <;> omega, fun i k => by rw [if_neg (by omega)]⟩

set_option maxRecDepth 20000 in
set_option maxHeartbeats 4000000 in
theorem cM_back (w : zW) (k : Int) (zk : zin k) : zC mM_back 1 [zR 33, zI k] w (zrI fun a w' => a = fBack (w.1 33 29) k ∧ (∀ i j, w'.1 i j = (if i = 33 ∧ j = 29 ∧ 0 ≤ k ∧ k ≤ w.1 33 29 then w.1 33 29 - k else w.1 i j))) := by
  refine zC.of (by decide +kernel) (Nat.le_of_ble_eq_true rfl) ?_
  show zM mM_back (zZm 1 _) 0 [(0, zR 33), (1, zI k)] [] w
  refine r_iload_n 1 1 dM_back_0 rfl rfl ?_
  refine r_i2l dM_back_1 ⟨by omega, by omega⟩ ?_
  refine r_lconst (v := 0) dM_back_2 rfl ?_
  refine r_aload_n 0 0 dM_back_3 rfl rfl ?_
  refine r_getI (k := 29) fX7 rfl rfl (by decide) kw_534 rfl 29 rfl dM_back_4 rfl (fun y_4 ey_4 ly_4 uy_4 => ?_)
  refine r_i2l dM_back_7 ⟨by omega, by omega⟩ ?_
  refine r_cSI (cM_in w k 0 y_4 (by omega) (by omega) (by omega)) qM_in rfl kw_628 dM_back_8 (st0 := [zJ y_4, zJ 0, zJ k]) (st := []) rfl ⟨Nat.le_of_ble_eq_true rfl, Nat.le_of_ble_eq_true rfl⟩ ⟨Nat.le_of_ble_eq_true rfl, Nat.le_of_ble_eq_true rfl⟩ (Nat.le_of_ble_eq_true rfl) (fun a_8 w_8 h_8 ok_8 => ?_)
  obtain ⟨rfl, h_8⟩ := h_8
  refine r_if_ne 17 dM_back_11 (by decide) ⟨by omega, by omega⟩ (fun c_11 => ?_) (fun c_11 => ?_)
  · refine r_aload_n 0 0 dM_back_17 rfl rfl ?_
    refine r_dup dM_back_18 rfl ?_
    refine r_getI (k := 29) fX7 rfl rfl (by decide) kw_534 rfl 29 rfl dM_back_19 rfl (fun y_19 ey_19 ly_19 uy_19 => ?_)
    refine r_iload_n 1 1 dM_back_22 rfl rfl ?_
    refine r_isub dM_back_23 ?_
    refine r_putI (k := 29) fX7 rfl rfl (by decide) kw_534 rfl rfl (by decide +kernel) 29 rfl dM_back_24 rfl (by omega) (by omega) (fun w_24 ew_24 => ?_)
    refine r_aload_n 0 0 dM_back_27 rfl rfl ?_
    refine r_getI (k := 29) fX7 rfl rfl (by decide) kw_534 rfl 29 rfl dM_back_28 rfl (fun y_28 ey_28 ly_28 uy_28 => ?_)
    rw [ew_24, zput_s] at ey_28
    refine r_iret rfl dM_back_31 ⟨_, rfl, ?_⟩
    exact ⟨by unfold fBack; (repeat' split) <;> omega, fun i j => by rw [ew_24, zput_e]; (repeat' split) <;> omega⟩
  · refine r_bipush dM_back_14 (by decide) ?_
    refine r_iret rfl dM_back_16 ⟨_, rfl, ?_⟩
    exact ⟨by unfold fBack; (repeat' split) <;> omega, fun i j => by rw [if_neg (by omega)]⟩

set_option maxRecDepth 20000 in
set_option maxHeartbeats 4000000 in
theorem cM_limits (w : zW) : zC mM_limits 3 [zR 33] w (zrI fun a w' => w = w' ∧ a = (if w.1 33 6 = 0 then -3 else zSet (fun v => decide (1 ≤ v) && zSoM (zput w 33 2 v)) 10)) := by
  refine zC.of (by decide +kernel) (Nat.le_of_ble_eq_true rfl) ?_
  show zM mM_limits (zZm 3 _) 0 [(0, zR 33)] [] w
  refine r_aload_n 0 0 dM_limits_0 rfl rfl ?_
  refine r_getI (k := 6) fX7 rfl rfl (by decide) kw_511 rfl 6 rfl dM_limits_1 rfl (fun y_1 ey_1 ly_1 uy_1 => ?_)
  refine r_if_ne 10 dM_limits_4 (by decide) ⟨by omega, by omega⟩ (fun c_4 => ?_) (fun c_4 => ?_)
  · refine r_aload_n 0 0 dM_limits_10 rfl rfl ?_
    refine r_getI (k := 2) fX7 rfl rfl (by decide) kw_507 rfl 2 rfl dM_limits_11 rfl (fun y_11 ey_11 ly_11 uy_11 => ?_)
    refine r_istore_n (ls' := [(1, zI y_11), (0, zR 33)]) 1 dM_limits_14 rfl (by decide) rfl ?_
    refine r_iconst dM_limits_15 ?_
    refine r_istore_n (ls' := [(2, zI 0), (1, zI y_11), (0, zR 33)]) 2 dM_limits_16 rfl (by decide) rfl ?_
    refine r_iconst dM_limits_17 ?_
    refine r_istore_n (ls' := [(3, zI 1), (2, zI 0), (1, zI y_11), (0, zR 33)]) 3 dM_limits_18 rfl (by decide) rfl ?_
    have L_19 : ∀ (n_19 : Nat) (set : Int) (v : Int) (wl : zW) (hv0 : 1 ≤ v) (hv1 : v ≤ 10) (hw : ∀ i k, ¬ (i = 33 ∧ k = 2) → wl.1 i k = w.1 i k) (hw2 : wl.2 = w.2) (hs : set = zSet (fun v => decide (1 ≤ v) && zSoM (zput w 33 2 v)) v.toNat), 10 - v < (n_19 : Int) → zM mM_limits (zZm 3 (zrI fun a w' => w = w' ∧ a = (if w.1 33 6 = 0 then -3 else zSet (fun v => decide (1 ≤ v) && zSoM (zput w 33 2 v)) 10))) 19 [(3, zI v), (2, zI set), (1, zI y_11), (0, zR 33)] [] wl := by
      intro n_19
      induction n_19 with
      | zero => intro set v wl hv0 hv1 hw hw2 hs hm_19; exfalso; omega
      | succ n_19 ih_19 =>
        intro set v wl hv0 hv1 hw hw2 hs hm_19
        refine r_iload_n 3 0 dM_limits_19 rfl rfl ?_
        refine r_bipush dM_limits_20 (by decide) ?_
        refine r_ic_ge 53 dM_limits_22 (by decide) ⟨by omega, by omega⟩ ⟨by omega, by omega⟩ (fun c_22 => ?_) (fun c_22 => ?_)
        · refine r_aload_n 0 3 dM_limits_53 rfl rfl ?_
          refine r_iload_n 1 2 dM_limits_54 rfl rfl ?_
          refine r_putI (k := 2) fX7 rfl rfl (by decide) kw_507 rfl rfl (by decide +kernel) 2 rfl dM_limits_55 rfl (by omega) (by omega) (fun w_55 ew_55 => ?_)
          refine r_iload_n 2 1 dM_limits_58 rfl rfl ?_
          refine r_iret rfl dM_limits_59 ⟨_, rfl, ?_⟩
          exact ⟨zext (fun i k => by rw [ew_55, zput_e]; split; (rename_i q; rw [q.1, q.2]; omega); exact (hw i k (by assumption)).symm) (by rw [ew_55]; exact hw2.symm), by rw [if_neg (by omega), hs, show v.toNat = 10 by omega]⟩
        · refine r_aload_n 0 3 dM_limits_25 rfl rfl ?_
          refine r_iload_n 3 0 dM_limits_26 rfl rfl ?_
          refine r_putI (k := 2) fX7 rfl rfl (by decide) kw_507 rfl rfl (by decide +kernel) 2 rfl dM_limits_27 rfl (by omega) (by omega) (fun w_27 ew_27 => ?_)
          refine r_iload_n 2 1 dM_limits_30 rfl rfl ?_
          refine r_aload_n 0 3 dM_limits_31 rfl rfl ?_
          refine r_cVI (cM_areSo w_27) qM_areSo rfl kw_766 rfl rfl dM_limits_32 (st0 := [zR 33, zI set]) (st := [zI set]) rfl ⟨Nat.le_of_ble_eq_true rfl, Nat.le_of_ble_eq_true rfl⟩ ⟨Nat.le_of_ble_eq_true rfl, Nat.le_of_ble_eq_true rfl⟩ (Nat.le_of_ble_eq_true rfl) (fun a_32 w_32 h_32 ok_32 => ?_)
          obtain ⟨rfl, h_32⟩ := h_32
          refine r_if_eq 44 dM_limits_35 (by decide) ⟨by omega, by omega⟩ (fun c_35 => ?_) (fun c_35 => ?_)
          · refine r_iconst dM_limits_44 ?_
            refine r_ior dM_limits_45 ?_
            refine r_nmI (fun x_46 ex_46 => ?_)
            refine r_istore_n (ls' := [(2, zI x_46), (3, zI v), (1, zI y_11), (0, zR 33)]) 2 dM_limits_46 rfl (by decide) rfl ?_
            refine r_iinc (ls' := [(3, zI (v + 1)), (2, zI x_46), (1, zI y_11), (0, zR 33)]) 3 1 dM_limits_47 rfl (by decide) rfl ?_
            refine r_goto 19 dM_limits_50 (by decide) ?_
            exact ih_19 x_46 (v + 1) w_27 (by omega) (by omega) (fun i k q => by rw [ew_27, zput_e, if_neg q]; exact hw i k q) (by rw [ew_27]; exact hw2) (by have e9 : w_27 = zput w 33 2 v := zext (fun i k => by rw [ew_27, zput_e, zput_e]; split; rfl; exact hw i k (by assumption)) (by rw [ew_27]; exact hw2); rw [zSet_s _ (by omega), ← e9, decide_eq_true hv0, Bool.true_and]; have e0 := zior_0 (x := set) (by rw [hs]; exact zSet_in _ _); rcases h_32 with ⟨q1, q2⟩ | ⟨q1, q2⟩; all_goals (rw [q1]; first | (exfalso; omega) | (rw [← hs]; first | (simp; omega) | (simp; done) | (simp; assumption)))) (by omega)
          · refine r_iconst dM_limits_38 ?_
            refine r_iload_n 3 0 dM_limits_39 rfl rfl ?_
            refine r_ishl dM_limits_40 ?_
            refine r_goto 45 dM_limits_41 (by decide) ?_
            refine r_ior dM_limits_45 ?_
            refine r_nmI (fun x_46 ex_46 => ?_)
            refine r_istore_n (ls' := [(2, zI x_46), (3, zI v), (1, zI y_11), (0, zR 33)]) 2 dM_limits_46 rfl (by decide) rfl ?_
            refine r_iinc (ls' := [(3, zI (v + 1)), (2, zI x_46), (1, zI y_11), (0, zR 33)]) 3 1 dM_limits_47 rfl (by decide) rfl ?_
            refine r_goto 19 dM_limits_50 (by decide) ?_
            exact ih_19 x_46 (v + 1) w_27 (by omega) (by omega) (fun i k q => by rw [ew_27, zput_e, if_neg q]; exact hw i k q) (by rw [ew_27]; exact hw2) (by have e9 : w_27 = zput w 33 2 v := zext (fun i k => by rw [ew_27, zput_e, zput_e]; split; rfl; exact hw i k (by assumption)) (by rw [ew_27]; exact hw2); rw [zSet_s _ (by omega), ← e9, decide_eq_true hv0, Bool.true_and]; have e0 := zior_0 (x := set) (by rw [hs]; exact zSet_in _ _); rcases h_32 with ⟨q1, q2⟩ | ⟨q1, q2⟩; all_goals (rw [q1]; first | (exfalso; omega) | (rw [← hs]; first | (simp; omega) | (simp; done) | (simp; assumption)))) (by omega)
    exact L_19 10 0 1 w (by omega) (by omega) (fun _ _ _ => rfl) rfl (by show (0 : Int) = zSet _ 1; simp [zSet]) (by omega)
  · refine r_bipush dM_limits_7 (by decide) ?_
    refine r_iret rfl dM_limits_9 ⟨_, rfl, ?_⟩
    exact ⟨rfl, by rw [if_pos (by omega)]⟩

set_option maxRecDepth 20000 in
set_option maxHeartbeats 4000000 in
theorem cM_kinds (w : zW) (g : Int) (zg : zin g) : zC mM_kinds 3 [zR 33, zI g] w (zrI fun a w' => w = w' ∧ a = (if g < 0 ∨ w.1 33 6 ≤ g then -1 else zSet (fun v => zSoM (zput w 36 g v)) 3)) := by
  refine zC.of (by decide +kernel) (Nat.le_of_ble_eq_true rfl) ?_
  show zM mM_kinds (zZm 3 _) 0 [(0, zR 33), (1, zI g)] [] w
  refine r_aload_n 0 0 dM_kinds_0 rfl rfl ?_
  refine r_iload_n 1 1 dM_kinds_1 rfl rfl ?_
  refine r_cVI (cM_noGuest w g (by omega)) qM_noGuest rfl kw_671 rfl rfl dM_kinds_2 (st0 := [zI g, zR 33]) (st := []) rfl ⟨Nat.le_of_ble_eq_true rfl, Nat.le_of_ble_eq_true rfl⟩ ⟨Nat.le_of_ble_eq_true rfl, Nat.le_of_ble_eq_true rfl⟩ (Nat.le_of_ble_eq_true rfl) (fun a_2 w_2 h_2 ok_2 => ?_)
  obtain ⟨rfl, h_2⟩ := h_2
  refine r_if_eq 10 dM_kinds_5 (by decide) ⟨by omega, by omega⟩ (fun c_5 => ?_) (fun c_5 => ?_)
  · refine r_aload_n 0 0 dM_kinds_10 rfl rfl ?_
    refine r_getR (k := 7) (b := 36) fX7 rfl rfl rfl (by decide) kw_512 rfl dM_kinds_11 ?_
    refine r_iload_n 1 1 dM_kinds_14 rfl rfl ?_
    refine r_iaload rfl (by decide) dM_kinds_15 (by omega) (by omega) rfl (fun y_15 ey_15 ly_15 uy_15 => ?_)
    refine r_istore_n (ls' := [(2, zI y_15), (0, zR 33), (1, zI g)]) 2 dM_kinds_16 rfl (by decide) rfl ?_
    refine r_iconst dM_kinds_17 ?_
    refine r_istore_n (ls' := [(3, zI 0), (2, zI y_15), (0, zR 33), (1, zI g)]) 3 dM_kinds_18 rfl (by decide) rfl ?_
    refine r_iconst dM_kinds_19 ?_
    refine r_istore (ls' := [(4, zI 0), (3, zI 0), (2, zI y_15), (0, zR 33), (1, zI g)]) 4 dM_kinds_20 (by decide) rfl ?_
    have L_22 : ∀ (n_22 : Nat) (set : Int) (v : Int) (wl : zW) (hv0 : 0 ≤ v) (hv1 : v ≤ 3) (hw : ∀ i k, ¬ (i = 36 ∧ k = g) → wl.1 i k = w.1 i k) (hw2 : wl.2 = w.2) (hs : set = zSet (fun v => zSoM (zput w 36 g v)) v.toNat), 3 - v < (n_22 : Int) → zM mM_kinds (zZm 3 (zrI fun a w' => w = w' ∧ a = (if g < 0 ∨ w.1 33 6 ≤ g then -1 else zSet (fun v => zSoM (zput w 36 g v)) 3))) 22 [(4, zI v), (3, zI set), (2, zI y_15), (0, zR 33), (1, zI g)] [] wl := by
      intro n_22
      induction n_22 with
      | zero => intro set v wl hv0 hv1 hw hw2 hs hm_22; exfalso; omega
      | succ n_22 ih_22 =>
        intro set v wl hv0 hv1 hw hw2 hs hm_22
        refine r_iload 4 0 dM_kinds_22 rfl ?_
        refine r_iconst dM_kinds_24 ?_
        refine r_ic_ge 60 dM_kinds_25 (by decide) ⟨by omega, by omega⟩ ⟨by omega, by omega⟩ (fun c_25 => ?_) (fun c_25 => ?_)
        · refine r_aload_n 0 3 dM_kinds_60 rfl rfl ?_
          refine r_getR (k := 7) (b := 36) fX7 rfl rfl rfl (by decide) kw_512 rfl dM_kinds_61 ?_
          refine r_iload_n 1 4 dM_kinds_64 rfl rfl ?_
          refine r_iload_n 2 2 dM_kinds_65 rfl rfl ?_
          refine r_iastore rfl (by decide) dM_kinds_66 (by omega) (by omega) rfl (by omega) (by omega) (fun w_66 ew_66 => ?_)
          refine r_iload_n 3 1 dM_kinds_67 rfl rfl ?_
          refine r_iret rfl dM_kinds_68 ⟨_, rfl, ?_⟩
          exact ⟨zext (fun i k => by rw [ew_66, zput_e]; split; (rename_i q; rw [q.1, q.2]; omega); exact (hw i k (by assumption)).symm) (by rw [ew_66]; exact hw2.symm), by rw [if_neg (by omega), hs, show v.toNat = 3 by omega]⟩
        · refine r_aload_n 0 3 dM_kinds_28 rfl rfl ?_
          refine r_getR (k := 7) (b := 36) fX7 rfl rfl rfl (by decide) kw_512 rfl dM_kinds_29 ?_
          refine r_iload_n 1 4 dM_kinds_32 rfl rfl ?_
          refine r_iload 4 0 dM_kinds_33 rfl ?_
          refine r_iastore rfl (by decide) dM_kinds_35 (by omega) (by omega) rfl (by omega) (by omega) (fun w_35 ew_35 => ?_)
          refine r_iload_n 3 1 dM_kinds_36 rfl rfl ?_
          refine r_aload_n 0 3 dM_kinds_37 rfl rfl ?_
          refine r_cVI (cM_areSo w_35) qM_areSo rfl kw_766 rfl rfl dM_kinds_38 (st0 := [zR 33, zI set]) (st := [zI set]) rfl ⟨Nat.le_of_ble_eq_true rfl, Nat.le_of_ble_eq_true rfl⟩ ⟨Nat.le_of_ble_eq_true rfl, Nat.le_of_ble_eq_true rfl⟩ (Nat.le_of_ble_eq_true rfl) (fun a_38 w_38 h_38 ok_38 => ?_)
          obtain ⟨rfl, h_38⟩ := h_38
          refine r_if_eq 51 dM_kinds_41 (by decide) ⟨by omega, by omega⟩ (fun c_41 => ?_) (fun c_41 => ?_)
          · refine r_iconst dM_kinds_51 ?_
            refine r_ior dM_kinds_52 ?_
            refine r_nmI (fun x_53 ex_53 => ?_)
            refine r_istore_n (ls' := [(3, zI x_53), (4, zI v), (2, zI y_15), (0, zR 33), (1, zI g)]) 3 dM_kinds_53 rfl (by decide) rfl ?_
            refine r_iinc (ls' := [(4, zI (v + 1)), (3, zI x_53), (2, zI y_15), (0, zR 33), (1, zI g)]) 4 1 dM_kinds_54 rfl (by decide) rfl ?_
            refine r_goto 22 dM_kinds_57 (by decide) ?_
            exact ih_22 x_53 (v + 1) w_35 (by omega) (by omega) (fun i k q => by rw [ew_35, zput_e, if_neg q]; exact hw i k q) (by rw [ew_35]; exact hw2) (by have e9 : w_35 = zput w 36 g v := zext (fun i k => by rw [ew_35, zput_e, zput_e]; split; rfl; exact hw i k (by assumption)) (by rw [ew_35]; exact hw2); rw [zSet_s _ (by omega), ← e9]; have e0 := zior_0 (x := set) (by rw [hs]; exact zSet_in _ _); rcases h_38 with ⟨q1, q2⟩ | ⟨q1, q2⟩; all_goals (rw [q1]; first | (exfalso; omega) | (rw [← hs]; first | (simp; omega) | (simp; done) | (simp; assumption)))) (by omega)
          · refine r_iconst dM_kinds_44 ?_
            refine r_iload 4 0 dM_kinds_45 rfl ?_
            refine r_ishl dM_kinds_47 ?_
            refine r_goto 52 dM_kinds_48 (by decide) ?_
            refine r_ior dM_kinds_52 ?_
            refine r_nmI (fun x_53 ex_53 => ?_)
            refine r_istore_n (ls' := [(3, zI x_53), (4, zI v), (2, zI y_15), (0, zR 33), (1, zI g)]) 3 dM_kinds_53 rfl (by decide) rfl ?_
            refine r_iinc (ls' := [(4, zI (v + 1)), (3, zI x_53), (2, zI y_15), (0, zR 33), (1, zI g)]) 4 1 dM_kinds_54 rfl (by decide) rfl ?_
            refine r_goto 22 dM_kinds_57 (by decide) ?_
            exact ih_22 x_53 (v + 1) w_35 (by omega) (by omega) (fun i k q => by rw [ew_35, zput_e, if_neg q]; exact hw i k q) (by rw [ew_35]; exact hw2) (by have e9 : w_35 = zput w 36 g v := zext (fun i k => by rw [ew_35, zput_e, zput_e]; split; rfl; exact hw i k (by assumption)) (by rw [ew_35]; exact hw2); rw [zSet_s _ (by omega), ← e9]; have e0 := zior_0 (x := set) (by rw [hs]; exact zSet_in _ _); rcases h_38 with ⟨q1, q2⟩ | ⟨q1, q2⟩; all_goals (rw [q1]; first | (exfalso; omega) | (rw [← hs]; first | (simp; omega) | (simp; done) | (simp; assumption)))) (by omega)
    exact L_22 11 0 0 w (by omega) (by omega) (fun _ _ _ => rfl) rfl rfl (by omega)
  · refine r_iconst dM_kinds_8 ?_
    refine r_iret rfl dM_kinds_9 ⟨_, rfl, ?_⟩
    exact ⟨rfl, by rw [if_pos (by omega)]⟩

set_option maxRecDepth 20000 in
set_option maxHeartbeats 4000000 in
theorem cM_tastes (w : zW) (g : Int) (zg : zin g) : zC mM_tastes 3 [zR 33, zI g] w (zrI fun a w' => w = w' ∧ a = (if g < 0 ∨ w.1 33 6 ≤ g then -1 else zSet (fun v => zSoM (zput w 37 g v)) 10)) := by
  refine zC.of (by decide +kernel) (Nat.le_of_ble_eq_true rfl) ?_
  show zM mM_tastes (zZm 3 _) 0 [(0, zR 33), (1, zI g)] [] w
  refine r_aload_n 0 0 dM_tastes_0 rfl rfl ?_
  refine r_iload_n 1 1 dM_tastes_1 rfl rfl ?_
  refine r_cVI (cM_noGuest w g (by omega)) qM_noGuest rfl kw_671 rfl rfl dM_tastes_2 (st0 := [zI g, zR 33]) (st := []) rfl ⟨Nat.le_of_ble_eq_true rfl, Nat.le_of_ble_eq_true rfl⟩ ⟨Nat.le_of_ble_eq_true rfl, Nat.le_of_ble_eq_true rfl⟩ (Nat.le_of_ble_eq_true rfl) (fun a_2 w_2 h_2 ok_2 => ?_)
  obtain ⟨rfl, h_2⟩ := h_2
  refine r_if_eq 10 dM_tastes_5 (by decide) ⟨by omega, by omega⟩ (fun c_5 => ?_) (fun c_5 => ?_)
  · refine r_aload_n 0 0 dM_tastes_10 rfl rfl ?_
    refine r_getR (k := 8) (b := 37) fX7 rfl rfl rfl (by decide) kw_513 rfl dM_tastes_11 ?_
    refine r_iload_n 1 1 dM_tastes_14 rfl rfl ?_
    refine r_iaload rfl (by decide) dM_tastes_15 (by omega) (by omega) rfl (fun y_15 ey_15 ly_15 uy_15 => ?_)
    refine r_istore_n (ls' := [(2, zI y_15), (0, zR 33), (1, zI g)]) 2 dM_tastes_16 rfl (by decide) rfl ?_
    refine r_iconst dM_tastes_17 ?_
    refine r_istore_n (ls' := [(3, zI 0), (2, zI y_15), (0, zR 33), (1, zI g)]) 3 dM_tastes_18 rfl (by decide) rfl ?_
    refine r_iconst dM_tastes_19 ?_
    refine r_istore (ls' := [(4, zI 0), (3, zI 0), (2, zI y_15), (0, zR 33), (1, zI g)]) 4 dM_tastes_20 (by decide) rfl ?_
    have L_22 : ∀ (n_22 : Nat) (set : Int) (v : Int) (wl : zW) (hv0 : 0 ≤ v) (hv1 : v ≤ 10) (hw : ∀ i k, ¬ (i = 37 ∧ k = g) → wl.1 i k = w.1 i k) (hw2 : wl.2 = w.2) (hs : set = zSet (fun v => zSoM (zput w 37 g v)) v.toNat), 10 - v < (n_22 : Int) → zM mM_tastes (zZm 3 (zrI fun a w' => w = w' ∧ a = (if g < 0 ∨ w.1 33 6 ≤ g then -1 else zSet (fun v => zSoM (zput w 37 g v)) 10))) 22 [(4, zI v), (3, zI set), (2, zI y_15), (0, zR 33), (1, zI g)] [] wl := by
      intro n_22
      induction n_22 with
      | zero => intro set v wl hv0 hv1 hw hw2 hs hm_22; exfalso; omega
      | succ n_22 ih_22 =>
        intro set v wl hv0 hv1 hw hw2 hs hm_22
        refine r_iload 4 0 dM_tastes_22 rfl ?_
        refine r_bipush dM_tastes_24 (by decide) ?_
        refine r_ic_ge 61 dM_tastes_26 (by decide) ⟨by omega, by omega⟩ ⟨by omega, by omega⟩ (fun c_26 => ?_) (fun c_26 => ?_)
        · refine r_aload_n 0 3 dM_tastes_61 rfl rfl ?_
          refine r_getR (k := 8) (b := 37) fX7 rfl rfl rfl (by decide) kw_513 rfl dM_tastes_62 ?_
          refine r_iload_n 1 4 dM_tastes_65 rfl rfl ?_
          refine r_iload_n 2 2 dM_tastes_66 rfl rfl ?_
          refine r_iastore rfl (by decide) dM_tastes_67 (by omega) (by omega) rfl (by omega) (by omega) (fun w_67 ew_67 => ?_)
          refine r_iload_n 3 1 dM_tastes_68 rfl rfl ?_
          refine r_iret rfl dM_tastes_69 ⟨_, rfl, ?_⟩
          exact ⟨zext (fun i k => by rw [ew_67, zput_e]; split; (rename_i q; rw [q.1, q.2]; omega); exact (hw i k (by assumption)).symm) (by rw [ew_67]; exact hw2.symm), by rw [if_neg (by omega), hs, show v.toNat = 10 by omega]⟩
        · refine r_aload_n 0 3 dM_tastes_29 rfl rfl ?_
          refine r_getR (k := 8) (b := 37) fX7 rfl rfl rfl (by decide) kw_513 rfl dM_tastes_30 ?_
          refine r_iload_n 1 4 dM_tastes_33 rfl rfl ?_
          refine r_iload 4 0 dM_tastes_34 rfl ?_
          refine r_iastore rfl (by decide) dM_tastes_36 (by omega) (by omega) rfl (by omega) (by omega) (fun w_36 ew_36 => ?_)
          refine r_iload_n 3 1 dM_tastes_37 rfl rfl ?_
          refine r_aload_n 0 3 dM_tastes_38 rfl rfl ?_
          refine r_cVI (cM_areSo w_36) qM_areSo rfl kw_766 rfl rfl dM_tastes_39 (st0 := [zR 33, zI set]) (st := [zI set]) rfl ⟨Nat.le_of_ble_eq_true rfl, Nat.le_of_ble_eq_true rfl⟩ ⟨Nat.le_of_ble_eq_true rfl, Nat.le_of_ble_eq_true rfl⟩ (Nat.le_of_ble_eq_true rfl) (fun a_39 w_39 h_39 ok_39 => ?_)
          obtain ⟨rfl, h_39⟩ := h_39
          refine r_if_eq 52 dM_tastes_42 (by decide) ⟨by omega, by omega⟩ (fun c_42 => ?_) (fun c_42 => ?_)
          · refine r_iconst dM_tastes_52 ?_
            refine r_ior dM_tastes_53 ?_
            refine r_nmI (fun x_54 ex_54 => ?_)
            refine r_istore_n (ls' := [(3, zI x_54), (4, zI v), (2, zI y_15), (0, zR 33), (1, zI g)]) 3 dM_tastes_54 rfl (by decide) rfl ?_
            refine r_iinc (ls' := [(4, zI (v + 1)), (3, zI x_54), (2, zI y_15), (0, zR 33), (1, zI g)]) 4 1 dM_tastes_55 rfl (by decide) rfl ?_
            refine r_goto 22 dM_tastes_58 (by decide) ?_
            exact ih_22 x_54 (v + 1) w_36 (by omega) (by omega) (fun i k q => by rw [ew_36, zput_e, if_neg q]; exact hw i k q) (by rw [ew_36]; exact hw2) (by have e9 : w_36 = zput w 37 g v := zext (fun i k => by rw [ew_36, zput_e, zput_e]; split; rfl; exact hw i k (by assumption)) (by rw [ew_36]; exact hw2); rw [zSet_s _ (by omega), ← e9]; have e0 := zior_0 (x := set) (by rw [hs]; exact zSet_in _ _); rcases h_39 with ⟨q1, q2⟩ | ⟨q1, q2⟩; all_goals (rw [q1]; first | (exfalso; omega) | (rw [← hs]; first | (simp; omega) | (simp; done) | (simp; assumption)))) (by omega)
          · refine r_iconst dM_tastes_45 ?_
            refine r_iload 4 0 dM_tastes_46 rfl ?_
            refine r_ishl dM_tastes_48 ?_
            refine r_goto 53 dM_tastes_49 (by decide) ?_
            refine r_ior dM_tastes_53 ?_
            refine r_nmI (fun x_54 ex_54 => ?_)
            refine r_istore_n (ls' := [(3, zI x_54), (4, zI v), (2, zI y_15), (0, zR 33), (1, zI g)]) 3 dM_tastes_54 rfl (by decide) rfl ?_
            refine r_iinc (ls' := [(4, zI (v + 1)), (3, zI x_54), (2, zI y_15), (0, zR 33), (1, zI g)]) 4 1 dM_tastes_55 rfl (by decide) rfl ?_
            refine r_goto 22 dM_tastes_58 (by decide) ?_
            exact ih_22 x_54 (v + 1) w_36 (by omega) (by omega) (fun i k q => by rw [ew_36, zput_e, if_neg q]; exact hw i k q) (by rw [ew_36]; exact hw2) (by have e9 : w_36 = zput w 37 g v := zext (fun i k => by rw [ew_36, zput_e, zput_e]; split; rfl; exact hw i k (by assumption)) (by rw [ew_36]; exact hw2); rw [zSet_s _ (by omega), ← e9]; have e0 := zior_0 (x := set) (by rw [hs]; exact zSet_in _ _); rcases h_39 with ⟨q1, q2⟩ | ⟨q1, q2⟩; all_goals (rw [q1]; first | (exfalso; omega) | (rw [← hs]; first | (simp; omega) | (simp; done) | (simp; assumption)))) (by omega)
    exact L_22 11 0 0 w (by omega) (by omega) (fun _ _ _ => rfl) rfl rfl (by omega)
  · refine r_iconst dM_tastes_8 ?_
    refine r_iret rfl dM_tastes_9 ⟨_, rfl, ?_⟩
    exact ⟨rfl, by rw [if_pos (by omega)]⟩

set_option maxRecDepth 20000 in
set_option maxHeartbeats 4000000 in
theorem cM_charms (w : zW) (d : Int) (zd : zin d) : zC mM_charms 3 [zR 33, zI d] w (zrI fun a w' => w = w' ∧ a = (if d < 0 ∨ w.1 33 3 ≤ d then -1 else zSet (fun v => zSoM (zput w 34 d v)) 10)) := by
  refine zC.of (by decide +kernel) (Nat.le_of_ble_eq_true rfl) ?_
  show zM mM_charms (zZm 3 _) 0 [(0, zR 33), (1, zI d)] [] w
  refine r_aload_n 0 0 dM_charms_0 rfl rfl ?_
  refine r_iload_n 1 1 dM_charms_1 rfl rfl ?_
  refine r_cVI (cM_noDoing w d (by omega)) qM_noDoing rfl kw_679 rfl rfl dM_charms_2 (st0 := [zI d, zR 33]) (st := []) rfl ⟨Nat.le_of_ble_eq_true rfl, Nat.le_of_ble_eq_true rfl⟩ ⟨Nat.le_of_ble_eq_true rfl, Nat.le_of_ble_eq_true rfl⟩ (Nat.le_of_ble_eq_true rfl) (fun a_2 w_2 h_2 ok_2 => ?_)
  obtain ⟨rfl, h_2⟩ := h_2
  refine r_if_eq 10 dM_charms_5 (by decide) ⟨by omega, by omega⟩ (fun c_5 => ?_) (fun c_5 => ?_)
  · refine r_aload_n 0 0 dM_charms_10 rfl rfl ?_
    refine r_getR (k := 4) (b := 34) fX7 rfl rfl rfl (by decide) kw_509 rfl dM_charms_11 ?_
    refine r_iload_n 1 1 dM_charms_14 rfl rfl ?_
    refine r_iaload rfl (by decide) dM_charms_15 (by omega) (by omega) rfl (fun y_15 ey_15 ly_15 uy_15 => ?_)
    refine r_istore_n (ls' := [(2, zI y_15), (0, zR 33), (1, zI d)]) 2 dM_charms_16 rfl (by decide) rfl ?_
    refine r_iconst dM_charms_17 ?_
    refine r_istore_n (ls' := [(3, zI 0), (2, zI y_15), (0, zR 33), (1, zI d)]) 3 dM_charms_18 rfl (by decide) rfl ?_
    refine r_iconst dM_charms_19 ?_
    refine r_istore (ls' := [(4, zI 0), (3, zI 0), (2, zI y_15), (0, zR 33), (1, zI d)]) 4 dM_charms_20 (by decide) rfl ?_
    have L_22 : ∀ (n_22 : Nat) (set : Int) (v : Int) (wl : zW) (hv0 : 0 ≤ v) (hv1 : v ≤ 10) (hw : ∀ i k, ¬ (i = 34 ∧ k = d) → wl.1 i k = w.1 i k) (hw2 : wl.2 = w.2) (hs : set = zSet (fun v => zSoM (zput w 34 d v)) v.toNat), 10 - v < (n_22 : Int) → zM mM_charms (zZm 3 (zrI fun a w' => w = w' ∧ a = (if d < 0 ∨ w.1 33 3 ≤ d then -1 else zSet (fun v => zSoM (zput w 34 d v)) 10))) 22 [(4, zI v), (3, zI set), (2, zI y_15), (0, zR 33), (1, zI d)] [] wl := by
      intro n_22
      induction n_22 with
      | zero => intro set v wl hv0 hv1 hw hw2 hs hm_22; exfalso; omega
      | succ n_22 ih_22 =>
        intro set v wl hv0 hv1 hw hw2 hs hm_22
        refine r_iload 4 0 dM_charms_22 rfl ?_
        refine r_bipush dM_charms_24 (by decide) ?_
        refine r_ic_ge 61 dM_charms_26 (by decide) ⟨by omega, by omega⟩ ⟨by omega, by omega⟩ (fun c_26 => ?_) (fun c_26 => ?_)
        · refine r_aload_n 0 3 dM_charms_61 rfl rfl ?_
          refine r_getR (k := 4) (b := 34) fX7 rfl rfl rfl (by decide) kw_509 rfl dM_charms_62 ?_
          refine r_iload_n 1 4 dM_charms_65 rfl rfl ?_
          refine r_iload_n 2 2 dM_charms_66 rfl rfl ?_
          refine r_iastore rfl (by decide) dM_charms_67 (by omega) (by omega) rfl (by omega) (by omega) (fun w_67 ew_67 => ?_)
          refine r_iload_n 3 1 dM_charms_68 rfl rfl ?_
          refine r_iret rfl dM_charms_69 ⟨_, rfl, ?_⟩
          exact ⟨zext (fun i k => by rw [ew_67, zput_e]; split; (rename_i q; rw [q.1, q.2]; omega); exact (hw i k (by assumption)).symm) (by rw [ew_67]; exact hw2.symm), by rw [if_neg (by omega), hs, show v.toNat = 10 by omega]⟩
        · refine r_aload_n 0 3 dM_charms_29 rfl rfl ?_
          refine r_getR (k := 4) (b := 34) fX7 rfl rfl rfl (by decide) kw_509 rfl dM_charms_30 ?_
          refine r_iload_n 1 4 dM_charms_33 rfl rfl ?_
          refine r_iload 4 0 dM_charms_34 rfl ?_
          refine r_iastore rfl (by decide) dM_charms_36 (by omega) (by omega) rfl (by omega) (by omega) (fun w_36 ew_36 => ?_)
          refine r_iload_n 3 1 dM_charms_37 rfl rfl ?_
          refine r_aload_n 0 3 dM_charms_38 rfl rfl ?_
          refine r_cVI (cM_areSo w_36) qM_areSo rfl kw_766 rfl rfl dM_charms_39 (st0 := [zR 33, zI set]) (st := [zI set]) rfl ⟨Nat.le_of_ble_eq_true rfl, Nat.le_of_ble_eq_true rfl⟩ ⟨Nat.le_of_ble_eq_true rfl, Nat.le_of_ble_eq_true rfl⟩ (Nat.le_of_ble_eq_true rfl) (fun a_39 w_39 h_39 ok_39 => ?_)
          obtain ⟨rfl, h_39⟩ := h_39
          refine r_if_eq 52 dM_charms_42 (by decide) ⟨by omega, by omega⟩ (fun c_42 => ?_) (fun c_42 => ?_)
          · refine r_iconst dM_charms_52 ?_
            refine r_ior dM_charms_53 ?_
            refine r_nmI (fun x_54 ex_54 => ?_)
            refine r_istore_n (ls' := [(3, zI x_54), (4, zI v), (2, zI y_15), (0, zR 33), (1, zI d)]) 3 dM_charms_54 rfl (by decide) rfl ?_
            refine r_iinc (ls' := [(4, zI (v + 1)), (3, zI x_54), (2, zI y_15), (0, zR 33), (1, zI d)]) 4 1 dM_charms_55 rfl (by decide) rfl ?_
            refine r_goto 22 dM_charms_58 (by decide) ?_
            exact ih_22 x_54 (v + 1) w_36 (by omega) (by omega) (fun i k q => by rw [ew_36, zput_e, if_neg q]; exact hw i k q) (by rw [ew_36]; exact hw2) (by have e9 : w_36 = zput w 34 d v := zext (fun i k => by rw [ew_36, zput_e, zput_e]; split; rfl; exact hw i k (by assumption)) (by rw [ew_36]; exact hw2); rw [zSet_s _ (by omega), ← e9]; have e0 := zior_0 (x := set) (by rw [hs]; exact zSet_in _ _); rcases h_39 with ⟨q1, q2⟩ | ⟨q1, q2⟩; all_goals (rw [q1]; first | (exfalso; omega) | (rw [← hs]; first | (simp; omega) | (simp; done) | (simp; assumption)))) (by omega)
          · refine r_iconst dM_charms_45 ?_
            refine r_iload 4 0 dM_charms_46 rfl ?_
            refine r_ishl dM_charms_48 ?_
            refine r_goto 53 dM_charms_49 (by decide) ?_
            refine r_ior dM_charms_53 ?_
            refine r_nmI (fun x_54 ex_54 => ?_)
            refine r_istore_n (ls' := [(3, zI x_54), (4, zI v), (2, zI y_15), (0, zR 33), (1, zI d)]) 3 dM_charms_54 rfl (by decide) rfl ?_
            refine r_iinc (ls' := [(4, zI (v + 1)), (3, zI x_54), (2, zI y_15), (0, zR 33), (1, zI d)]) 4 1 dM_charms_55 rfl (by decide) rfl ?_
            refine r_goto 22 dM_charms_58 (by decide) ?_
            exact ih_22 x_54 (v + 1) w_36 (by omega) (by omega) (fun i k q => by rw [ew_36, zput_e, if_neg q]; exact hw i k q) (by rw [ew_36]; exact hw2) (by have e9 : w_36 = zput w 34 d v := zext (fun i k => by rw [ew_36, zput_e, zput_e]; split; rfl; exact hw i k (by assumption)) (by rw [ew_36]; exact hw2); rw [zSet_s _ (by omega), ← e9]; have e0 := zior_0 (x := set) (by rw [hs]; exact zSet_in _ _); rcases h_39 with ⟨q1, q2⟩ | ⟨q1, q2⟩; all_goals (rw [q1]; first | (exfalso; omega) | (rw [← hs]; first | (simp; omega) | (simp; done) | (simp; assumption)))) (by omega)
    exact L_22 11 0 0 w (by omega) (by omega) (fun _ _ _ => rfl) rfl rfl (by omega)
  · refine r_iconst dM_charms_8 ?_
    refine r_iret rfl dM_charms_9 ⟨_, rfl, ?_⟩
    exact ⟨rfl, by rw [if_pos (by omega)]⟩

set_option maxRecDepth 20000 in
set_option maxHeartbeats 4000000 in
theorem cM_tell (w : zW) (g : Int) (zg : zin g) : zC mM_tell 2 [zR 33, zI g] w (zrI fun a w' => a = fTell (w.1 33 6) (w.1 36 g) (w.1 37 g) g ∧ (∀ i k, w'.1 i k = (if i = 33 ∧ k = 37 then fTellT (w.1 33 6) (w.1 36 g) (w.1 33 37) g else w.1 i k))) := by
  refine zC.of (by decide +kernel) (Nat.le_of_ble_eq_true rfl) ?_
  show zM mM_tell (zZm 2 _) 0 [(0, zR 33), (1, zI g)] [] w
  refine r_aload_n 0 0 dM_tell_0 rfl rfl ?_
  refine r_iload_n 1 1 dM_tell_1 rfl rfl ?_
  refine r_cVI (cM_noGuest w g (by omega)) qM_noGuest rfl kw_671 rfl rfl dM_tell_2 (st0 := [zI g, zR 33]) (st := []) rfl ⟨Nat.le_of_ble_eq_true rfl, Nat.le_of_ble_eq_true rfl⟩ ⟨Nat.le_of_ble_eq_true rfl, Nat.le_of_ble_eq_true rfl⟩ (Nat.le_of_ble_eq_true rfl) (fun a_2 w_2 h_2 ok_2 => ?_)
  obtain ⟨rfl, h_2⟩ := h_2
  refine r_if_eq 10 dM_tell_5 (by decide) ⟨by omega, by omega⟩ (fun c_5 => ?_) (fun c_5 => ?_)
  · refine r_aload_n 0 0 dM_tell_10 rfl rfl ?_
    refine r_getR (k := 7) (b := 36) fX7 rfl rfl rfl (by decide) kw_512 rfl dM_tell_11 ?_
    refine r_iload_n 1 1 dM_tell_14 rfl rfl ?_
    refine r_iaload rfl (by decide) dM_tell_15 (by omega) (by omega) rfl (fun y_15 ey_15 ly_15 uy_15 => ?_)
    refine r_istore_n (ls' := [(2, zI y_15), (0, zR 33), (1, zI g)]) 2 dM_tell_16 rfl (by decide) rfl ?_
    refine r_iload_n 2 0 dM_tell_17 rfl rfl ?_
    refine r_iconst dM_tell_18 ?_
    refine r_ic_ne 27 dM_tell_19 (by decide) ⟨by omega, by omega⟩ ⟨by omega, by omega⟩ (fun c_19 => ?_) (fun c_19 => ?_)
    · refine r_iload_n 2 0 dM_tell_27 rfl rfl ?_
      refine r_if_le 36 dM_tell_28 (by decide) ⟨by omega, by omega⟩ (fun c_28 => ?_) (fun c_28 => ?_)
      · refine r_aload_n 0 1 dM_tell_36 rfl rfl ?_
        refine r_iconst dM_tell_37 ?_
        refine r_cVV (cM_traced w 1) qM_traced rfl kw_829 rfl rfl dM_tell_38 (st0 := [zI 1, zR 33]) (st := []) rfl ⟨Nat.le_of_ble_eq_true rfl, Nat.le_of_ble_eq_true rfl⟩ ⟨Nat.le_of_ble_eq_true rfl, Nat.le_of_ble_eq_true rfl⟩ (Nat.le_of_ble_eq_true rfl) (fun w_38 h_38 ok_38 => ?_)
        refine r_iload_n 2 0 dM_tell_41 rfl rfl ?_
        refine r_iconst dM_tell_42 ?_
        refine r_ic_ne 51 dM_tell_43 (by decide) ⟨by omega, by omega⟩ ⟨by omega, by omega⟩ (fun c_43 => ?_) (fun c_43 => ?_)
        · refine r_aload_n 0 1 dM_tell_51 rfl rfl ?_
          refine r_getR (k := 8) (b := 37) fX7 rfl rfl rfl (by decide) kw_513 rfl dM_tell_52 ?_
          refine r_iload_n 1 2 dM_tell_55 rfl rfl ?_
          refine r_iaload rfl (by decide) dM_tell_56 (by omega) (by omega) rfl (fun y_56 ey_56 ly_56 uy_56 => ?_)
          have e56 : y_56 = w.1 37 g := (by rw [ey_56, h_38]; first | (rw [h_33, h_24, zput_i _ _ _ _ (by decide), zput_i _ _ _ _ (by decide), zput_i _ _ _ _ (by decide)]; done) | (rw [h_33, zput_i _ _ _ _ (by decide), zput_i _ _ _ _ (by decide)]; done) | (rw [zput_i _ _ _ _ (by decide)]; done) | (exfalso; omega))
          refine r_istore_n (ls' := [(3, zI y_56), (2, zI y_15), (0, zR 33), (1, zI g)]) 3 dM_tell_57 rfl (by decide) rfl ?_
          refine r_iload_n 2 1 dM_tell_58 rfl rfl ?_
          refine r_if_ne 66 dM_tell_59 (by decide) ⟨by omega, by omega⟩ (fun c_59 => ?_) (fun c_59 => ?_)
          · refine r_iload_n 2 1 dM_tell_66 rfl rfl ?_
            refine r_iconst dM_tell_67 ?_
            refine r_ic_ne 78 dM_tell_68 (by decide) ⟨by omega, by omega⟩ ⟨by omega, by omega⟩ (fun c_68 => ?_) (fun c_68 => ?_)
            · refine r_iconst dM_tell_78 ?_
              refine r_iload_n 3 0 dM_tell_79 rfl rfl ?_
              refine r_imul dM_tell_80 ?_
              refine r_bipush dM_tell_81 (by decide) ?_
              refine r_iadd dM_tell_83 ?_
              refine r_iret rfl dM_tell_84 ⟨_, rfl, ?_⟩
              first | (exfalso; omega) | (have e8 : fTellT (w.1 33 6) (w.1 36 g) (w.1 33 37) g = zTr (w.1 33 37) 1 := (by unfold fTellT; rw [if_neg (by omega), if_neg (by omega), if_neg (by omega)]); exact ⟨by unfold fTell; (repeat' split) <;> omega, fun i k => by rw [h_38, e8, zput_e]⟩) | (have e8 : fTellT (w.1 33 6) (w.1 36 g) (w.1 33 37) g = zTr (zTr (w.1 33 37) 2) 1 := (by unfold fTellT; rw [if_neg (by omega), if_neg (by omega), if_pos (by omega)]); exact ⟨by unfold fTell; (repeat' split) <;> omega, fun i k => by rw [h_38, h_33, zput_s, e8, zput_e, zput_e]; (repeat' split) <;> rfl⟩)
            · refine r_iload_n 3 0 dM_tell_71 rfl rfl ?_
              refine r_bipush dM_tell_72 (by decide) ?_
              refine r_iadd dM_tell_74 ?_
              refine r_goto 84 dM_tell_75 (by decide) ?_
              refine r_iret rfl dM_tell_84 ⟨_, rfl, ?_⟩
              first | (exfalso; omega) | (have e8 : fTellT (w.1 33 6) (w.1 36 g) (w.1 33 37) g = zTr (w.1 33 37) 1 := (by unfold fTellT; rw [if_neg (by omega), if_neg (by omega), if_neg (by omega)]); exact ⟨by unfold fTell; (repeat' split) <;> omega, fun i k => by rw [h_38, e8, zput_e]⟩) | (have e8 : fTellT (w.1 33 6) (w.1 36 g) (w.1 33 37) g = zTr (zTr (w.1 33 37) 2) 1 := (by unfold fTellT; rw [if_neg (by omega), if_neg (by omega), if_pos (by omega)]); exact ⟨by unfold fTell; (repeat' split) <;> omega, fun i k => by rw [h_38, h_33, zput_s, e8, zput_e, zput_e]; (repeat' split) <;> rfl⟩)
          · refine r_iload_n 3 0 dM_tell_62 rfl rfl ?_
            refine r_goto 84 dM_tell_63 (by decide) ?_
            refine r_iret rfl dM_tell_84 ⟨_, rfl, ?_⟩
            first | (exfalso; omega) | (have e8 : fTellT (w.1 33 6) (w.1 36 g) (w.1 33 37) g = zTr (w.1 33 37) 1 := (by unfold fTellT; rw [if_neg (by omega), if_neg (by omega), if_neg (by omega)]); exact ⟨by unfold fTell; (repeat' split) <;> omega, fun i k => by rw [h_38, e8, zput_e]⟩) | (have e8 : fTellT (w.1 33 6) (w.1 36 g) (w.1 33 37) g = zTr (zTr (w.1 33 37) 2) 1 := (by unfold fTellT; rw [if_neg (by omega), if_neg (by omega), if_pos (by omega)]); exact ⟨by unfold fTell; (repeat' split) <;> omega, fun i k => by rw [h_38, h_33, zput_s, e8, zput_e, zput_e]; (repeat' split) <;> rfl⟩)
        · refine r_aload_n 0 1 dM_tell_46 rfl rfl ?_
          refine r_iconst dM_tell_47 ?_
          refine r_cVV (cM_traced w_38 1) qM_traced rfl kw_829 rfl rfl dM_tell_48 (st0 := [zI 1, zR 33]) (st := []) rfl ⟨Nat.le_of_ble_eq_true rfl, Nat.le_of_ble_eq_true rfl⟩ ⟨Nat.le_of_ble_eq_true rfl, Nat.le_of_ble_eq_true rfl⟩ (Nat.le_of_ble_eq_true rfl) (fun w_48 h_48 ok_48 => ?_)
          refine r_aload_n 0 1 dM_tell_51 rfl rfl ?_
          refine r_getR (k := 8) (b := 37) fX7 rfl rfl rfl (by decide) kw_513 rfl dM_tell_52 ?_
          refine r_iload_n 1 2 dM_tell_55 rfl rfl ?_
          refine r_iaload rfl (by decide) dM_tell_56 (by omega) (by omega) rfl (fun y_56 ey_56 ly_56 uy_56 => ?_)
          have e56 : y_56 = w.1 37 g := (by first | (rw [ey_56, h_48, zput_i _ _ _ _ (by decide), h_38, zput_i _ _ _ _ (by decide)]; done) | (rw [ey_56, h_48, zput_i _ _ _ _ (by decide), h_38, zput_i _ _ _ _ (by decide), h_33, zput_i _ _ _ _ (by decide)]; done) | (rw [ey_56, h_48, zput_i _ _ _ _ (by decide), h_38, zput_i _ _ _ _ (by decide), h_33, zput_i _ _ _ _ (by decide), h_24, zput_i _ _ _ _ (by decide)]; done) | (exfalso; omega))
          refine r_istore_n (ls' := [(3, zI y_56), (2, zI y_15), (0, zR 33), (1, zI g)]) 3 dM_tell_57 rfl (by decide) rfl ?_
          refine r_iload_n 2 1 dM_tell_58 rfl rfl ?_
          refine r_if_ne 66 dM_tell_59 (by decide) ⟨by omega, by omega⟩ (fun c_59 => ?_) (fun c_59 => ?_)
          · refine r_iload_n 2 1 dM_tell_66 rfl rfl ?_
            refine r_iconst dM_tell_67 ?_
            refine r_ic_ne 78 dM_tell_68 (by decide) ⟨by omega, by omega⟩ ⟨by omega, by omega⟩ (fun c_68 => ?_) (fun c_68 => ?_)
            · refine r_iconst dM_tell_78 ?_
              refine r_iload_n 3 0 dM_tell_79 rfl rfl ?_
              refine r_imul dM_tell_80 ?_
              refine r_bipush dM_tell_81 (by decide) ?_
              refine r_iadd dM_tell_83 ?_
              refine r_iret rfl dM_tell_84 ⟨_, rfl, ?_⟩
              first | (exfalso; omega) | (have e8 : fTellT (w.1 33 6) (w.1 36 g) (w.1 33 37) g = zTr (zTr (zTr (zTr (w.1 33 37) 3) 2) 1) 1 := (by unfold fTellT; rw [if_neg (by omega), if_pos (by omega)]); exact ⟨by unfold fTell; (repeat' split) <;> omega, fun i k => by rw [h_48, h_38, h_33, h_24, zput_s, zput_s, zput_s, e8, zput_e, zput_e, zput_e, zput_e]; (repeat' split) <;> rfl⟩)
            · refine r_iload_n 3 0 dM_tell_71 rfl rfl ?_
              refine r_bipush dM_tell_72 (by decide) ?_
              refine r_iadd dM_tell_74 ?_
              refine r_goto 84 dM_tell_75 (by decide) ?_
              refine r_iret rfl dM_tell_84 ⟨_, rfl, ?_⟩
              first | (exfalso; omega) | (have e8 : fTellT (w.1 33 6) (w.1 36 g) (w.1 33 37) g = zTr (zTr (zTr (zTr (w.1 33 37) 3) 2) 1) 1 := (by unfold fTellT; rw [if_neg (by omega), if_pos (by omega)]); exact ⟨by unfold fTell; (repeat' split) <;> omega, fun i k => by rw [h_48, h_38, h_33, h_24, zput_s, zput_s, zput_s, e8, zput_e, zput_e, zput_e, zput_e]; (repeat' split) <;> rfl⟩)
          · refine r_iload_n 3 0 dM_tell_62 rfl rfl ?_
            refine r_goto 84 dM_tell_63 (by decide) ?_
            refine r_iret rfl dM_tell_84 ⟨_, rfl, ?_⟩
            first | (exfalso; omega) | (have e8 : fTellT (w.1 33 6) (w.1 36 g) (w.1 33 37) g = zTr (zTr (zTr (zTr (w.1 33 37) 3) 2) 1) 1 := (by unfold fTellT; rw [if_neg (by omega), if_pos (by omega)]); exact ⟨by unfold fTell; (repeat' split) <;> omega, fun i k => by rw [h_48, h_38, h_33, h_24, zput_s, zput_s, zput_s, e8, zput_e, zput_e, zput_e, zput_e]; (repeat' split) <;> rfl⟩)
      · refine r_aload_n 0 1 dM_tell_31 rfl rfl ?_
        refine r_iconst dM_tell_32 ?_
        refine r_cVV (cM_traced w 2) qM_traced rfl kw_829 rfl rfl dM_tell_33 (st0 := [zI 2, zR 33]) (st := []) rfl ⟨Nat.le_of_ble_eq_true rfl, Nat.le_of_ble_eq_true rfl⟩ ⟨Nat.le_of_ble_eq_true rfl, Nat.le_of_ble_eq_true rfl⟩ (Nat.le_of_ble_eq_true rfl) (fun w_33 h_33 ok_33 => ?_)
        refine r_aload_n 0 1 dM_tell_36 rfl rfl ?_
        refine r_iconst dM_tell_37 ?_
        refine r_cVV (cM_traced w_33 1) qM_traced rfl kw_829 rfl rfl dM_tell_38 (st0 := [zI 1, zR 33]) (st := []) rfl ⟨Nat.le_of_ble_eq_true rfl, Nat.le_of_ble_eq_true rfl⟩ ⟨Nat.le_of_ble_eq_true rfl, Nat.le_of_ble_eq_true rfl⟩ (Nat.le_of_ble_eq_true rfl) (fun w_38 h_38 ok_38 => ?_)
        refine r_iload_n 2 0 dM_tell_41 rfl rfl ?_
        refine r_iconst dM_tell_42 ?_
        refine r_ic_ne 51 dM_tell_43 (by decide) ⟨by omega, by omega⟩ ⟨by omega, by omega⟩ (fun c_43 => ?_) (fun c_43 => ?_)
        · refine r_aload_n 0 1 dM_tell_51 rfl rfl ?_
          refine r_getR (k := 8) (b := 37) fX7 rfl rfl rfl (by decide) kw_513 rfl dM_tell_52 ?_
          refine r_iload_n 1 2 dM_tell_55 rfl rfl ?_
          refine r_iaload rfl (by decide) dM_tell_56 (by omega) (by omega) rfl (fun y_56 ey_56 ly_56 uy_56 => ?_)
          have e56 : y_56 = w.1 37 g := (by rw [ey_56, h_38]; first | (rw [h_33, h_24, zput_i _ _ _ _ (by decide), zput_i _ _ _ _ (by decide), zput_i _ _ _ _ (by decide)]; done) | (rw [h_33, zput_i _ _ _ _ (by decide), zput_i _ _ _ _ (by decide)]; done) | (rw [zput_i _ _ _ _ (by decide)]; done) | (exfalso; omega))
          refine r_istore_n (ls' := [(3, zI y_56), (2, zI y_15), (0, zR 33), (1, zI g)]) 3 dM_tell_57 rfl (by decide) rfl ?_
          refine r_iload_n 2 1 dM_tell_58 rfl rfl ?_
          refine r_if_ne 66 dM_tell_59 (by decide) ⟨by omega, by omega⟩ (fun c_59 => ?_) (fun c_59 => ?_)
          · refine r_iload_n 2 1 dM_tell_66 rfl rfl ?_
            refine r_iconst dM_tell_67 ?_
            refine r_ic_ne 78 dM_tell_68 (by decide) ⟨by omega, by omega⟩ ⟨by omega, by omega⟩ (fun c_68 => ?_) (fun c_68 => ?_)
            · refine r_iconst dM_tell_78 ?_
              refine r_iload_n 3 0 dM_tell_79 rfl rfl ?_
              refine r_imul dM_tell_80 ?_
              refine r_bipush dM_tell_81 (by decide) ?_
              refine r_iadd dM_tell_83 ?_
              refine r_iret rfl dM_tell_84 ⟨_, rfl, ?_⟩
              first | (exfalso; omega) | (have e8 : fTellT (w.1 33 6) (w.1 36 g) (w.1 33 37) g = zTr (w.1 33 37) 1 := (by unfold fTellT; rw [if_neg (by omega), if_neg (by omega), if_neg (by omega)]); exact ⟨by unfold fTell; (repeat' split) <;> omega, fun i k => by rw [h_38, e8, zput_e]⟩) | (have e8 : fTellT (w.1 33 6) (w.1 36 g) (w.1 33 37) g = zTr (zTr (w.1 33 37) 2) 1 := (by unfold fTellT; rw [if_neg (by omega), if_neg (by omega), if_pos (by omega)]); exact ⟨by unfold fTell; (repeat' split) <;> omega, fun i k => by rw [h_38, h_33, zput_s, e8, zput_e, zput_e]; (repeat' split) <;> rfl⟩)
            · refine r_iload_n 3 0 dM_tell_71 rfl rfl ?_
              refine r_bipush dM_tell_72 (by decide) ?_
              refine r_iadd dM_tell_74 ?_
              refine r_goto 84 dM_tell_75 (by decide) ?_
              refine r_iret rfl dM_tell_84 ⟨_, rfl, ?_⟩
              first | (exfalso; omega) | (have e8 : fTellT (w.1 33 6) (w.1 36 g) (w.1 33 37) g = zTr (w.1 33 37) 1 := (by unfold fTellT; rw [if_neg (by omega), if_neg (by omega), if_neg (by omega)]); exact ⟨by unfold fTell; (repeat' split) <;> omega, fun i k => by rw [h_38, e8, zput_e]⟩) | (have e8 : fTellT (w.1 33 6) (w.1 36 g) (w.1 33 37) g = zTr (zTr (w.1 33 37) 2) 1 := (by unfold fTellT; rw [if_neg (by omega), if_neg (by omega), if_pos (by omega)]); exact ⟨by unfold fTell; (repeat' split) <;> omega, fun i k => by rw [h_38, h_33, zput_s, e8, zput_e, zput_e]; (repeat' split) <;> rfl⟩)
          · refine r_iload_n 3 0 dM_tell_62 rfl rfl ?_
            refine r_goto 84 dM_tell_63 (by decide) ?_
            refine r_iret rfl dM_tell_84 ⟨_, rfl, ?_⟩
            first | (exfalso; omega) | (have e8 : fTellT (w.1 33 6) (w.1 36 g) (w.1 33 37) g = zTr (w.1 33 37) 1 := (by unfold fTellT; rw [if_neg (by omega), if_neg (by omega), if_neg (by omega)]); exact ⟨by unfold fTell; (repeat' split) <;> omega, fun i k => by rw [h_38, e8, zput_e]⟩) | (have e8 : fTellT (w.1 33 6) (w.1 36 g) (w.1 33 37) g = zTr (zTr (w.1 33 37) 2) 1 := (by unfold fTellT; rw [if_neg (by omega), if_neg (by omega), if_pos (by omega)]); exact ⟨by unfold fTell; (repeat' split) <;> omega, fun i k => by rw [h_38, h_33, zput_s, e8, zput_e, zput_e]; (repeat' split) <;> rfl⟩)
        · refine r_aload_n 0 1 dM_tell_46 rfl rfl ?_
          refine r_iconst dM_tell_47 ?_
          refine r_cVV (cM_traced w_38 1) qM_traced rfl kw_829 rfl rfl dM_tell_48 (st0 := [zI 1, zR 33]) (st := []) rfl ⟨Nat.le_of_ble_eq_true rfl, Nat.le_of_ble_eq_true rfl⟩ ⟨Nat.le_of_ble_eq_true rfl, Nat.le_of_ble_eq_true rfl⟩ (Nat.le_of_ble_eq_true rfl) (fun w_48 h_48 ok_48 => ?_)
          refine r_aload_n 0 1 dM_tell_51 rfl rfl ?_
          refine r_getR (k := 8) (b := 37) fX7 rfl rfl rfl (by decide) kw_513 rfl dM_tell_52 ?_
          refine r_iload_n 1 2 dM_tell_55 rfl rfl ?_
          refine r_iaload rfl (by decide) dM_tell_56 (by omega) (by omega) rfl (fun y_56 ey_56 ly_56 uy_56 => ?_)
          have e56 : y_56 = w.1 37 g := (by first | (rw [ey_56, h_48, zput_i _ _ _ _ (by decide), h_38, zput_i _ _ _ _ (by decide)]; done) | (rw [ey_56, h_48, zput_i _ _ _ _ (by decide), h_38, zput_i _ _ _ _ (by decide), h_33, zput_i _ _ _ _ (by decide)]; done) | (rw [ey_56, h_48, zput_i _ _ _ _ (by decide), h_38, zput_i _ _ _ _ (by decide), h_33, zput_i _ _ _ _ (by decide), h_24, zput_i _ _ _ _ (by decide)]; done) | (exfalso; omega))
          refine r_istore_n (ls' := [(3, zI y_56), (2, zI y_15), (0, zR 33), (1, zI g)]) 3 dM_tell_57 rfl (by decide) rfl ?_
          refine r_iload_n 2 1 dM_tell_58 rfl rfl ?_
          refine r_if_ne 66 dM_tell_59 (by decide) ⟨by omega, by omega⟩ (fun c_59 => ?_) (fun c_59 => ?_)
          · refine r_iload_n 2 1 dM_tell_66 rfl rfl ?_
            refine r_iconst dM_tell_67 ?_
            refine r_ic_ne 78 dM_tell_68 (by decide) ⟨by omega, by omega⟩ ⟨by omega, by omega⟩ (fun c_68 => ?_) (fun c_68 => ?_)
            · refine r_iconst dM_tell_78 ?_
              refine r_iload_n 3 0 dM_tell_79 rfl rfl ?_
              refine r_imul dM_tell_80 ?_
              refine r_bipush dM_tell_81 (by decide) ?_
              refine r_iadd dM_tell_83 ?_
              refine r_iret rfl dM_tell_84 ⟨_, rfl, ?_⟩
              first | (exfalso; omega) | (have e8 : fTellT (w.1 33 6) (w.1 36 g) (w.1 33 37) g = zTr (zTr (zTr (zTr (w.1 33 37) 3) 2) 1) 1 := (by unfold fTellT; rw [if_neg (by omega), if_pos (by omega)]); exact ⟨by unfold fTell; (repeat' split) <;> omega, fun i k => by rw [h_48, h_38, h_33, h_24, zput_s, zput_s, zput_s, e8, zput_e, zput_e, zput_e, zput_e]; (repeat' split) <;> rfl⟩)
            · refine r_iload_n 3 0 dM_tell_71 rfl rfl ?_
              refine r_bipush dM_tell_72 (by decide) ?_
              refine r_iadd dM_tell_74 ?_
              refine r_goto 84 dM_tell_75 (by decide) ?_
              refine r_iret rfl dM_tell_84 ⟨_, rfl, ?_⟩
              first | (exfalso; omega) | (have e8 : fTellT (w.1 33 6) (w.1 36 g) (w.1 33 37) g = zTr (zTr (zTr (zTr (w.1 33 37) 3) 2) 1) 1 := (by unfold fTellT; rw [if_neg (by omega), if_pos (by omega)]); exact ⟨by unfold fTell; (repeat' split) <;> omega, fun i k => by rw [h_48, h_38, h_33, h_24, zput_s, zput_s, zput_s, e8, zput_e, zput_e, zput_e, zput_e]; (repeat' split) <;> rfl⟩)
          · refine r_iload_n 3 0 dM_tell_62 rfl rfl ?_
            refine r_goto 84 dM_tell_63 (by decide) ?_
            refine r_iret rfl dM_tell_84 ⟨_, rfl, ?_⟩
            first | (exfalso; omega) | (have e8 : fTellT (w.1 33 6) (w.1 36 g) (w.1 33 37) g = zTr (zTr (zTr (zTr (w.1 33 37) 3) 2) 1) 1 := (by unfold fTellT; rw [if_neg (by omega), if_pos (by omega)]); exact ⟨by unfold fTell; (repeat' split) <;> omega, fun i k => by rw [h_48, h_38, h_33, h_24, zput_s, zput_s, zput_s, e8, zput_e, zput_e, zput_e, zput_e]; (repeat' split) <;> rfl⟩)
    · refine r_aload_n 0 1 dM_tell_22 rfl rfl ?_
      refine r_iconst dM_tell_23 ?_
      refine r_cVV (cM_traced w 3) qM_traced rfl kw_829 rfl rfl dM_tell_24 (st0 := [zI 3, zR 33]) (st := []) rfl ⟨Nat.le_of_ble_eq_true rfl, Nat.le_of_ble_eq_true rfl⟩ ⟨Nat.le_of_ble_eq_true rfl, Nat.le_of_ble_eq_true rfl⟩ (Nat.le_of_ble_eq_true rfl) (fun w_24 h_24 ok_24 => ?_)
      refine r_iload_n 2 0 dM_tell_27 rfl rfl ?_
      refine r_if_le 36 dM_tell_28 (by decide) ⟨by omega, by omega⟩ (fun c_28 => ?_) (fun c_28 => ?_)
      · refine r_aload_n 0 1 dM_tell_36 rfl rfl ?_
        refine r_iconst dM_tell_37 ?_
        refine r_cVV (cM_traced w_24 1) qM_traced rfl kw_829 rfl rfl dM_tell_38 (st0 := [zI 1, zR 33]) (st := []) rfl ⟨Nat.le_of_ble_eq_true rfl, Nat.le_of_ble_eq_true rfl⟩ ⟨Nat.le_of_ble_eq_true rfl, Nat.le_of_ble_eq_true rfl⟩ (Nat.le_of_ble_eq_true rfl) (fun w_38 h_38 ok_38 => ?_)
        refine r_iload_n 2 0 dM_tell_41 rfl rfl ?_
        refine r_iconst dM_tell_42 ?_
        refine r_ic_ne 51 dM_tell_43 (by decide) ⟨by omega, by omega⟩ ⟨by omega, by omega⟩ (fun c_43 => ?_) (fun c_43 => ?_)
        · refine r_aload_n 0 1 dM_tell_51 rfl rfl ?_
          refine r_getR (k := 8) (b := 37) fX7 rfl rfl rfl (by decide) kw_513 rfl dM_tell_52 ?_
          refine r_iload_n 1 2 dM_tell_55 rfl rfl ?_
          refine r_iaload rfl (by decide) dM_tell_56 (by omega) (by omega) rfl (fun y_56 ey_56 ly_56 uy_56 => ?_)
          have e56 : y_56 = w.1 37 g := (by rw [ey_56, h_38]; first | (rw [h_33, h_24, zput_i _ _ _ _ (by decide), zput_i _ _ _ _ (by decide), zput_i _ _ _ _ (by decide)]; done) | (rw [h_33, zput_i _ _ _ _ (by decide), zput_i _ _ _ _ (by decide)]; done) | (rw [zput_i _ _ _ _ (by decide)]; done) | (exfalso; omega))
          refine r_istore_n (ls' := [(3, zI y_56), (2, zI y_15), (0, zR 33), (1, zI g)]) 3 dM_tell_57 rfl (by decide) rfl ?_
          refine r_iload_n 2 1 dM_tell_58 rfl rfl ?_
          refine r_if_ne 66 dM_tell_59 (by decide) ⟨by omega, by omega⟩ (fun c_59 => ?_) (fun c_59 => ?_)
          · refine r_iload_n 2 1 dM_tell_66 rfl rfl ?_
            refine r_iconst dM_tell_67 ?_
            refine r_ic_ne 78 dM_tell_68 (by decide) ⟨by omega, by omega⟩ ⟨by omega, by omega⟩ (fun c_68 => ?_) (fun c_68 => ?_)
            · refine r_iconst dM_tell_78 ?_
              refine r_iload_n 3 0 dM_tell_79 rfl rfl ?_
              refine r_imul dM_tell_80 ?_
              refine r_bipush dM_tell_81 (by decide) ?_
              refine r_iadd dM_tell_83 ?_
              refine r_iret rfl dM_tell_84 ⟨_, rfl, ?_⟩
              first | (exfalso; omega) | (have e8 : fTellT (w.1 33 6) (w.1 36 g) (w.1 33 37) g = zTr (w.1 33 37) 1 := (by unfold fTellT; rw [if_neg (by omega), if_neg (by omega), if_neg (by omega)]); exact ⟨by unfold fTell; (repeat' split) <;> omega, fun i k => by rw [h_38, e8, zput_e]⟩) | (have e8 : fTellT (w.1 33 6) (w.1 36 g) (w.1 33 37) g = zTr (zTr (w.1 33 37) 2) 1 := (by unfold fTellT; rw [if_neg (by omega), if_neg (by omega), if_pos (by omega)]); exact ⟨by unfold fTell; (repeat' split) <;> omega, fun i k => by rw [h_38, h_33, zput_s, e8, zput_e, zput_e]; (repeat' split) <;> rfl⟩)
            · refine r_iload_n 3 0 dM_tell_71 rfl rfl ?_
              refine r_bipush dM_tell_72 (by decide) ?_
              refine r_iadd dM_tell_74 ?_
              refine r_goto 84 dM_tell_75 (by decide) ?_
              refine r_iret rfl dM_tell_84 ⟨_, rfl, ?_⟩
              first | (exfalso; omega) | (have e8 : fTellT (w.1 33 6) (w.1 36 g) (w.1 33 37) g = zTr (w.1 33 37) 1 := (by unfold fTellT; rw [if_neg (by omega), if_neg (by omega), if_neg (by omega)]); exact ⟨by unfold fTell; (repeat' split) <;> omega, fun i k => by rw [h_38, e8, zput_e]⟩) | (have e8 : fTellT (w.1 33 6) (w.1 36 g) (w.1 33 37) g = zTr (zTr (w.1 33 37) 2) 1 := (by unfold fTellT; rw [if_neg (by omega), if_neg (by omega), if_pos (by omega)]); exact ⟨by unfold fTell; (repeat' split) <;> omega, fun i k => by rw [h_38, h_33, zput_s, e8, zput_e, zput_e]; (repeat' split) <;> rfl⟩)
          · refine r_iload_n 3 0 dM_tell_62 rfl rfl ?_
            refine r_goto 84 dM_tell_63 (by decide) ?_
            refine r_iret rfl dM_tell_84 ⟨_, rfl, ?_⟩
            first | (exfalso; omega) | (have e8 : fTellT (w.1 33 6) (w.1 36 g) (w.1 33 37) g = zTr (w.1 33 37) 1 := (by unfold fTellT; rw [if_neg (by omega), if_neg (by omega), if_neg (by omega)]); exact ⟨by unfold fTell; (repeat' split) <;> omega, fun i k => by rw [h_38, e8, zput_e]⟩) | (have e8 : fTellT (w.1 33 6) (w.1 36 g) (w.1 33 37) g = zTr (zTr (w.1 33 37) 2) 1 := (by unfold fTellT; rw [if_neg (by omega), if_neg (by omega), if_pos (by omega)]); exact ⟨by unfold fTell; (repeat' split) <;> omega, fun i k => by rw [h_38, h_33, zput_s, e8, zput_e, zput_e]; (repeat' split) <;> rfl⟩)
        · refine r_aload_n 0 1 dM_tell_46 rfl rfl ?_
          refine r_iconst dM_tell_47 ?_
          refine r_cVV (cM_traced w_38 1) qM_traced rfl kw_829 rfl rfl dM_tell_48 (st0 := [zI 1, zR 33]) (st := []) rfl ⟨Nat.le_of_ble_eq_true rfl, Nat.le_of_ble_eq_true rfl⟩ ⟨Nat.le_of_ble_eq_true rfl, Nat.le_of_ble_eq_true rfl⟩ (Nat.le_of_ble_eq_true rfl) (fun w_48 h_48 ok_48 => ?_)
          refine r_aload_n 0 1 dM_tell_51 rfl rfl ?_
          refine r_getR (k := 8) (b := 37) fX7 rfl rfl rfl (by decide) kw_513 rfl dM_tell_52 ?_
          refine r_iload_n 1 2 dM_tell_55 rfl rfl ?_
          refine r_iaload rfl (by decide) dM_tell_56 (by omega) (by omega) rfl (fun y_56 ey_56 ly_56 uy_56 => ?_)
          have e56 : y_56 = w.1 37 g := (by first | (rw [ey_56, h_48, zput_i _ _ _ _ (by decide), h_38, zput_i _ _ _ _ (by decide)]; done) | (rw [ey_56, h_48, zput_i _ _ _ _ (by decide), h_38, zput_i _ _ _ _ (by decide), h_33, zput_i _ _ _ _ (by decide)]; done) | (rw [ey_56, h_48, zput_i _ _ _ _ (by decide), h_38, zput_i _ _ _ _ (by decide), h_33, zput_i _ _ _ _ (by decide), h_24, zput_i _ _ _ _ (by decide)]; done) | (exfalso; omega))
          refine r_istore_n (ls' := [(3, zI y_56), (2, zI y_15), (0, zR 33), (1, zI g)]) 3 dM_tell_57 rfl (by decide) rfl ?_
          refine r_iload_n 2 1 dM_tell_58 rfl rfl ?_
          refine r_if_ne 66 dM_tell_59 (by decide) ⟨by omega, by omega⟩ (fun c_59 => ?_) (fun c_59 => ?_)
          · refine r_iload_n 2 1 dM_tell_66 rfl rfl ?_
            refine r_iconst dM_tell_67 ?_
            refine r_ic_ne 78 dM_tell_68 (by decide) ⟨by omega, by omega⟩ ⟨by omega, by omega⟩ (fun c_68 => ?_) (fun c_68 => ?_)
            · refine r_iconst dM_tell_78 ?_
              refine r_iload_n 3 0 dM_tell_79 rfl rfl ?_
              refine r_imul dM_tell_80 ?_
              refine r_bipush dM_tell_81 (by decide) ?_
              refine r_iadd dM_tell_83 ?_
              refine r_iret rfl dM_tell_84 ⟨_, rfl, ?_⟩
              first | (exfalso; omega) | (have e8 : fTellT (w.1 33 6) (w.1 36 g) (w.1 33 37) g = zTr (zTr (zTr (zTr (w.1 33 37) 3) 2) 1) 1 := (by unfold fTellT; rw [if_neg (by omega), if_pos (by omega)]); exact ⟨by unfold fTell; (repeat' split) <;> omega, fun i k => by rw [h_48, h_38, h_33, h_24, zput_s, zput_s, zput_s, e8, zput_e, zput_e, zput_e, zput_e]; (repeat' split) <;> rfl⟩)
            · refine r_iload_n 3 0 dM_tell_71 rfl rfl ?_
              refine r_bipush dM_tell_72 (by decide) ?_
              refine r_iadd dM_tell_74 ?_
              refine r_goto 84 dM_tell_75 (by decide) ?_
              refine r_iret rfl dM_tell_84 ⟨_, rfl, ?_⟩
              first | (exfalso; omega) | (have e8 : fTellT (w.1 33 6) (w.1 36 g) (w.1 33 37) g = zTr (zTr (zTr (zTr (w.1 33 37) 3) 2) 1) 1 := (by unfold fTellT; rw [if_neg (by omega), if_pos (by omega)]); exact ⟨by unfold fTell; (repeat' split) <;> omega, fun i k => by rw [h_48, h_38, h_33, h_24, zput_s, zput_s, zput_s, e8, zput_e, zput_e, zput_e, zput_e]; (repeat' split) <;> rfl⟩)
          · refine r_iload_n 3 0 dM_tell_62 rfl rfl ?_
            refine r_goto 84 dM_tell_63 (by decide) ?_
            refine r_iret rfl dM_tell_84 ⟨_, rfl, ?_⟩
            first | (exfalso; omega) | (have e8 : fTellT (w.1 33 6) (w.1 36 g) (w.1 33 37) g = zTr (zTr (zTr (zTr (w.1 33 37) 3) 2) 1) 1 := (by unfold fTellT; rw [if_neg (by omega), if_pos (by omega)]); exact ⟨by unfold fTell; (repeat' split) <;> omega, fun i k => by rw [h_48, h_38, h_33, h_24, zput_s, zput_s, zput_s, e8, zput_e, zput_e, zput_e, zput_e]; (repeat' split) <;> rfl⟩)
      · refine r_aload_n 0 1 dM_tell_31 rfl rfl ?_
        refine r_iconst dM_tell_32 ?_
        refine r_cVV (cM_traced w_24 2) qM_traced rfl kw_829 rfl rfl dM_tell_33 (st0 := [zI 2, zR 33]) (st := []) rfl ⟨Nat.le_of_ble_eq_true rfl, Nat.le_of_ble_eq_true rfl⟩ ⟨Nat.le_of_ble_eq_true rfl, Nat.le_of_ble_eq_true rfl⟩ (Nat.le_of_ble_eq_true rfl) (fun w_33 h_33 ok_33 => ?_)
        refine r_aload_n 0 1 dM_tell_36 rfl rfl ?_
        refine r_iconst dM_tell_37 ?_
        refine r_cVV (cM_traced w_33 1) qM_traced rfl kw_829 rfl rfl dM_tell_38 (st0 := [zI 1, zR 33]) (st := []) rfl ⟨Nat.le_of_ble_eq_true rfl, Nat.le_of_ble_eq_true rfl⟩ ⟨Nat.le_of_ble_eq_true rfl, Nat.le_of_ble_eq_true rfl⟩ (Nat.le_of_ble_eq_true rfl) (fun w_38 h_38 ok_38 => ?_)
        refine r_iload_n 2 0 dM_tell_41 rfl rfl ?_
        refine r_iconst dM_tell_42 ?_
        refine r_ic_ne 51 dM_tell_43 (by decide) ⟨by omega, by omega⟩ ⟨by omega, by omega⟩ (fun c_43 => ?_) (fun c_43 => ?_)
        · refine r_aload_n 0 1 dM_tell_51 rfl rfl ?_
          refine r_getR (k := 8) (b := 37) fX7 rfl rfl rfl (by decide) kw_513 rfl dM_tell_52 ?_
          refine r_iload_n 1 2 dM_tell_55 rfl rfl ?_
          refine r_iaload rfl (by decide) dM_tell_56 (by omega) (by omega) rfl (fun y_56 ey_56 ly_56 uy_56 => ?_)
          have e56 : y_56 = w.1 37 g := (by rw [ey_56, h_38]; first | (rw [h_33, h_24, zput_i _ _ _ _ (by decide), zput_i _ _ _ _ (by decide), zput_i _ _ _ _ (by decide)]; done) | (rw [h_33, zput_i _ _ _ _ (by decide), zput_i _ _ _ _ (by decide)]; done) | (rw [zput_i _ _ _ _ (by decide)]; done) | (exfalso; omega))
          refine r_istore_n (ls' := [(3, zI y_56), (2, zI y_15), (0, zR 33), (1, zI g)]) 3 dM_tell_57 rfl (by decide) rfl ?_
          refine r_iload_n 2 1 dM_tell_58 rfl rfl ?_
          refine r_if_ne 66 dM_tell_59 (by decide) ⟨by omega, by omega⟩ (fun c_59 => ?_) (fun c_59 => ?_)
          · refine r_iload_n 2 1 dM_tell_66 rfl rfl ?_
            refine r_iconst dM_tell_67 ?_
            refine r_ic_ne 78 dM_tell_68 (by decide) ⟨by omega, by omega⟩ ⟨by omega, by omega⟩ (fun c_68 => ?_) (fun c_68 => ?_)
            · refine r_iconst dM_tell_78 ?_
              refine r_iload_n 3 0 dM_tell_79 rfl rfl ?_
              refine r_imul dM_tell_80 ?_
              refine r_bipush dM_tell_81 (by decide) ?_
              refine r_iadd dM_tell_83 ?_
              refine r_iret rfl dM_tell_84 ⟨_, rfl, ?_⟩
              first | (exfalso; omega) | (have e8 : fTellT (w.1 33 6) (w.1 36 g) (w.1 33 37) g = zTr (w.1 33 37) 1 := (by unfold fTellT; rw [if_neg (by omega), if_neg (by omega), if_neg (by omega)]); exact ⟨by unfold fTell; (repeat' split) <;> omega, fun i k => by rw [h_38, e8, zput_e]⟩) | (have e8 : fTellT (w.1 33 6) (w.1 36 g) (w.1 33 37) g = zTr (zTr (w.1 33 37) 2) 1 := (by unfold fTellT; rw [if_neg (by omega), if_neg (by omega), if_pos (by omega)]); exact ⟨by unfold fTell; (repeat' split) <;> omega, fun i k => by rw [h_38, h_33, zput_s, e8, zput_e, zput_e]; (repeat' split) <;> rfl⟩)
            · refine r_iload_n 3 0 dM_tell_71 rfl rfl ?_
              refine r_bipush dM_tell_72 (by decide) ?_
              refine r_iadd dM_tell_74 ?_
              refine r_goto 84 dM_tell_75 (by decide) ?_
              refine r_iret rfl dM_tell_84 ⟨_, rfl, ?_⟩
              first | (exfalso; omega) | (have e8 : fTellT (w.1 33 6) (w.1 36 g) (w.1 33 37) g = zTr (w.1 33 37) 1 := (by unfold fTellT; rw [if_neg (by omega), if_neg (by omega), if_neg (by omega)]); exact ⟨by unfold fTell; (repeat' split) <;> omega, fun i k => by rw [h_38, e8, zput_e]⟩) | (have e8 : fTellT (w.1 33 6) (w.1 36 g) (w.1 33 37) g = zTr (zTr (w.1 33 37) 2) 1 := (by unfold fTellT; rw [if_neg (by omega), if_neg (by omega), if_pos (by omega)]); exact ⟨by unfold fTell; (repeat' split) <;> omega, fun i k => by rw [h_38, h_33, zput_s, e8, zput_e, zput_e]; (repeat' split) <;> rfl⟩)
          · refine r_iload_n 3 0 dM_tell_62 rfl rfl ?_
            refine r_goto 84 dM_tell_63 (by decide) ?_
            refine r_iret rfl dM_tell_84 ⟨_, rfl, ?_⟩
            first | (exfalso; omega) | (have e8 : fTellT (w.1 33 6) (w.1 36 g) (w.1 33 37) g = zTr (w.1 33 37) 1 := (by unfold fTellT; rw [if_neg (by omega), if_neg (by omega), if_neg (by omega)]); exact ⟨by unfold fTell; (repeat' split) <;> omega, fun i k => by rw [h_38, e8, zput_e]⟩) | (have e8 : fTellT (w.1 33 6) (w.1 36 g) (w.1 33 37) g = zTr (zTr (w.1 33 37) 2) 1 := (by unfold fTellT; rw [if_neg (by omega), if_neg (by omega), if_pos (by omega)]); exact ⟨by unfold fTell; (repeat' split) <;> omega, fun i k => by rw [h_38, h_33, zput_s, e8, zput_e, zput_e]; (repeat' split) <;> rfl⟩)
        · refine r_aload_n 0 1 dM_tell_46 rfl rfl ?_
          refine r_iconst dM_tell_47 ?_
          refine r_cVV (cM_traced w_38 1) qM_traced rfl kw_829 rfl rfl dM_tell_48 (st0 := [zI 1, zR 33]) (st := []) rfl ⟨Nat.le_of_ble_eq_true rfl, Nat.le_of_ble_eq_true rfl⟩ ⟨Nat.le_of_ble_eq_true rfl, Nat.le_of_ble_eq_true rfl⟩ (Nat.le_of_ble_eq_true rfl) (fun w_48 h_48 ok_48 => ?_)
          refine r_aload_n 0 1 dM_tell_51 rfl rfl ?_
          refine r_getR (k := 8) (b := 37) fX7 rfl rfl rfl (by decide) kw_513 rfl dM_tell_52 ?_
          refine r_iload_n 1 2 dM_tell_55 rfl rfl ?_
          refine r_iaload rfl (by decide) dM_tell_56 (by omega) (by omega) rfl (fun y_56 ey_56 ly_56 uy_56 => ?_)
          have e56 : y_56 = w.1 37 g := (by first | (rw [ey_56, h_48, zput_i _ _ _ _ (by decide), h_38, zput_i _ _ _ _ (by decide)]; done) | (rw [ey_56, h_48, zput_i _ _ _ _ (by decide), h_38, zput_i _ _ _ _ (by decide), h_33, zput_i _ _ _ _ (by decide)]; done) | (rw [ey_56, h_48, zput_i _ _ _ _ (by decide), h_38, zput_i _ _ _ _ (by decide), h_33, zput_i _ _ _ _ (by decide), h_24, zput_i _ _ _ _ (by decide)]; done) | (exfalso; omega))
          refine r_istore_n (ls' := [(3, zI y_56), (2, zI y_15), (0, zR 33), (1, zI g)]) 3 dM_tell_57 rfl (by decide) rfl ?_
          refine r_iload_n 2 1 dM_tell_58 rfl rfl ?_
          refine r_if_ne 66 dM_tell_59 (by decide) ⟨by omega, by omega⟩ (fun c_59 => ?_) (fun c_59 => ?_)
          · refine r_iload_n 2 1 dM_tell_66 rfl rfl ?_
            refine r_iconst dM_tell_67 ?_
            refine r_ic_ne 78 dM_tell_68 (by decide) ⟨by omega, by omega⟩ ⟨by omega, by omega⟩ (fun c_68 => ?_) (fun c_68 => ?_)
            · refine r_iconst dM_tell_78 ?_
              refine r_iload_n 3 0 dM_tell_79 rfl rfl ?_
              refine r_imul dM_tell_80 ?_
              refine r_bipush dM_tell_81 (by decide) ?_
              refine r_iadd dM_tell_83 ?_
              refine r_iret rfl dM_tell_84 ⟨_, rfl, ?_⟩
              first | (exfalso; omega) | (have e8 : fTellT (w.1 33 6) (w.1 36 g) (w.1 33 37) g = zTr (zTr (zTr (zTr (w.1 33 37) 3) 2) 1) 1 := (by unfold fTellT; rw [if_neg (by omega), if_pos (by omega)]); exact ⟨by unfold fTell; (repeat' split) <;> omega, fun i k => by rw [h_48, h_38, h_33, h_24, zput_s, zput_s, zput_s, e8, zput_e, zput_e, zput_e, zput_e]; (repeat' split) <;> rfl⟩)
            · refine r_iload_n 3 0 dM_tell_71 rfl rfl ?_
              refine r_bipush dM_tell_72 (by decide) ?_
              refine r_iadd dM_tell_74 ?_
              refine r_goto 84 dM_tell_75 (by decide) ?_
              refine r_iret rfl dM_tell_84 ⟨_, rfl, ?_⟩
              first | (exfalso; omega) | (have e8 : fTellT (w.1 33 6) (w.1 36 g) (w.1 33 37) g = zTr (zTr (zTr (zTr (w.1 33 37) 3) 2) 1) 1 := (by unfold fTellT; rw [if_neg (by omega), if_pos (by omega)]); exact ⟨by unfold fTell; (repeat' split) <;> omega, fun i k => by rw [h_48, h_38, h_33, h_24, zput_s, zput_s, zput_s, e8, zput_e, zput_e, zput_e, zput_e]; (repeat' split) <;> rfl⟩)
          · refine r_iload_n 3 0 dM_tell_62 rfl rfl ?_
            refine r_goto 84 dM_tell_63 (by decide) ?_
            refine r_iret rfl dM_tell_84 ⟨_, rfl, ?_⟩
            first | (exfalso; omega) | (have e8 : fTellT (w.1 33 6) (w.1 36 g) (w.1 33 37) g = zTr (zTr (zTr (zTr (w.1 33 37) 3) 2) 1) 1 := (by unfold fTellT; rw [if_neg (by omega), if_pos (by omega)]); exact ⟨by unfold fTell; (repeat' split) <;> omega, fun i k => by rw [h_48, h_38, h_33, h_24, zput_s, zput_s, zput_s, e8, zput_e, zput_e, zput_e, zput_e]; (repeat' split) <;> rfl⟩)
  · refine r_iconst dM_tell_8 ?_
    refine r_iret rfl dM_tell_9 ⟨_, rfl, ?_⟩
    have e8 : fTellT (w.1 33 6) (w.1 36 g) (w.1 33 37) g = w.1 33 37 := (by unfold fTellT; rw [if_pos (by omega)])
    exact ⟨by unfold fTell; (repeat' split) <;> omega, fun i k => by rw [e8]; (repeat' split) <;> first | rfl | (rename_i q; rw [q.1, q.2])⟩

set_option maxRecDepth 20000 in
set_option maxHeartbeats 4000000 in
theorem cM_greet (w : zW) (g : Int) (zg : zin g) : zC mM_greet 2 [zR 33, zI g] w (zrI fun a w' => a = fGreet (w.1 33 6) (w.1 36 g) g ∧ (∀ i k, w'.1 i k = (if i = 33 ∧ k = 37 then fGreetT (w.1 33 6) (w.1 36 g) (w.1 33 37) g else w.1 i k))) := by
  refine zC.of (by decide +kernel) (Nat.le_of_ble_eq_true rfl) ?_
  show zM mM_greet (zZm 2 _) 0 [(0, zR 33), (1, zI g)] [] w
  refine r_aload_n 0 0 dM_greet_0 rfl rfl ?_
  refine r_iload_n 1 1 dM_greet_1 rfl rfl ?_
  refine r_cVI (cM_noGuest w g (by omega)) qM_noGuest rfl kw_671 rfl rfl dM_greet_2 (st0 := [zI g, zR 33]) (st := []) rfl ⟨Nat.le_of_ble_eq_true rfl, Nat.le_of_ble_eq_true rfl⟩ ⟨Nat.le_of_ble_eq_true rfl, Nat.le_of_ble_eq_true rfl⟩ (Nat.le_of_ble_eq_true rfl) (fun a_2 w_2 h_2 ok_2 => ?_)
  obtain ⟨rfl, h_2⟩ := h_2
  refine r_if_eq 10 dM_greet_5 (by decide) ⟨by omega, by omega⟩ (fun c_5 => ?_) (fun c_5 => ?_)
  · refine r_aload_n 0 0 dM_greet_10 rfl rfl ?_
    refine r_aload_n 0 0 dM_greet_11 rfl rfl ?_
    refine r_getR (k := 7) (b := 36) fX7 rfl rfl rfl (by decide) kw_512 rfl dM_greet_12 ?_
    refine r_iload_n 1 1 dM_greet_15 rfl rfl ?_
    refine r_iaload rfl (by decide) dM_greet_16 (by omega) (by omega) rfl (fun y_16 ey_16 ly_16 uy_16 => ?_)
    refine r_iconst dM_greet_17 ?_
    refine r_ic_ne 25 dM_greet_18 (by decide) ⟨by omega, by omega⟩ ⟨by omega, by omega⟩ (fun c_18 => ?_) (fun c_18 => ?_)
    · refine r_iconst dM_greet_25 ?_
      refine r_cVV (cM_traced w 4) qM_traced rfl kw_829 rfl rfl dM_greet_26 (st0 := [zI 4, zR 33]) (st := []) rfl ⟨Nat.le_of_ble_eq_true rfl, Nat.le_of_ble_eq_true rfl⟩ ⟨Nat.le_of_ble_eq_true rfl, Nat.le_of_ble_eq_true rfl⟩ (Nat.le_of_ble_eq_true rfl) (fun w_26 h_26 ok_26 => ?_)
      refine r_aload_n 0 0 dM_greet_29 rfl rfl ?_
      refine r_getR (k := 7) (b := 36) fX7 rfl rfl rfl (by decide) kw_512 rfl dM_greet_30 ?_
      refine r_iload_n 1 1 dM_greet_33 rfl rfl ?_
      refine r_iaload rfl (by decide) dM_greet_34 (by omega) (by omega) rfl (fun y_34 ey_34 ly_34 uy_34 => ?_)
      have e33 : y_34 = w.1 36 g := (by rw [ey_34, h_26, zput_i _ _ _ _ (by decide)])
      refine r_iconst dM_greet_35 ?_
      refine r_ic_ne 44 dM_greet_36 (by decide) ⟨by omega, by omega⟩ ⟨by omega, by omega⟩ (fun c_36 => ?_) (fun c_36 => ?_)
      · refine r_iload_n 1 1 dM_greet_44 rfl rfl ?_
        refine r_iret rfl dM_greet_45 ⟨_, rfl, ?_⟩
        first | (exfalso; omega) | (have e8 : fGreetT (w.1 33 6) (w.1 36 g) (w.1 33 37) g = zTr (w.1 33 37) 5 := (by unfold fGreetT; rw [if_neg (by omega), if_pos (by omega)]); exact ⟨by unfold fGreet; (repeat' split) <;> omega, fun i k => by rw [h_26, e8, zput_e]⟩) | (have e8 : fGreetT (w.1 33 6) (w.1 36 g) (w.1 33 37) g = zTr (w.1 33 37) 4 := (by unfold fGreetT; rw [if_neg (by omega), if_neg (by omega)]); exact ⟨by unfold fGreet; (repeat' split) <;> omega, fun i k => by rw [h_26, e8, zput_e]⟩)
      · refine r_bipush dM_greet_39 (by decide) ?_
        refine r_goto 45 dM_greet_41 (by decide) ?_
        refine r_iret rfl dM_greet_45 ⟨_, rfl, ?_⟩
        first | (exfalso; omega) | (have e8 : fGreetT (w.1 33 6) (w.1 36 g) (w.1 33 37) g = zTr (w.1 33 37) 5 := (by unfold fGreetT; rw [if_neg (by omega), if_pos (by omega)]); exact ⟨by unfold fGreet; (repeat' split) <;> omega, fun i k => by rw [h_26, e8, zput_e]⟩) | (have e8 : fGreetT (w.1 33 6) (w.1 36 g) (w.1 33 37) g = zTr (w.1 33 37) 4 := (by unfold fGreetT; rw [if_neg (by omega), if_neg (by omega)]); exact ⟨by unfold fGreet; (repeat' split) <;> omega, fun i k => by rw [h_26, e8, zput_e]⟩)
    · refine r_iconst dM_greet_21 ?_
      refine r_goto 26 dM_greet_22 (by decide) ?_
      refine r_cVV (cM_traced w 5) qM_traced rfl kw_829 rfl rfl dM_greet_26 (st0 := [zI 5, zR 33]) (st := []) rfl ⟨Nat.le_of_ble_eq_true rfl, Nat.le_of_ble_eq_true rfl⟩ ⟨Nat.le_of_ble_eq_true rfl, Nat.le_of_ble_eq_true rfl⟩ (Nat.le_of_ble_eq_true rfl) (fun w_26 h_26 ok_26 => ?_)
      refine r_aload_n 0 0 dM_greet_29 rfl rfl ?_
      refine r_getR (k := 7) (b := 36) fX7 rfl rfl rfl (by decide) kw_512 rfl dM_greet_30 ?_
      refine r_iload_n 1 1 dM_greet_33 rfl rfl ?_
      refine r_iaload rfl (by decide) dM_greet_34 (by omega) (by omega) rfl (fun y_34 ey_34 ly_34 uy_34 => ?_)
      have e33 : y_34 = w.1 36 g := (by rw [ey_34, h_26, zput_i _ _ _ _ (by decide)])
      refine r_iconst dM_greet_35 ?_
      refine r_ic_ne 44 dM_greet_36 (by decide) ⟨by omega, by omega⟩ ⟨by omega, by omega⟩ (fun c_36 => ?_) (fun c_36 => ?_)
      · refine r_iload_n 1 1 dM_greet_44 rfl rfl ?_
        refine r_iret rfl dM_greet_45 ⟨_, rfl, ?_⟩
        first | (exfalso; omega) | (have e8 : fGreetT (w.1 33 6) (w.1 36 g) (w.1 33 37) g = zTr (w.1 33 37) 5 := (by unfold fGreetT; rw [if_neg (by omega), if_pos (by omega)]); exact ⟨by unfold fGreet; (repeat' split) <;> omega, fun i k => by rw [h_26, e8, zput_e]⟩) | (have e8 : fGreetT (w.1 33 6) (w.1 36 g) (w.1 33 37) g = zTr (w.1 33 37) 4 := (by unfold fGreetT; rw [if_neg (by omega), if_neg (by omega)]); exact ⟨by unfold fGreet; (repeat' split) <;> omega, fun i k => by rw [h_26, e8, zput_e]⟩)
      · refine r_bipush dM_greet_39 (by decide) ?_
        refine r_goto 45 dM_greet_41 (by decide) ?_
        refine r_iret rfl dM_greet_45 ⟨_, rfl, ?_⟩
        first | (exfalso; omega) | (have e8 : fGreetT (w.1 33 6) (w.1 36 g) (w.1 33 37) g = zTr (w.1 33 37) 5 := (by unfold fGreetT; rw [if_neg (by omega), if_pos (by omega)]); exact ⟨by unfold fGreet; (repeat' split) <;> omega, fun i k => by rw [h_26, e8, zput_e]⟩) | (have e8 : fGreetT (w.1 33 6) (w.1 36 g) (w.1 33 37) g = zTr (w.1 33 37) 4 := (by unfold fGreetT; rw [if_neg (by omega), if_neg (by omega)]); exact ⟨by unfold fGreet; (repeat' split) <;> omega, fun i k => by rw [h_26, e8, zput_e]⟩)
  · refine r_iconst dM_greet_8 ?_
    refine r_iret rfl dM_greet_9 ⟨_, rfl, ?_⟩
    have e8 : fGreetT (w.1 33 6) (w.1 36 g) (w.1 33 37) g = w.1 33 37 := (by unfold fGreetT; rw [if_pos (by omega)])
    exact ⟨by unfold fGreet; (repeat' split) <;> omega, fun i k => by rw [e8]; (repeat' split) <;> first | rfl | (rename_i q; rw [q.1, q.2])⟩

set_option maxRecDepth 20000 in
set_option maxHeartbeats 4000000 in
theorem cM_as (w : zW) (g : Int) (kind : Int) (zg : zin g) (zkind : zin kind) : zC mM_as 2 [zR 33, zI g, zI kind] w (zrI fun a w' => a = fAs (w.1 33 6) (w.1 36 g) g kind ∧ zEq w w') := by
  refine zC.of (by decide +kernel) (Nat.le_of_ble_eq_true rfl) ?_
  show zM mM_as (zZm 2 _) 0 [(0, zR 33), (1, zI g), (2, zI kind)] [] w
  refine r_aload_n 0 0 dM_as_0 rfl rfl ?_
  refine r_iload_n 1 1 dM_as_1 rfl rfl ?_
  refine r_cVI (cM_noGuest w g (by omega)) qM_noGuest rfl kw_671 rfl rfl dM_as_2 (st0 := [zI g, zR 33]) (st := []) rfl ⟨Nat.le_of_ble_eq_true rfl, Nat.le_of_ble_eq_true rfl⟩ ⟨Nat.le_of_ble_eq_true rfl, Nat.le_of_ble_eq_true rfl⟩ (Nat.le_of_ble_eq_true rfl) (fun a_2 w_2 h_2 ok_2 => ?_)
  obtain ⟨rfl, h_2⟩ := h_2
  refine r_if_eq 14 dM_as_5 (by decide) ⟨by omega, by omega⟩ (fun c_5 => ?_) (fun c_5 => ?_)
  · refine r_iload_n 2 2 dM_as_14 rfl rfl ?_
    refine r_i2l dM_as_15 ⟨by omega, by omega⟩ ?_
    refine r_lconst (v := 0) dM_as_16 rfl ?_
    refine r_ldc2 (a := 2) dM_as_17 kw_635 (by decide +kernel) ?_
    refine r_cSI (cM_in w kind 0 2 (by omega) (by omega) (by omega)) qM_in rfl kw_628 dM_as_20 (st0 := [zJ 2, zJ 0, zJ kind]) (st := []) rfl ⟨Nat.le_of_ble_eq_true rfl, Nat.le_of_ble_eq_true rfl⟩ ⟨Nat.le_of_ble_eq_true rfl, Nat.le_of_ble_eq_true rfl⟩ (Nat.le_of_ble_eq_true rfl) (fun a_20 w_20 h_20 ok_20 => ?_)
    obtain ⟨rfl, h_20⟩ := h_20
    refine r_if_ne 33 dM_as_23 (by decide) ⟨by omega, by omega⟩ (fun c_23 => ?_) (fun c_23 => ?_)
    · refine r_aload_n 0 0 dM_as_33 rfl rfl ?_
      refine r_getR (k := 7) (b := 36) fX7 rfl rfl rfl (by decide) kw_512 rfl dM_as_34 ?_
      refine r_iload_n 1 1 dM_as_37 rfl rfl ?_
      refine r_iaload rfl (by decide) dM_as_38 (by omega) (by omega) rfl (fun y_38 ey_38 ly_38 uy_38 => ?_)
      refine r_iload_n 2 2 dM_as_39 rfl rfl ?_
      refine r_ic_lt 51 dM_as_40 (by decide) ⟨by omega, by omega⟩ ⟨by omega, by omega⟩ (fun c_40 => ?_) (fun c_40 => ?_)
      · refine r_aload_n 0 0 dM_as_51 rfl rfl ?_
        refine r_iconst dM_as_52 ?_
        refine r_cVI (cM_failed w 2 (by omega) (by omega)) qM_failed rfl kw_640 rfl rfl dM_as_53 (st0 := [zI 2, zR 33]) (st := []) rfl ⟨Nat.le_of_ble_eq_true rfl, Nat.le_of_ble_eq_true rfl⟩ ⟨Nat.le_of_ble_eq_true rfl, Nat.le_of_ble_eq_true rfl⟩ (Nat.le_of_ble_eq_true rfl) (fun a_53 w_53 h_53 ok_53 => ?_)
        refine r_iret rfl dM_as_56 ⟨_, rfl, ?_⟩
        exact ⟨by unfold fAs; (repeat' split) <;> omega, (show zEq w w_53 from by rw [h_53.1]; exact (zEq.refl w).put (by decide))⟩
      · refine r_aload_n 0 0 dM_as_43 rfl rfl ?_
        refine r_iconst dM_as_44 ?_
        refine r_cVI (cM_refused w 1) qM_refused rfl kw_631 rfl rfl dM_as_45 (st0 := [zI 1, zR 33]) (st := []) rfl ⟨Nat.le_of_ble_eq_true rfl, Nat.le_of_ble_eq_true rfl⟩ ⟨Nat.le_of_ble_eq_true rfl, Nat.le_of_ble_eq_true rfl⟩ (Nat.le_of_ble_eq_true rfl) (fun a_45 w_45 h_45 ok_45 => ?_)
        refine r_goto 56 dM_as_48 (by decide) ?_
        refine r_iret rfl dM_as_56 ⟨_, rfl, ?_⟩
        exact ⟨by unfold fAs; (repeat' split) <;> omega, (show zEq w w_45 from by rw [h_45.1]; exact (zEq.refl w).put (by decide))⟩
    · refine r_aload_n 0 0 dM_as_26 rfl rfl ?_
      refine r_bipush dM_as_27 (by decide) ?_
      refine r_cVI (cM_refused w (-2)) qM_refused rfl kw_631 rfl rfl dM_as_29 (st0 := [zI (-2), zR 33]) (st := []) rfl ⟨Nat.le_of_ble_eq_true rfl, Nat.le_of_ble_eq_true rfl⟩ ⟨Nat.le_of_ble_eq_true rfl, Nat.le_of_ble_eq_true rfl⟩ (Nat.le_of_ble_eq_true rfl) (fun a_29 w_29 h_29 ok_29 => ?_)
      refine r_iret rfl dM_as_32 ⟨_, rfl, ?_⟩
      exact ⟨by unfold fAs; (repeat' split) <;> omega, (show zEq w w_29 from by rw [h_29.1]; exact (zEq.refl w).put (by decide))⟩
  · refine r_aload_n 0 0 dM_as_8 rfl rfl ?_
    refine r_iconst dM_as_9 ?_
    refine r_cVI (cM_refused w (-1)) qM_refused rfl kw_631 rfl rfl dM_as_10 (st0 := [zI (-1), zR 33]) (st := []) rfl ⟨Nat.le_of_ble_eq_true rfl, Nat.le_of_ble_eq_true rfl⟩ ⟨Nat.le_of_ble_eq_true rfl, Nat.le_of_ble_eq_true rfl⟩ (Nat.le_of_ble_eq_true rfl) (fun a_10 w_10 h_10 ok_10 => ?_)
    refine r_iret rfl dM_as_13 ⟨_, rfl, ?_⟩
    exact ⟨by unfold fAs; (repeat' split) <;> omega, (show zEq w w_10 from by rw [h_10.1]; exact (zEq.refl w).put (by decide))⟩

set_option maxRecDepth 20000 in
set_option maxHeartbeats 4000000 in
theorem cM_trace (w : zW) : zC mM_trace 0 [zR 33] w (zrI fun a w' => w = w' ∧ a = w.1 33 37) := by
  refine zC.of (by decide +kernel) (Nat.le_of_ble_eq_true rfl) ?_
  show zM mM_trace (zZm 0 _) 0 [(0, zR 33)] [] w
  refine r_aload_n 0 0 dM_trace_0 rfl rfl ?_
  refine r_getI (k := 37) fX7 rfl rfl (by decide) kw_542 rfl 37 rfl dM_trace_1 rfl (fun y_1 ey_1 ly_1 uy_1 => ?_)
  refine r_iret rfl dM_trace_4 ⟨_, rfl, ?_⟩
  exact ⟨rfl, by omega⟩

set_option maxRecDepth 20000 in
set_option maxHeartbeats 4000000 in
theorem cM_fault (w : zW) : zC mM_fault 0 [zR 33] w (zrI fun a w' => w = w' ∧ a = w.1 33 0) := by
  refine zC.of (by decide +kernel) (Nat.le_of_ble_eq_true rfl) ?_
  show zM mM_fault (zZm 0 _) 0 [(0, zR 33)] [] w
  refine r_aload_n 0 0 dM_fault_0 rfl rfl ?_
  refine r_getI (k := 0) fX7 rfl rfl (by decide) kw_505 rfl 0 rfl dM_fault_1 rfl (fun y_1 ey_1 ly_1 uy_1 => ?_)
  refine r_iret rfl dM_fault_4 ⟨_, rfl, ?_⟩
  exact ⟨rfl, by omega⟩

set_option maxRecDepth 20000 in
set_option maxHeartbeats 4000000 in
theorem cM_many (w : zW) (what : Int) (zwhat : zin what) : zC mM_many 0 [zR 33, zI what] w (zrI fun a w' => w = w' ∧ a = fMany (w.1 33 6) (w.1 33 3) (w.1 33 1) (w.1 33 2) (w.1 33 29) what) := by
  refine zC.of (by decide +kernel) (Nat.le_of_ble_eq_true rfl) ?_
  show zM mM_many (zZm 0 _) 0 [(0, zR 33), (1, zI what)] [] w
  refine r_iload_n 1 1 dM_many_0 rfl rfl ?_
  rcases (by omega : (what = 0) ∨ (what = 1) ∨ (what = 2) ∨ (what = 3) ∨ (what = 4) ∨ (what < 0 ∨ 4 < what)) with c_1 | c_1 | c_1 | c_1 | c_1 | c_1 | c_1
  · refine r_tableIn 36 dM_many_1 ⟨by omega, by omega⟩ (by omega) (by omega) (by rw [c_1] <;> rfl) (by decide) ?_
    refine r_aload_n 0 0 dM_many_36 rfl rfl ?_
    refine r_getI (k := 6) fX7 rfl rfl (by decide) kw_511 rfl 6 rfl dM_many_37 rfl (fun y_37 ey_37 ly_37 uy_37 => ?_)
    refine r_iret rfl dM_many_40 ⟨_, rfl, ?_⟩
    exact ⟨rfl, by unfold fMany; (repeat' split) <;> omega⟩
  · refine r_tableIn 41 dM_many_1 ⟨by omega, by omega⟩ (by omega) (by omega) (by rw [c_1] <;> rfl) (by decide) ?_
    refine r_aload_n 0 0 dM_many_41 rfl rfl ?_
    refine r_getI (k := 3) fX7 rfl rfl (by decide) kw_508 rfl 3 rfl dM_many_42 rfl (fun y_42 ey_42 ly_42 uy_42 => ?_)
    refine r_iret rfl dM_many_45 ⟨_, rfl, ?_⟩
    exact ⟨rfl, by unfold fMany; (repeat' split) <;> omega⟩
  · refine r_tableIn 46 dM_many_1 ⟨by omega, by omega⟩ (by omega) (by omega) (by rw [c_1] <;> rfl) (by decide) ?_
    refine r_aload_n 0 0 dM_many_46 rfl rfl ?_
    refine r_getI (k := 1) fX7 rfl rfl (by decide) kw_506 rfl 1 rfl dM_many_47 rfl (fun y_47 ey_47 ly_47 uy_47 => ?_)
    refine r_iret rfl dM_many_50 ⟨_, rfl, ?_⟩
    exact ⟨rfl, by unfold fMany; (repeat' split) <;> omega⟩
  · refine r_tableIn 51 dM_many_1 ⟨by omega, by omega⟩ (by omega) (by omega) (by rw [c_1] <;> rfl) (by decide) ?_
    refine r_aload_n 0 0 dM_many_51 rfl rfl ?_
    refine r_getI (k := 2) fX7 rfl rfl (by decide) kw_507 rfl 2 rfl dM_many_52 rfl (fun y_52 ey_52 ly_52 uy_52 => ?_)
    refine r_iret rfl dM_many_55 ⟨_, rfl, ?_⟩
    exact ⟨rfl, by unfold fMany; (repeat' split) <;> omega⟩
  · refine r_tableIn 56 dM_many_1 ⟨by omega, by omega⟩ (by omega) (by omega) (by rw [c_1] <;> rfl) (by decide) ?_
    refine r_aload_n 0 0 dM_many_56 rfl rfl ?_
    refine r_getI (k := 29) fX7 rfl rfl (by decide) kw_534 rfl 29 rfl dM_many_57 rfl (fun y_57 ey_57 ly_57 uy_57 => ?_)
    refine r_iret rfl dM_many_60 ⟨_, rfl, ?_⟩
    exact ⟨rfl, by unfold fMany; (repeat' split) <;> omega⟩
  · refine r_tableOut 61 dM_many_1 ⟨by omega, by omega⟩ (by omega) (by decide) ?_
    refine r_bipush dM_many_61 (by decide) ?_
    refine r_iret rfl dM_many_63 ⟨_, rfl, ?_⟩
    exact ⟨rfl, by unfold fMany; (repeat' split) <;> omega⟩
  · refine r_tableOut 61 dM_many_1 ⟨by omega, by omega⟩ (by omega) (by decide) ?_
    refine r_bipush dM_many_61 (by decide) ?_
    refine r_iret rfl dM_many_63 ⟨_, rfl, ?_⟩
    exact ⟨rfl, by unfold fMany; (repeat' split) <;> omega⟩

set_option maxRecDepth 20000 in
set_option maxHeartbeats 4000000 in
theorem cM_lose (w : zW) (k : Int) (zk : zin k) : zC mM_lose 2 [zR 33, zI k] w (zrI fun a w' => a = fLose (w.1 48 k) k ∧ (∀ i j, w'.1 i j = (if i = 48 ∧ j = k ∧ 0 ≤ k ∧ k < 4 then -1 else w.1 i j))) := by
  refine zC.of (by decide +kernel) (Nat.le_of_ble_eq_true rfl) ?_
  show zM mM_lose (zZm 2 _) 0 [(0, zR 33), (1, zI k)] [] w
  refine r_iload_n 1 1 dM_lose_0 rfl rfl ?_
  refine r_cSI (cM_noSheet w k (by omega)) qM_noSheet rfl kw_624 dM_lose_1 (st0 := [zI k]) (st := []) rfl ⟨Nat.le_of_ble_eq_true rfl, Nat.le_of_ble_eq_true rfl⟩ ⟨Nat.le_of_ble_eq_true rfl, Nat.le_of_ble_eq_true rfl⟩ (Nat.le_of_ble_eq_true rfl) (fun a_1 w_1 h_1 ok_1 => ?_)
  obtain ⟨rfl, h_1⟩ := h_1
  refine r_if_eq 9 dM_lose_4 (by decide) ⟨by omega, by omega⟩ (fun c_4 => ?_) (fun c_4 => ?_)
  · refine r_aload_n 0 0 dM_lose_9 rfl rfl ?_
    refine r_getR (k := 33) (b := 48) fX7 rfl rfl rfl (by decide) kw_538 rfl dM_lose_10 ?_
    refine r_iload_n 1 1 dM_lose_13 rfl rfl ?_
    refine r_iaload rfl (by decide) dM_lose_14 (by omega) (by omega) rfl (fun y_14 ey_14 ly_14 uy_14 => ?_)
    refine r_if_ge 22 dM_lose_15 (by decide) ⟨by omega, by omega⟩ (fun c_15 => ?_) (fun c_15 => ?_)
    · refine r_iconst dM_lose_22 ?_
      refine r_istore_n (ls' := [(2, zI 1), (0, zR 33), (1, zI k)]) 2 dM_lose_23 rfl (by decide) rfl ?_
      refine r_aload_n 0 1 dM_lose_24 rfl rfl ?_
      refine r_getR (k := 33) (b := 48) fX7 rfl rfl rfl (by decide) kw_538 rfl dM_lose_25 ?_
      refine r_iload_n 1 2 dM_lose_28 rfl rfl ?_
      refine r_iconst dM_lose_29 ?_
      refine r_iastore rfl (by decide) dM_lose_30 (by omega) (by omega) rfl (by omega) (by omega) (fun w_30 ew_30 => ?_)
      refine r_iload_n 2 0 dM_lose_31 rfl rfl ?_
      refine r_iret rfl dM_lose_32 ⟨_, rfl, ?_⟩
      exact ⟨by unfold fLose; (repeat' split) <;> omega, fun i j => by rw [ew_30, zput_e]; (repeat' split) <;> first | rfl | omega⟩
    · refine r_iconst dM_lose_18 ?_
      refine r_goto 23 dM_lose_19 (by decide) ?_
      refine r_istore_n (ls' := [(2, zI 0), (0, zR 33), (1, zI k)]) 2 dM_lose_23 rfl (by decide) rfl ?_
      refine r_aload_n 0 1 dM_lose_24 rfl rfl ?_
      refine r_getR (k := 33) (b := 48) fX7 rfl rfl rfl (by decide) kw_538 rfl dM_lose_25 ?_
      refine r_iload_n 1 2 dM_lose_28 rfl rfl ?_
      refine r_iconst dM_lose_29 ?_
      refine r_iastore rfl (by decide) dM_lose_30 (by omega) (by omega) rfl (by omega) (by omega) (fun w_30 ew_30 => ?_)
      refine r_iload_n 2 0 dM_lose_31 rfl rfl ?_
      refine r_iret rfl dM_lose_32 ⟨_, rfl, ?_⟩
      exact ⟨by unfold fLose; (repeat' split) <;> omega, fun i j => by rw [ew_30, zput_e]; (repeat' split) <;> first | rfl | omega⟩
  · refine r_iconst dM_lose_7 ?_
    refine r_iret rfl dM_lose_8 ⟨_, rfl, ?_⟩
    exact ⟨by unfold fLose; (repeat' split) <;> omega, fun i j => by rw [if_neg (by omega)]⟩

set_option maxRecDepth 20000 in
set_option maxHeartbeats 4000000 in
theorem cM_put (w : zW) (k : Int) (i : Int) (v : Int) (zk : zin k) (zi : zin i) (zv : zin v) : zC mM_put 2 [zR 33, zI k, zI i, zI v] w (zrI fun a w' => a = fPut (w.1 48 k) k i ∧ (∀ i' j', zkeep i' j' = true → w'.1 i' j' = (if fPut (w.1 48 k) k i = 1 ∧ i' = 50 ∧ j' = 60 * k + i then zCut (w.1 49 k) v else w.1 i' j'))) := by
  refine zC.of (by decide +kernel) (Nat.le_of_ble_eq_true rfl) ?_
  show zM mM_put (zZm 2 _) 0 [(0, zR 33), (1, zI k), (2, zI i), (3, zI v)] [] w
  refine r_ok (fun hO => ?_)
  have hL := hO 48 k
  change -1 ≤ w.1 48 k ∧ w.1 48 k ≤ 60 at hL
  refine r_iload_n 1 1 dM_put_0 rfl rfl ?_
  refine r_cSI (cM_noSheet w k (by omega)) qM_noSheet rfl kw_624 dM_put_1 (st0 := [zI k]) (st := []) rfl ⟨Nat.le_of_ble_eq_true rfl, Nat.le_of_ble_eq_true rfl⟩ ⟨Nat.le_of_ble_eq_true rfl, Nat.le_of_ble_eq_true rfl⟩ (Nat.le_of_ble_eq_true rfl) (fun a_1 w_1 h_1 ok_1 => ?_)
  obtain ⟨rfl, h_1⟩ := h_1
  refine r_if_eq 13 dM_put_4 (by decide) ⟨by omega, by omega⟩ (fun c_4 => ?_) (fun c_4 => ?_)
  · refine r_aload_n 0 0 dM_put_13 rfl rfl ?_
    refine r_iload_n 1 1 dM_put_14 rfl rfl ?_
    refine r_iload_n 2 2 dM_put_15 rfl rfl ?_
    refine r_cVI (cM_noCell w k i (by omega) (by omega) (by omega)) qM_noCell rfl kw_809 rfl rfl dM_put_16 (st0 := [zI i, zI k, zR 33]) (st := []) rfl ⟨Nat.le_of_ble_eq_true rfl, Nat.le_of_ble_eq_true rfl⟩ ⟨Nat.le_of_ble_eq_true rfl, Nat.le_of_ble_eq_true rfl⟩ (Nat.le_of_ble_eq_true rfl) (fun a_16 w_16 h_16 ok_16 => ?_)
    obtain ⟨rfl, h_16⟩ := h_16
    refine r_if_le 33 dM_put_19 (by decide) ⟨by omega, by omega⟩ (fun c_19 => ?_) (fun c_19 => ?_)
    · refine r_aload_n 0 0 dM_put_33 rfl rfl ?_
      refine r_getR (k := 35) (b := 50) fX7 rfl rfl rfl (by decide) kw_540 rfl dM_put_34 ?_
      refine r_bipush dM_put_37 (by decide) ?_
      refine r_iload_n 1 1 dM_put_39 rfl rfl ?_
      refine r_imul dM_put_40 ?_
      refine r_iload_n 2 2 dM_put_41 rfl rfl ?_
      refine r_iadd dM_put_42 ?_
      refine r_aload_n 0 0 dM_put_43 rfl rfl ?_
      refine r_getR (k := 34) (b := 49) fX7 rfl rfl rfl (by decide) kw_539 rfl dM_put_44 ?_
      refine r_iload_n 1 1 dM_put_47 rfl rfl ?_
      refine r_iaload rfl (by decide) dM_put_48 (by omega) (by omega) rfl (fun y_48 ey_48 ly_48 uy_48 => ?_)
      have J_73 : ∀ (c9 : Int) (hc9 : c9 = zCut (w.1 49 k) v), zM mM_put (zZm 2 (zrI fun a w' => a = fPut (w.1 48 k) k i ∧ (∀ i' j', zkeep i' j' = true → w'.1 i' j' = (if fPut (w.1 48 k) k i = 1 ∧ i' = 50 ∧ j' = 60 * k + i then zCut (w.1 49 k) v else w.1 i' j')))) 73 [(0, zR 33), (1, zI k), (2, zI i), (3, zI v)] [zI c9, zI ((60 * k) + i), zR 50] w := by
        intro c9 hc9
        refine r_iastore rfl (by decide) dM_put_73 (by omega) (by omega) rfl (by have := (zCut_in (lane := w.1 49 k) zv).1; omega) (by have := (zCut_in (lane := w.1 49 k) zv).2; omega) (fun w_73 ew_73 => ?_)
        refine r_aload_n 0 0 dM_put_74 rfl rfl ?_
        refine r_iconst dM_put_75 ?_
        refine r_cVI (cM_refused w_73 1) qM_refused rfl kw_631 rfl rfl dM_put_76 (st0 := [zI 1, zR 33]) (st := []) rfl ⟨Nat.le_of_ble_eq_true rfl, Nat.le_of_ble_eq_true rfl⟩ ⟨Nat.le_of_ble_eq_true rfl, Nat.le_of_ble_eq_true rfl⟩ (Nat.le_of_ble_eq_true rfl) (fun a_76 w_76 h_76 ok_76 => ?_)
        refine r_iret rfl dM_put_79 ⟨_, rfl, ?_⟩
        have e9 : fPut (w.1 48 k) k i = 1 := (by unfold fPut; rw [if_neg (by omega)]; (repeat' split at h_16) <;> (repeat' split) <;> omega)
        exact ⟨by rw [e9]; omega, fun i' j' hk' => by rw [e9, h_76.1, zput_e, if_neg (fun q => by rw [q.1, q.2] at hk'; revert hk'; decide), ew_73, zput_e]; (repeat' split) <;> first | (exact hc9) | rfl | omega⟩
      refine r_if_ne 57 dM_put_49 (by decide) ⟨by omega, by omega⟩ (fun c_49 => ?_) (fun c_49 => ?_)
      · refine r_aload_n 0 0 dM_put_57 rfl rfl ?_
        refine r_getR (k := 34) (b := 49) fX7 rfl rfl rfl (by decide) kw_539 rfl dM_put_58 ?_
        refine r_iload_n 1 1 dM_put_61 rfl rfl ?_
        refine r_iaload rfl (by decide) dM_put_62 (by omega) (by omega) rfl (fun y_62 ey_62 ly_62 uy_62 => ?_)
        refine r_iconst dM_put_63 ?_
        refine r_ic_ne 72 dM_put_64 (by decide) ⟨by omega, by omega⟩ ⟨by omega, by omega⟩ (fun c_64 => ?_) (fun c_64 => ?_)
        · refine r_iload_n 3 3 dM_put_72 rfl rfl ?_
          exact J_73 v (by unfold zCut; (repeat' split) <;> first | rfl | omega)
        · refine r_iload_n 3 3 dM_put_67 rfl rfl ?_
          refine r_i2s dM_put_68 ?_
          refine r_goto 73 dM_put_69 (by decide) ?_
          exact J_73 (zi2s v) (by unfold zCut; (repeat' split) <;> first | rfl | omega)
      · refine r_iload_n 3 3 dM_put_52 rfl rfl ?_
        refine r_i2b dM_put_53 ?_
        refine r_goto 73 dM_put_54 (by decide) ?_
        exact J_73 (zi2b v) (by unfold zCut; (repeat' split) <;> first | rfl | omega)
    · refine r_aload_n 0 0 dM_put_22 rfl rfl ?_
      refine r_aload_n 0 0 dM_put_23 rfl rfl ?_
      refine r_iload_n 1 1 dM_put_24 rfl rfl ?_
      refine r_iload_n 2 2 dM_put_25 rfl rfl ?_
      refine r_cVI (cM_noCell w k i (by omega) (by omega) (by omega)) qM_noCell rfl kw_809 rfl rfl dM_put_26 (st0 := [zI i, zI k, zR 33, zR 33]) (st := [zR 33]) rfl ⟨Nat.le_of_ble_eq_true rfl, Nat.le_of_ble_eq_true rfl⟩ ⟨Nat.le_of_ble_eq_true rfl, Nat.le_of_ble_eq_true rfl⟩ (Nat.le_of_ble_eq_true rfl) (fun a_26 w_26 h_26 ok_26 => ?_)
      obtain ⟨rfl, h_26⟩ := h_26
      refine r_cVI (cM_failed w a_26 (by omega) (by omega)) qM_failed rfl kw_640 rfl rfl dM_put_29 (st0 := [zI a_26, zR 33]) (st := []) rfl ⟨Nat.le_of_ble_eq_true rfl, Nat.le_of_ble_eq_true rfl⟩ ⟨Nat.le_of_ble_eq_true rfl, Nat.le_of_ble_eq_true rfl⟩ (Nat.le_of_ble_eq_true rfl) (fun a_29 w_29 h_29 ok_29 => ?_)
      refine r_iret rfl dM_put_32 ⟨_, rfl, ?_⟩
      have e9 : fPut (w.1 48 k) k i = (-10 - a_26) := (by unfold fPut; (repeat' split) <;> omega)
      exact ⟨by first | (rw [e9]; omega) | rw [e9], fun i' j' hk' => by rw [e9, if_neg (by omega)]; exact (show zEq w w_29 from by rw [h_29.1]; exact (zEq.refl w).put (by decide)) i' j' hk'⟩
  · refine r_aload_n 0 0 dM_put_7 rfl rfl ?_
    refine r_iconst dM_put_8 ?_
    refine r_cVI (cM_refused w (-1)) qM_refused rfl kw_631 rfl rfl dM_put_9 (st0 := [zI (-1), zR 33]) (st := []) rfl ⟨Nat.le_of_ble_eq_true rfl, Nat.le_of_ble_eq_true rfl⟩ ⟨Nat.le_of_ble_eq_true rfl, Nat.le_of_ble_eq_true rfl⟩ (Nat.le_of_ble_eq_true rfl) (fun a_9 w_9 h_9 ok_9 => ?_)
    refine r_iret rfl dM_put_12 ⟨_, rfl, ?_⟩
    have e9 : fPut (w.1 48 k) k i = -1 := (by unfold fPut; (repeat' split) <;> omega)
    exact ⟨by first | (rw [e9]; omega) | rw [e9], fun i' j' hk' => by rw [e9, if_neg (by omega)]; exact (show zEq w w_9 from by rw [h_9.1]; exact (zEq.refl w).put (by decide)) i' j' hk'⟩
