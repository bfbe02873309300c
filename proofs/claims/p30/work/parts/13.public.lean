set_option maxRecDepth 20000 in
set_option maxHeartbeats 4000000 in
theorem cC_ofGuest (w : zW) (g : Int) (what : Int) (zg : zin g) (zwhat : zin what) : zC mC_ofGuest 1 [zR 0, zI g, zI what] w (zrI fun a w' => w = w' ∧ a = fOfGuest (w.1 1 3) (w.1 9 g) (w.1 10 g) (w.1 11 g) g what) := by
  refine zC.of (by decide +kernel) (Nat.le_of_ble_eq_true rfl) ?_
  show zM mC_ofGuest (zZm 1 _) 0 [(0, zR 0), (1, zI g), (2, zI what)] [] w
  refine r_aload_n 0 0 dC_ofGuest_0 rfl rfl ?_
  refine r_getR (k := 0) (b := 1) fX6 rfl rfl rfl (by decide) kw_187 rfl dC_ofGuest_1 ?_
  refine r_iload_n 1 1 dC_ofGuest_4 rfl rfl ?_
  refine r_cVIN (cH_isGuest w g (by omega)) qH_isGuest rfl kw_266 rfl rfl dC_ofGuest_5 (st0 := [zI g, zR 1]) (st := []) rfl ⟨Nat.le_of_ble_eq_true rfl, Nat.le_of_ble_eq_true rfl⟩ ⟨Nat.le_of_ble_eq_true rfl, Nat.le_of_ble_eq_true rfl⟩ (Nat.le_of_ble_eq_true rfl) (fun a_5 w_5 h_5 ok_5 => ?_)
  obtain ⟨rfl, h_5⟩ := h_5
  refine r_if_ne 13 dC_ofGuest_8 (by decide) ⟨by omega, by omega⟩ (fun c_8 => ?_) (fun c_8 => ?_)
  · refine r_iload_n 2 2 dC_ofGuest_13 rfl rfl ?_
    rcases (by omega : (what = 0) ∨ (what = 1) ∨ (what = 2) ∨ (what < 0 ∨ 2 < what)) with c_14 | c_14 | c_14 | c_14 | c_14
    · refine r_tableIn 40 dC_ofGuest_14 ⟨by omega, by omega⟩ (by omega) (by omega) (by rw [c_14] <;> rfl) (by decide) ?_
      refine r_aload_n 0 0 dC_ofGuest_40 rfl rfl ?_
      refine r_getR (k := 0) (b := 1) fX6 rfl rfl rfl (by decide) kw_187 rfl dC_ofGuest_41 ?_
      refine r_getRN (k := 6) (b := 9) fX0 rfl rfl rfl (by decide) kw_43 rfl dC_ofGuest_44 ?_
      refine r_iload_n 1 1 dC_ofGuest_47 rfl rfl ?_
      refine r_iaload rfl (by decide) dC_ofGuest_48 (by omega) (by omega) rfl (fun y_48 ey_48 ly_48 uy_48 => ?_)
      refine r_iret rfl dC_ofGuest_49 ⟨_, rfl, ?_⟩
      exact ⟨rfl, by unfold fOfGuest; (repeat' split) <;> omega⟩
    · refine r_tableIn 50 dC_ofGuest_14 ⟨by omega, by omega⟩ (by omega) (by omega) (by rw [c_14] <;> rfl) (by decide) ?_
      refine r_aload_n 0 0 dC_ofGuest_50 rfl rfl ?_
      refine r_getR (k := 0) (b := 1) fX6 rfl rfl rfl (by decide) kw_187 rfl dC_ofGuest_51 ?_
      refine r_getRN (k := 7) (b := 10) fX0 rfl rfl rfl (by decide) kw_45 rfl dC_ofGuest_54 ?_
      refine r_iload_n 1 1 dC_ofGuest_57 rfl rfl ?_
      refine r_iaload rfl (by decide) dC_ofGuest_58 (by omega) (by omega) rfl (fun y_58 ey_58 ly_58 uy_58 => ?_)
      refine r_iret rfl dC_ofGuest_59 ⟨_, rfl, ?_⟩
      exact ⟨rfl, by unfold fOfGuest; (repeat' split) <;> omega⟩
    · refine r_tableIn 60 dC_ofGuest_14 ⟨by omega, by omega⟩ (by omega) (by omega) (by rw [c_14] <;> rfl) (by decide) ?_
      refine r_aload_n 0 0 dC_ofGuest_60 rfl rfl ?_
      refine r_getR (k := 0) (b := 1) fX6 rfl rfl rfl (by decide) kw_187 rfl dC_ofGuest_61 ?_
      refine r_getRN (k := 8) (b := 11) fX0 rfl rfl rfl (by decide) kw_47 rfl dC_ofGuest_64 ?_
      refine r_iload_n 1 1 dC_ofGuest_67 rfl rfl ?_
      refine r_iaload rfl (by decide) dC_ofGuest_68 (by omega) (by omega) rfl (fun y_68 ey_68 ly_68 uy_68 => ?_)
      refine r_iret rfl dC_ofGuest_69 ⟨_, rfl, ?_⟩
      exact ⟨rfl, by unfold fOfGuest; (repeat' split) <;> omega⟩
    · refine r_tableOut 70 dC_ofGuest_14 ⟨by omega, by omega⟩ (by omega) (by decide) ?_
      refine r_bipush dC_ofGuest_70 (by decide) ?_
      refine r_iret rfl dC_ofGuest_72 ⟨_, rfl, ?_⟩
      exact ⟨rfl, by unfold fOfGuest; (repeat' split) <;> omega⟩
    · refine r_tableOut 70 dC_ofGuest_14 ⟨by omega, by omega⟩ (by omega) (by decide) ?_
      refine r_bipush dC_ofGuest_70 (by decide) ?_
      refine r_iret rfl dC_ofGuest_72 ⟨_, rfl, ?_⟩
      exact ⟨rfl, by unfold fOfGuest; (repeat' split) <;> omega⟩
  · refine r_iconst dC_ofGuest_11 ?_
    refine r_iret rfl dC_ofGuest_12 ⟨_, rfl, ?_⟩
    exact ⟨rfl, by unfold fOfGuest; (repeat' split) <;> omega⟩

set_option maxRecDepth 20000 in
set_option maxHeartbeats 4000000 in
theorem cC_ofDoing (w : zW) (d : Int) (what : Int) (zd : zin d) (zwhat : zin what) : zC mC_ofDoing 3 [zR 0, zI d, zI what] w (zrI fun a w' => w = w' ∧ a = fOfGuest (w.1 1 2) (w.1 7 d) (w.1 8 d) (zWC w d) d what) := by
  refine zC.of (by decide +kernel) (Nat.le_of_ble_eq_true rfl) ?_
  show zM mC_ofDoing (zZm 3 _) 0 [(0, zR 0), (1, zI d), (2, zI what)] [] w
  refine r_aload_n 0 0 dC_ofDoing_0 rfl rfl ?_
  refine r_getR (k := 0) (b := 1) fX6 rfl rfl rfl (by decide) kw_187 rfl dC_ofDoing_1 ?_
  refine r_iload_n 1 1 dC_ofDoing_4 rfl rfl ?_
  refine r_cVIN (cH_isDoing w d (by omega)) qH_isDoing rfl kw_274 rfl rfl dC_ofDoing_5 (st0 := [zI d, zR 1]) (st := []) rfl ⟨Nat.le_of_ble_eq_true rfl, Nat.le_of_ble_eq_true rfl⟩ ⟨Nat.le_of_ble_eq_true rfl, Nat.le_of_ble_eq_true rfl⟩ (Nat.le_of_ble_eq_true rfl) (fun a_5 w_5 h_5 ok_5 => ?_)
  obtain ⟨rfl, h_5⟩ := h_5
  refine r_if_ne 13 dC_ofDoing_8 (by decide) ⟨by omega, by omega⟩ (fun c_8 => ?_) (fun c_8 => ?_)
  · refine r_iload_n 2 2 dC_ofDoing_13 rfl rfl ?_
    rcases (by omega : (what = 0) ∨ (what = 1) ∨ (what = 2) ∨ (what < 0 ∨ 2 < what)) with c_14 | c_14 | c_14 | c_14 | c_14
    · refine r_tableIn 40 dC_ofDoing_14 ⟨by omega, by omega⟩ (by omega) (by omega) (by rw [c_14] <;> rfl) (by decide) ?_
      refine r_aload_n 0 0 dC_ofDoing_40 rfl rfl ?_
      refine r_getR (k := 0) (b := 1) fX6 rfl rfl rfl (by decide) kw_187 rfl dC_ofDoing_41 ?_
      refine r_getRN (k := 4) (b := 7) fX0 rfl rfl rfl (by decide) kw_37 rfl dC_ofDoing_44 ?_
      refine r_iload_n 1 1 dC_ofDoing_47 rfl rfl ?_
      refine r_iaload rfl (by decide) dC_ofDoing_48 (by omega) (by omega) rfl (fun y_48 ey_48 ly_48 uy_48 => ?_)
      refine r_iret rfl dC_ofDoing_49 ⟨_, rfl, ?_⟩
      exact ⟨rfl, by unfold fOfGuest; (repeat' split) <;> omega⟩
    · refine r_tableIn 50 dC_ofDoing_14 ⟨by omega, by omega⟩ (by omega) (by omega) (by rw [c_14] <;> rfl) (by decide) ?_
      refine r_aload_n 0 0 dC_ofDoing_50 rfl rfl ?_
      refine r_getR (k := 0) (b := 1) fX6 rfl rfl rfl (by decide) kw_187 rfl dC_ofDoing_51 ?_
      refine r_getRN (k := 5) (b := 8) fX0 rfl rfl rfl (by decide) kw_41 rfl dC_ofDoing_54 ?_
      refine r_iload_n 1 1 dC_ofDoing_57 rfl rfl ?_
      refine r_iaload rfl (by decide) dC_ofDoing_58 (by omega) (by omega) rfl (fun y_58 ey_58 ly_58 uy_58 => ?_)
      refine r_iret rfl dC_ofDoing_59 ⟨_, rfl, ?_⟩
      exact ⟨rfl, by unfold fOfGuest; (repeat' split) <;> omega⟩
    · refine r_tableIn 60 dC_ofDoing_14 ⟨by omega, by omega⟩ (by omega) (by omega) (by rw [c_14] <;> rfl) (by decide) ?_
      refine r_aload_n 0 0 dC_ofDoing_60 rfl rfl ?_
      refine r_getR (k := 0) (b := 1) fX6 rfl rfl rfl (by decide) kw_187 rfl dC_ofDoing_61 ?_
      refine r_iload_n 1 1 dC_ofDoing_64 rfl rfl ?_
      refine r_cVIN (cH_wonBy w d (by omega) (by omega)) qH_wonBy rfl kw_278 rfl rfl dC_ofDoing_65 (st0 := [zI d, zR 1]) (st := []) rfl ⟨Nat.le_of_ble_eq_true rfl, Nat.le_of_ble_eq_true rfl⟩ ⟨Nat.le_of_ble_eq_true rfl, Nat.le_of_ble_eq_true rfl⟩ (Nat.le_of_ble_eq_true rfl) (fun a_65 w_65 h_65 ok_65 => ?_)
      obtain ⟨rfl, h_65⟩ := h_65
      refine r_iret rfl dC_ofDoing_68 ⟨_, rfl, ?_⟩
      exact ⟨rfl, by unfold fOfGuest; (repeat' split) <;> omega⟩
    · refine r_tableOut 69 dC_ofDoing_14 ⟨by omega, by omega⟩ (by omega) (by decide) ?_
      refine r_bipush dC_ofDoing_69 (by decide) ?_
      refine r_iret rfl dC_ofDoing_71 ⟨_, rfl, ?_⟩
      exact ⟨rfl, by unfold fOfGuest; (repeat' split) <;> omega⟩
    · refine r_tableOut 69 dC_ofDoing_14 ⟨by omega, by omega⟩ (by omega) (by decide) ?_
      refine r_bipush dC_ofDoing_69 (by decide) ?_
      refine r_iret rfl dC_ofDoing_71 ⟨_, rfl, ?_⟩
      exact ⟨rfl, by unfold fOfGuest; (repeat' split) <;> omega⟩
  · refine r_iconst dC_ofDoing_11 ?_
    refine r_iret rfl dC_ofDoing_12 ⟨_, rfl, ?_⟩
    exact ⟨rfl, by unfold fOfGuest; (repeat' split) <;> omega⟩

set_option maxRecDepth 20000 in
set_option maxHeartbeats 4000000 in
theorem cC_strict (w : zW) (v : Int) (zv : zin v) : zC mC_strict 1 [zR 0, zI v] w (zrI fun a w' => a = fStrict (w.1 1 3) (w.1 1 1) v ∧ ∀ i k, w'.1 i k = (if i = 1 ∧ k = 1 ∧ 1 ≤ v ∧ v ≤ 9 ∧ 0 < w.1 1 3 then v else w.1 i k)) := by
  refine zC.of (by decide +kernel) (Nat.le_of_ble_eq_true rfl) ?_
  show zM mC_strict (zZm 1 _) 0 [(0, zR 0), (1, zI v)] [] w
  refine r_iload_n 1 1 dC_strict_0 rfl rfl ?_
  refine r_iconst dC_strict_1 ?_
  refine r_ic_lt 11 dC_strict_2 (by decide) ⟨by omega, by omega⟩ ⟨by omega, by omega⟩ (fun c_2 => ?_) (fun c_2 => ?_)
  · refine r_bipush dC_strict_11 (by decide) ?_
    refine r_iret rfl dC_strict_13 ⟨_, rfl, ?_⟩
    exact ⟨by unfold fStrict; (repeat' split) <;> omega, fun i k => by rw [if_neg (by omega)]⟩
  · refine r_iload_n 1 1 dC_strict_5 rfl rfl ?_
    refine r_bipush dC_strict_6 (by decide) ?_
    refine r_ic_le 14 dC_strict_8 (by decide) ⟨by omega, by omega⟩ ⟨by omega, by omega⟩ (fun c_8 => ?_) (fun c_8 => ?_)
    · refine r_aload_n 0 0 dC_strict_14 rfl rfl ?_
      refine r_getR (k := 0) (b := 1) fX6 rfl rfl rfl (by decide) kw_187 rfl dC_strict_15 ?_
      refine r_cVIN (cH_isOpen w) qH_isOpen rfl kw_294 rfl rfl dC_strict_18 (st0 := [zR 1]) (st := []) rfl ⟨Nat.le_of_ble_eq_true rfl, Nat.le_of_ble_eq_true rfl⟩ ⟨Nat.le_of_ble_eq_true rfl, Nat.le_of_ble_eq_true rfl⟩ (Nat.le_of_ble_eq_true rfl) (fun a_18 w_18 h_18 ok_18 => ?_)
      obtain ⟨rfl, h_18⟩ := h_18
      refine r_if_ne 27 dC_strict_21 (by decide) ⟨by omega, by omega⟩ (fun c_21 => ?_) (fun c_21 => ?_)
      · refine r_aload_n 0 0 dC_strict_27 rfl rfl ?_
        refine r_getR (k := 0) (b := 1) fX6 rfl rfl rfl (by decide) kw_187 rfl dC_strict_28 ?_
        refine r_getIN (k := 1) fX0 rfl rfl (by decide) kw_29 rfl 1 rfl dC_strict_31 rfl (fun y_31 ey_31 ly_31 uy_31 => ?_)
        refine r_istore_n (ls' := [(2, zI y_31), (0, zR 0), (1, zI v)]) 2 dC_strict_34 rfl (by decide) rfl ?_
        refine r_aload_n 0 1 dC_strict_35 rfl rfl ?_
        refine r_getR (k := 0) (b := 1) fX6 rfl rfl rfl (by decide) kw_187 rfl dC_strict_36 ?_
        refine r_iload_n 1 2 dC_strict_39 rfl rfl ?_
        refine r_putIN (k := 1) fX0 rfl rfl (by decide) kw_29 rfl rfl (by decide +kernel) 1 rfl dC_strict_40 rfl (by omega) (by omega) (fun w_40 ew_40 => ?_)
        refine r_iload_n 2 0 dC_strict_43 rfl rfl ?_
        refine r_iret rfl dC_strict_44 ⟨_, rfl, ?_⟩
        exact ⟨by unfold fStrict; (repeat' split) <;> omega, fun i k => by rw [ew_40, zput_e]; (repeat' split) <;> first | rfl | omega⟩
      · refine r_bipush dC_strict_24 (by decide) ?_
        refine r_iret rfl dC_strict_26 ⟨_, rfl, ?_⟩
        exact ⟨by unfold fStrict; (repeat' split) <;> omega, fun i k => by rw [if_neg (by omega)]⟩
    · refine r_bipush dC_strict_11 (by decide) ?_
      refine r_iret rfl dC_strict_13 ⟨_, rfl, ?_⟩
      exact ⟨by unfold fStrict; (repeat' split) <;> omega, fun i k => by rw [if_neg (by omega)]⟩

set_option maxRecDepth 20000 in
set_option maxHeartbeats 4000000 in
theorem cC_stars (w : zW) (v : Int) (zv : zin v) : zC mC_stars 1 [zR 0, zI v] w (zrI fun a w' => a = fStars (w.1 1 3) (w.1 1 0) v ∧ ∀ i k, w'.1 i k = (if i = 1 ∧ k = 0 ∧ 0 ≤ v ∧ v ≤ 5 ∧ 0 < w.1 1 3 then v else w.1 i k)) := by
  refine zC.of (by decide +kernel) (Nat.le_of_ble_eq_true rfl) ?_
  show zM mC_stars (zZm 1 _) 0 [(0, zR 0), (1, zI v)] [] w
  refine r_iload_n 1 1 dC_stars_0 rfl rfl ?_
  refine r_cSI (cC_isStars w v (by omega)) qC_isStars rfl kw_302 dC_stars_1 (st0 := [zI v]) (st := []) rfl ⟨Nat.le_of_ble_eq_true rfl, Nat.le_of_ble_eq_true rfl⟩ ⟨Nat.le_of_ble_eq_true rfl, Nat.le_of_ble_eq_true rfl⟩ (Nat.le_of_ble_eq_true rfl) (fun a_1 w_1 h_1 ok_1 => ?_)
  obtain ⟨rfl, h_1⟩ := h_1
  refine r_if_ne 10 dC_stars_4 (by decide) ⟨by omega, by omega⟩ (fun c_4 => ?_) (fun c_4 => ?_)
  · refine r_aload_n 0 0 dC_stars_10 rfl rfl ?_
    refine r_getR (k := 0) (b := 1) fX6 rfl rfl rfl (by decide) kw_187 rfl dC_stars_11 ?_
    refine r_cVIN (cH_isOpen w) qH_isOpen rfl kw_294 rfl rfl dC_stars_14 (st0 := [zR 1]) (st := []) rfl ⟨Nat.le_of_ble_eq_true rfl, Nat.le_of_ble_eq_true rfl⟩ ⟨Nat.le_of_ble_eq_true rfl, Nat.le_of_ble_eq_true rfl⟩ (Nat.le_of_ble_eq_true rfl) (fun a_14 w_14 h_14 ok_14 => ?_)
    obtain ⟨rfl, h_14⟩ := h_14
    refine r_if_ne 23 dC_stars_17 (by decide) ⟨by omega, by omega⟩ (fun c_17 => ?_) (fun c_17 => ?_)
    · refine r_aload_n 0 0 dC_stars_23 rfl rfl ?_
      refine r_getR (k := 0) (b := 1) fX6 rfl rfl rfl (by decide) kw_187 rfl dC_stars_24 ?_
      refine r_getIN (k := 0) fX0 rfl rfl (by decide) kw_27 rfl 0 rfl dC_stars_27 rfl (fun y_27 ey_27 ly_27 uy_27 => ?_)
      refine r_istore_n (ls' := [(2, zI y_27), (0, zR 0), (1, zI v)]) 2 dC_stars_30 rfl (by decide) rfl ?_
      refine r_aload_n 0 1 dC_stars_31 rfl rfl ?_
      refine r_getR (k := 0) (b := 1) fX6 rfl rfl rfl (by decide) kw_187 rfl dC_stars_32 ?_
      refine r_iload_n 1 2 dC_stars_35 rfl rfl ?_
      refine r_putIN (k := 0) fX0 rfl rfl (by decide) kw_27 rfl rfl (by decide +kernel) 0 rfl dC_stars_36 rfl (by omega) (by omega) (fun w_36 ew_36 => ?_)
      refine r_iload_n 2 0 dC_stars_39 rfl rfl ?_
      refine r_iret rfl dC_stars_40 ⟨_, rfl, ?_⟩
      exact ⟨by unfold fStars; (repeat' split) <;> omega, fun i k => by rw [ew_36, zput_e]; (repeat' split) <;> first | rfl | omega⟩
    · refine r_bipush dC_stars_20 (by decide) ?_
      refine r_iret rfl dC_stars_22 ⟨_, rfl, ?_⟩
      exact ⟨by unfold fStars; (repeat' split) <;> omega, fun i k => by rw [if_neg (by omega)]⟩
  · refine r_bipush dC_stars_7 (by decide) ?_
    refine r_iret rfl dC_stars_9 ⟨_, rfl, ?_⟩
    exact ⟨by unfold fStars; (repeat' split) <;> omega, fun i k => by rw [if_neg (by omega)]⟩

set_option maxRecDepth 20000 in
set_option maxHeartbeats 4000000 in
theorem cC_pleased (w : zW) (g : Int) (d : Int) (zg : zin g) (zd : zin d) : zC mC_pleased 1 [zR 0, zI g, zI d] w (zrI fun a w' => w = w' ∧ a = fPleased (w.1 1 3) (w.1 1 2) (zPC w g d) g d) := by
  refine zC.of (by decide +kernel) (Nat.le_of_ble_eq_true rfl) ?_
  show zM mC_pleased (zZm 1 _) 0 [(0, zR 0), (1, zI g), (2, zI d)] [] w
  refine r_aload_n 0 0 dC_pleased_0 rfl rfl ?_
  refine r_getR (k := 0) (b := 1) fX6 rfl rfl rfl (by decide) kw_187 rfl dC_pleased_1 ?_
  refine r_iload_n 1 1 dC_pleased_4 rfl rfl ?_
  refine r_cVIN (cH_isGuest w g (by omega)) qH_isGuest rfl kw_266 rfl rfl dC_pleased_5 (st0 := [zI g, zR 1]) (st := []) rfl ⟨Nat.le_of_ble_eq_true rfl, Nat.le_of_ble_eq_true rfl⟩ ⟨Nat.le_of_ble_eq_true rfl, Nat.le_of_ble_eq_true rfl⟩ (Nat.le_of_ble_eq_true rfl) (fun a_5 w_5 h_5 ok_5 => ?_)
  obtain ⟨rfl, h_5⟩ := h_5
  refine r_if_eq 22 dC_pleased_8 (by decide) ⟨by omega, by omega⟩ (fun c_8 => ?_) (fun c_8 => ?_)
  · refine r_iconst dC_pleased_22 ?_
    refine r_iret rfl dC_pleased_23 ⟨_, rfl, ?_⟩
    exact ⟨rfl, by unfold fPleased; (repeat' split) <;> omega⟩
  · refine r_aload_n 0 0 dC_pleased_11 rfl rfl ?_
    refine r_getR (k := 0) (b := 1) fX6 rfl rfl rfl (by decide) kw_187 rfl dC_pleased_12 ?_
    refine r_iload_n 2 2 dC_pleased_15 rfl rfl ?_
    refine r_cVIN (cH_isDoing w d (by omega)) qH_isDoing rfl kw_274 rfl rfl dC_pleased_16 (st0 := [zI d, zR 1]) (st := []) rfl ⟨Nat.le_of_ble_eq_true rfl, Nat.le_of_ble_eq_true rfl⟩ ⟨Nat.le_of_ble_eq_true rfl, Nat.le_of_ble_eq_true rfl⟩ (Nat.le_of_ble_eq_true rfl) (fun a_16 w_16 h_16 ok_16 => ?_)
    obtain ⟨rfl, h_16⟩ := h_16
    refine r_if_ne 24 dC_pleased_19 (by decide) ⟨by omega, by omega⟩ (fun c_19 => ?_) (fun c_19 => ?_)
    · refine r_aload_n 0 0 dC_pleased_24 rfl rfl ?_
      refine r_getR (k := 0) (b := 1) fX6 rfl rfl rfl (by decide) kw_187 rfl dC_pleased_25 ?_
      refine r_iload_n 1 1 dC_pleased_28 rfl rfl ?_
      refine r_iload_n 2 2 dC_pleased_29 rfl rfl ?_
      refine r_cVIN (cH_pleasure w g d (by omega) (by omega) (by omega) (by omega)) qH_pleasure rfl kw_309 rfl rfl dC_pleased_30 (st0 := [zI d, zI g, zR 1]) (st := []) rfl ⟨Nat.le_of_ble_eq_true rfl, Nat.le_of_ble_eq_true rfl⟩ ⟨Nat.le_of_ble_eq_true rfl, Nat.le_of_ble_eq_true rfl⟩ (Nat.le_of_ble_eq_true rfl) (fun a_30 w_30 h_30 ok_30 => ?_)
      obtain ⟨rfl, h_30⟩ := h_30
      refine r_iret rfl dC_pleased_33 ⟨_, rfl, ?_⟩
      exact ⟨rfl, by unfold fPleased; (repeat' split) <;> omega⟩
    · refine r_iconst dC_pleased_22 ?_
      refine r_iret rfl dC_pleased_23 ⟨_, rfl, ?_⟩
      exact ⟨rfl, by unfold fPleased; (repeat' split) <;> omega⟩

set_option maxRecDepth 20000 in
set_option maxHeartbeats 4000000 in
theorem cC_dull (w : zW) (g : Int) (zg : zin g) : zC mC_dull 1 [zR 0, zI g] w (zrI fun a w' => w = w' ∧ a = (if g < 0 ∨ w.1 1 3 ≤ g then -1 else (zDul (fun d => zPC w g d) (w.1 1 1) (w.1 1 2).toNat).1)) := by
  refine zC.of (by decide +kernel) (Nat.le_of_ble_eq_true rfl) ?_
  show zM mC_dull (zZm 1 _) 0 [(0, zR 0), (1, zI g)] [] w
  refine r_ok (fun hO => ?_)
  have hDs := hO 1 2
  change 0 ≤ w.1 1 2 ∧ w.1 1 2 ≤ 4 at hDs
  refine r_aload_n 0 0 dC_dull_0 rfl rfl ?_
  refine r_getR (k := 0) (b := 1) fX6 rfl rfl rfl (by decide) kw_187 rfl dC_dull_1 ?_
  refine r_iload_n 1 1 dC_dull_4 rfl rfl ?_
  refine r_cVIN (cH_isGuest w g (by omega)) qH_isGuest rfl kw_266 rfl rfl dC_dull_5 (st0 := [zI g, zR 1]) (st := []) rfl ⟨Nat.le_of_ble_eq_true rfl, Nat.le_of_ble_eq_true rfl⟩ ⟨Nat.le_of_ble_eq_true rfl, Nat.le_of_ble_eq_true rfl⟩ (Nat.le_of_ble_eq_true rfl) (fun a_5 w_5 h_5 ok_5 => ?_)
  obtain ⟨rfl, h_5⟩ := h_5
  refine r_if_ne 13 dC_dull_8 (by decide) ⟨by omega, by omega⟩ (fun c_8 => ?_) (fun c_8 => ?_)
  · refine r_bipush dC_dull_13 (by decide) ?_
    refine r_istore_n (ls' := [(2, zI (-9)), (0, zR 0), (1, zI g)]) 2 dC_dull_15 rfl (by decide) rfl ?_
    refine r_iconst dC_dull_16 ?_
    refine r_istore_n (ls' := [(3, zI (-1)), (2, zI (-9)), (0, zR 0), (1, zI g)]) 3 dC_dull_17 rfl (by decide) rfl ?_
    refine r_iconst dC_dull_18 ?_
    refine r_istore (ls' := [(4, zI 0), (3, zI (-1)), (2, zI (-9)), (0, zR 0), (1, zI g)]) 4 dC_dull_19 (by decide) rfl ?_
    have L_21 : ∀ (n_21 : Nat) (best : Int) (most : Int) (i : Int) (hi0 : 0 ≤ i) (hi1 : i ≤ w.1 1 2) (hm : -1 ≤ most ∧ most ≤ 21) (hz : zDul (fun d => zPC w g d) (w.1 1 1) i.toNat = (best, most)), w.1 1 2 - i < (n_21 : Int) → zM mC_dull (zZm 1 (zrI fun a w' => w = w' ∧ a = (if g < 0 ∨ w.1 1 3 ≤ g then -1 else (zDul (fun d => zPC w g d) (w.1 1 1) (w.1 1 2).toNat).1))) 21 [(4, zI i), (3, zI most), (2, zI best), (0, zR 0), (1, zI g)] [] w := by
      intro n_21
      induction n_21 with
      | zero => intro best most i hi0 hi1 hm hz hm_21; exfalso; omega
      | succ n_21 ih_21 =>
        intro best most i hi0 hi1 hm hz hm_21
        refine r_iload 4 0 dC_dull_21 rfl ?_
        refine r_aload_n 0 3 dC_dull_23 rfl rfl ?_
        refine r_getR (k := 0) (b := 1) fX6 rfl rfl rfl (by decide) kw_187 rfl dC_dull_24 ?_
        refine r_getIN (k := 2) fX0 rfl rfl (by decide) kw_32 rfl 2 rfl dC_dull_27 rfl (fun y_27 ey_27 ly_27 uy_27 => ?_)
        refine r_ic_ge 75 dC_dull_30 (by decide) ⟨by omega, by omega⟩ ⟨by omega, by omega⟩ (fun c_30 => ?_) (fun c_30 => ?_)
        · refine r_iload_n 2 2 dC_dull_75 rfl rfl ?_
          refine r_iret rfl dC_dull_76 ⟨_, rfl, ?_⟩
          exact ⟨rfl, by rw [if_neg (by omega), show (w.1 1 2).toNat = i.toNat by omega, hz]⟩
        · refine r_aload_n 0 3 dC_dull_33 rfl rfl ?_
          refine r_getR (k := 0) (b := 1) fX6 rfl rfl rfl (by decide) kw_187 rfl dC_dull_34 ?_
          refine r_iload_n 1 4 dC_dull_37 rfl rfl ?_
          refine r_iload 4 0 dC_dull_38 rfl ?_
          refine r_cVIN (cH_pleasure w g i (by omega) (by omega) (by omega) (by omega)) qH_pleasure rfl kw_309 rfl rfl dC_dull_40 (st0 := [zI i, zI g, zR 1]) (st := []) rfl ⟨Nat.le_of_ble_eq_true rfl, Nat.le_of_ble_eq_true rfl⟩ ⟨Nat.le_of_ble_eq_true rfl, Nat.le_of_ble_eq_true rfl⟩ (Nat.le_of_ble_eq_true rfl) (fun a_40 w_40 h_40 ok_40 => ?_)
          obtain ⟨rfl, h_40⟩ := h_40
          refine r_istore (ls' := [(5, zI a_40), (4, zI i), (3, zI most), (2, zI best), (0, zR 0), (1, zI g)]) 5 dC_dull_43 (by decide) rfl ?_
          refine r_iload 5 0 dC_dull_45 rfl ?_
          refine r_aload_n 0 4 dC_dull_47 rfl rfl ?_
          refine r_getR (k := 0) (b := 1) fX6 rfl rfl rfl (by decide) kw_187 rfl dC_dull_48 ?_
          refine r_getIN (k := 1) fX0 rfl rfl (by decide) kw_29 rfl 1 rfl dC_dull_51 rfl (fun y_51 ey_51 ly_51 uy_51 => ?_)
          refine r_ic_ge 69 dC_dull_54 (by decide) ⟨by omega, by omega⟩ ⟨by omega, by omega⟩ (fun c_54 => ?_) (fun c_54 => ?_)
          · refine r_iinc (ls' := [(4, zI (i + 1)), (5, zI a_40), (3, zI most), (2, zI best), (0, zR 0), (1, zI g)]) 4 1 dC_dull_69 rfl (by decide) rfl ?_
            refine r_goto 21 dC_dull_72 (by decide) ?_
            refine r_sub (ls' := [(4, zI (i + 1)), (3, zI most), (2, zI best), (0, zR 0), (1, zI g)]) [0, 2, 3, 4, 5] rfl ?_
            exact ih_21 best most (i + 1) (by omega) (by omega) (by omega) (by rw [zDul_s _ _ hi0, hz]; show (if zPC w g i < _ ∧ most < zPC w g i then (i, zPC w g i) else _) = _; first | (rw [if_pos (by omega), ← h_40.1]) | rw [if_neg (by omega)]) (by omega)
          · refine r_iload 5 0 dC_dull_57 rfl ?_
            refine r_iload_n 3 2 dC_dull_59 rfl rfl ?_
            refine r_ic_le 69 dC_dull_60 (by decide) ⟨by omega, by omega⟩ ⟨by omega, by omega⟩ (fun c_60 => ?_) (fun c_60 => ?_)
            · refine r_iinc (ls' := [(4, zI (i + 1)), (5, zI a_40), (3, zI most), (2, zI best), (0, zR 0), (1, zI g)]) 4 1 dC_dull_69 rfl (by decide) rfl ?_
              refine r_goto 21 dC_dull_72 (by decide) ?_
              refine r_sub (ls' := [(4, zI (i + 1)), (3, zI most), (2, zI best), (0, zR 0), (1, zI g)]) [0, 2, 3, 4, 5] rfl ?_
              exact ih_21 best most (i + 1) (by omega) (by omega) (by omega) (by rw [zDul_s _ _ hi0, hz]; show (if zPC w g i < _ ∧ most < zPC w g i then (i, zPC w g i) else _) = _; first | (rw [if_pos (by omega), ← h_40.1]) | rw [if_neg (by omega)]) (by omega)
            · refine r_iload 5 0 dC_dull_63 rfl ?_
              refine r_istore_n (ls' := [(3, zI a_40), (5, zI a_40), (4, zI i), (2, zI best), (0, zR 0), (1, zI g)]) 3 dC_dull_65 rfl (by decide) rfl ?_
              refine r_iload 4 2 dC_dull_66 rfl ?_
              refine r_istore_n (ls' := [(2, zI i), (3, zI a_40), (5, zI a_40), (4, zI i), (0, zR 0), (1, zI g)]) 2 dC_dull_68 rfl (by decide) rfl ?_
              refine r_iinc (ls' := [(4, zI (i + 1)), (2, zI i), (3, zI a_40), (5, zI a_40), (0, zR 0), (1, zI g)]) 4 3 dC_dull_69 rfl (by decide) rfl ?_
              refine r_goto 21 dC_dull_72 (by decide) ?_
              refine r_sub (ls' := [(4, zI (i + 1)), (3, zI a_40), (2, zI i), (0, zR 0), (1, zI g)]) [0, 2, 1, 4, 5] rfl ?_
              exact ih_21 i a_40 (i + 1) (by omega) (by omega) (by omega) (by rw [zDul_s _ _ hi0, hz]; show (if zPC w g i < _ ∧ most < zPC w g i then (i, zPC w g i) else _) = _; first | (rw [if_pos (by omega), ← h_40.1]) | rw [if_neg (by omega)]) (by omega)
    exact L_21 100 (-9) (-1) 0 (by omega) (by omega) (by omega) rfl (by omega)
  · refine r_iconst dC_dull_11 ?_
    refine r_iret rfl dC_dull_12 ⟨_, rfl, ?_⟩
    exact ⟨rfl, by rw [if_pos (by omega)]⟩

set_option maxRecDepth 20000 in
set_option maxHeartbeats 4000000 in
theorem cC_reading (w : zW) (g : Int) (d : Int) (b : Int) (zg : zin g) (zd : zin d) (hb : b = 0 ∨ b = 1) : zC mC_reading 1 [zR 0, zI g, zI d, zI b] w (zrI fun a w' => a = fReading (w.1 1 3) (w.1 1 2) (w.1 6 3) g d ∧ ∀ i k, w'.1 i k = (if 0 ≤ g ∧ g < w.1 1 3 ∧ 0 ≤ d ∧ d < w.1 1 2 ∧ w.1 6 3 < 8 then (if i = 6 ∧ k = 3 then w.1 6 3 + 1 else if i = 32 ∧ k = w.1 6 3 then b else if i = 31 ∧ k = w.1 6 3 then d else if i = 30 ∧ k = w.1 6 3 then g else w.1 i k) else w.1 i k)) := by
  refine zC.of (by decide +kernel) (Nat.le_of_ble_eq_true rfl) ?_
  show zM mC_reading (zZm 1 _) 0 [(0, zR 0), (1, zI g), (2, zI d), (3, zI b)] [] w
  refine r_aload_n 0 0 dC_reading_0 rfl rfl ?_
  refine r_getR (k := 0) (b := 1) fX6 rfl rfl rfl (by decide) kw_187 rfl dC_reading_1 ?_
  refine r_iload_n 1 1 dC_reading_4 rfl rfl ?_
  refine r_cVIN (cH_isGuest w g (by omega)) qH_isGuest rfl kw_266 rfl rfl dC_reading_5 (st0 := [zI g, zR 1]) (st := []) rfl ⟨Nat.le_of_ble_eq_true rfl, Nat.le_of_ble_eq_true rfl⟩ ⟨Nat.le_of_ble_eq_true rfl, Nat.le_of_ble_eq_true rfl⟩ (Nat.le_of_ble_eq_true rfl) (fun a_5 w_5 h_5 ok_5 => ?_)
  obtain ⟨rfl, h_5⟩ := h_5
  refine r_if_eq 22 dC_reading_8 (by decide) ⟨by omega, by omega⟩ (fun c_8 => ?_) (fun c_8 => ?_)
  · refine r_iconst dC_reading_22 ?_
    refine r_iret rfl dC_reading_23 ⟨_, rfl, ?_⟩
    exact ⟨by unfold fReading; (repeat' split) <;> omega, fun i k => by rw [if_neg (by omega)]⟩
  · refine r_aload_n 0 0 dC_reading_11 rfl rfl ?_
    refine r_getR (k := 0) (b := 1) fX6 rfl rfl rfl (by decide) kw_187 rfl dC_reading_12 ?_
    refine r_iload_n 2 2 dC_reading_15 rfl rfl ?_
    refine r_cVIN (cH_isDoing w d (by omega)) qH_isDoing rfl kw_274 rfl rfl dC_reading_16 (st0 := [zI d, zR 1]) (st := []) rfl ⟨Nat.le_of_ble_eq_true rfl, Nat.le_of_ble_eq_true rfl⟩ ⟨Nat.le_of_ble_eq_true rfl, Nat.le_of_ble_eq_true rfl⟩ (Nat.le_of_ble_eq_true rfl) (fun a_16 w_16 h_16 ok_16 => ?_)
    obtain ⟨rfl, h_16⟩ := h_16
    refine r_if_ne 24 dC_reading_19 (by decide) ⟨by omega, by omega⟩ (fun c_19 => ?_) (fun c_19 => ?_)
    · refine r_aload_n 0 0 dC_reading_24 rfl rfl ?_
      refine r_getR (k := 5) (b := 6) fX6 rfl rfl rfl (by decide) kw_192 rfl dC_reading_25 ?_
      refine r_getIN (k := 3) fX1 rfl rfl (by decide) kw_177 rfl 3 rfl dC_reading_28 rfl (fun y_28 ey_28 ly_28 uy_28 => ?_)
      refine r_bipush dC_reading_31 (by decide) ?_
      refine r_ic_lt 39 dC_reading_33 (by decide) ⟨by omega, by omega⟩ ⟨by omega, by omega⟩ (fun c_33 => ?_) (fun c_33 => ?_)
      · refine r_aload_n 0 0 dC_reading_39 rfl rfl ?_
        refine r_getR (k := 5) (b := 6) fX6 rfl rfl rfl (by decide) kw_192 rfl dC_reading_40 ?_
        refine r_iload_n 1 1 dC_reading_43 rfl rfl ?_
        refine r_iload_n 2 2 dC_reading_44 rfl rfl ?_
        refine r_iload_n 3 3 dC_reading_45 rfl rfl ?_
        refine r_cVIN (cL_add w g d b (by omega) (by omega) (by omega) (by omega) (by omega) (by omega)) qL_add rfl kw_384 rfl rfl dC_reading_46 (st0 := [zI b, zI d, zI g, zR 6]) (st := []) rfl ⟨Nat.le_of_ble_eq_true rfl, Nat.le_of_ble_eq_true rfl⟩ ⟨Nat.le_of_ble_eq_true rfl, Nat.le_of_ble_eq_true rfl⟩ (Nat.le_of_ble_eq_true rfl) (fun a_46 w_46 h_46 ok_46 => ?_)
        refine r_iret rfl dC_reading_49 ⟨_, rfl, ?_⟩
        exact ⟨by unfold fReading; (repeat' split) <;> omega, fun i k => by rw [h_46.1, if_pos (by omega), zput_e, zput_e, zput_e, zput_e]⟩
      · refine r_bipush dC_reading_36 (by decide) ?_
        refine r_iret rfl dC_reading_38 ⟨_, rfl, ?_⟩
        exact ⟨by unfold fReading; (repeat' split) <;> omega, fun i k => by rw [if_neg (by omega)]⟩
    · refine r_iconst dC_reading_22 ?_
      refine r_iret rfl dC_reading_23 ⟨_, rfl, ?_⟩
      exact ⟨by unfold fReading; (repeat' split) <;> omega, fun i k => by rw [if_neg (by omega)]⟩

set_option maxRecDepth 20000 in
set_option maxHeartbeats 4000000 in
theorem cC_back (w : zW) (k : Int) (zk : zin k) : zC mC_back 0 [zR 0, zI k] w (zrI fun a w' => a = fBack (w.1 6 3) k ∧ (∀ i j, w'.1 i j = (if i = 6 ∧ j = 3 ∧ 0 ≤ k ∧ k ≤ w.1 6 3 then w.1 6 3 - k else w.1 i j))) := by
  refine zC.of (by decide +kernel) (Nat.le_of_ble_eq_true rfl) ?_
  show zM mC_back (zZm 0 _) 0 [(0, zR 0), (1, zI k)] [] w
  refine r_iload_n 1 1 dC_back_0 rfl rfl ?_
  refine r_if_lt 15 dC_back_1 (by decide) ⟨by omega, by omega⟩ (fun c_1 => ?_) (fun c_1 => ?_)
  · refine r_bipush dC_back_15 (by decide) ?_
    refine r_iret rfl dC_back_17 ⟨_, rfl, ?_⟩
    exact ⟨by unfold fBack; (repeat' split) <;> omega, fun i j => by rw [if_neg (by omega)]⟩
  · refine r_iload_n 1 1 dC_back_4 rfl rfl ?_
    refine r_aload_n 0 0 dC_back_5 rfl rfl ?_
    refine r_getR (k := 5) (b := 6) fX6 rfl rfl rfl (by decide) kw_192 rfl dC_back_6 ?_
    refine r_getIN (k := 3) fX1 rfl rfl (by decide) kw_177 rfl 3 rfl dC_back_9 rfl (fun y_9 ey_9 ly_9 uy_9 => ?_)
    refine r_ic_le 18 dC_back_12 (by decide) ⟨by omega, by omega⟩ ⟨by omega, by omega⟩ (fun c_12 => ?_) (fun c_12 => ?_)
    · refine r_aload_n 0 0 dC_back_18 rfl rfl ?_
      refine r_getR (k := 5) (b := 6) fX6 rfl rfl rfl (by decide) kw_192 rfl dC_back_19 ?_
      refine r_dup dC_back_22 rfl ?_
      refine r_getIN (k := 3) fX1 rfl rfl (by decide) kw_177 rfl 3 rfl dC_back_23 rfl (fun y_23 ey_23 ly_23 uy_23 => ?_)
      refine r_iload_n 1 1 dC_back_26 rfl rfl ?_
      refine r_isub dC_back_27 ?_
      refine r_putIN (k := 3) fX1 rfl rfl (by decide) kw_177 rfl rfl (by decide +kernel) 3 rfl dC_back_28 rfl (by omega) (by omega) (fun w_28 ew_28 => ?_)
      refine r_aload_n 0 0 dC_back_31 rfl rfl ?_
      refine r_getR (k := 5) (b := 6) fX6 rfl rfl rfl (by decide) kw_192 rfl dC_back_32 ?_
      refine r_getIN (k := 3) fX1 rfl rfl (by decide) kw_177 rfl 3 rfl dC_back_35 rfl (fun y_35 ey_35 ly_35 uy_35 => ?_)
      rw [ew_28, zput_s] at ey_35
      refine r_iret rfl dC_back_38 ⟨_, rfl, ?_⟩
      exact ⟨by unfold fBack; (repeat' split) <;> omega, fun i j => by rw [ew_28, zput_e]; (repeat' split) <;> omega⟩
    · refine r_bipush dC_back_15 (by decide) ?_
      refine r_iret rfl dC_back_17 ⟨_, rfl, ?_⟩
      exact ⟨by unfold fBack; (repeat' split) <;> omega, fun i j => by rw [if_neg (by omega)]⟩

set_option maxRecDepth 20000 in
set_option maxHeartbeats 4000000 in
theorem cC_limits (w : zW) : zC mC_limits 3 [zR 0] w (zrI fun a w' => w = w' ∧ a = (if w.1 1 3 = 0 then -3 else zSet (fun v => decide (1 ≤ v) && zSoC (zput w 1 1 v)) 10)) := by
  refine zC.of (by decide +kernel) (Nat.le_of_ble_eq_true rfl) ?_
  show zM mC_limits (zZm 3 _) 0 [(0, zR 0)] [] w
  refine r_aload_n 0 0 dC_limits_0 rfl rfl ?_
  refine r_getR (k := 0) (b := 1) fX6 rfl rfl rfl (by decide) kw_187 rfl dC_limits_1 ?_
  refine r_cVIN (cH_isOpen w) qH_isOpen rfl kw_294 rfl rfl dC_limits_4 (st0 := [zR 1]) (st := []) rfl ⟨Nat.le_of_ble_eq_true rfl, Nat.le_of_ble_eq_true rfl⟩ ⟨Nat.le_of_ble_eq_true rfl, Nat.le_of_ble_eq_true rfl⟩ (Nat.le_of_ble_eq_true rfl) (fun a_4 w_4 h_4 ok_4 => ?_)
  obtain ⟨rfl, h_4⟩ := h_4
  refine r_if_ne 13 dC_limits_7 (by decide) ⟨by omega, by omega⟩ (fun c_7 => ?_) (fun c_7 => ?_)
  · refine r_aload_n 0 0 dC_limits_13 rfl rfl ?_
    refine r_getR (k := 0) (b := 1) fX6 rfl rfl rfl (by decide) kw_187 rfl dC_limits_14 ?_
    refine r_getIN (k := 1) fX0 rfl rfl (by decide) kw_29 rfl 1 rfl dC_limits_17 rfl (fun y_17 ey_17 ly_17 uy_17 => ?_)
    refine r_istore_n (ls' := [(1, zI y_17), (0, zR 0)]) 1 dC_limits_20 rfl (by decide) rfl ?_
    refine r_iconst dC_limits_21 ?_
    refine r_istore_n (ls' := [(2, zI 0), (1, zI y_17), (0, zR 0)]) 2 dC_limits_22 rfl (by decide) rfl ?_
    refine r_iconst dC_limits_23 ?_
    refine r_istore_n (ls' := [(3, zI 1), (2, zI 0), (1, zI y_17), (0, zR 0)]) 3 dC_limits_24 rfl (by decide) rfl ?_
    have L_25 : ∀ (n_25 : Nat) (set : Int) (v : Int) (wl : zW) (hv0 : 1 ≤ v) (hv1 : v ≤ 10) (hw : ∀ i k, ¬ (i = 1 ∧ k = 1) → wl.1 i k = w.1 i k) (hw2 : wl.2 = w.2) (hs : set = zSet (fun v => decide (1 ≤ v) && zSoC (zput w 1 1 v)) v.toNat), 10 - v < (n_25 : Int) → zM mC_limits (zZm 3 (zrI fun a w' => w = w' ∧ a = (if w.1 1 3 = 0 then -3 else zSet (fun v => decide (1 ≤ v) && zSoC (zput w 1 1 v)) 10))) 25 [(3, zI v), (2, zI set), (1, zI y_17), (0, zR 0)] [] wl := by
      intro n_25
      induction n_25 with
      | zero => intro set v wl hv0 hv1 hw hw2 hs hm_25; exfalso; omega
      | succ n_25 ih_25 =>
        intro set v wl hv0 hv1 hw hw2 hs hm_25
        refine r_iload_n 3 0 dC_limits_25 rfl rfl ?_
        refine r_bipush dC_limits_26 (by decide) ?_
        refine r_ic_gt 65 dC_limits_28 (by decide) ⟨by omega, by omega⟩ ⟨by omega, by omega⟩ (fun c_28 => ?_) (fun c_28 => ?_)
        · refine r_aload_n 0 3 dC_limits_65 rfl rfl ?_
          refine r_getR (k := 0) (b := 1) fX6 rfl rfl rfl (by decide) kw_187 rfl dC_limits_66 ?_
          refine r_iload_n 1 2 dC_limits_69 rfl rfl ?_
          refine r_putIN (k := 1) fX0 rfl rfl (by decide) kw_29 rfl rfl (by decide +kernel) 1 rfl dC_limits_70 rfl (by omega) (by omega) (fun w_70 ew_70 => ?_)
          refine r_iload_n 2 1 dC_limits_73 rfl rfl ?_
          refine r_iret rfl dC_limits_74 ⟨_, rfl, ?_⟩
          exact ⟨zext (fun i k => by rw [ew_70, zput_e]; split; (rename_i q; rw [q.1, q.2]; omega); exact (hw i k (by assumption)).symm) (by rw [ew_70]; exact hw2.symm), by rw [if_neg (by omega), hs, show v.toNat = 10 by omega]⟩
        · refine r_aload_n 0 3 dC_limits_31 rfl rfl ?_
          refine r_getR (k := 0) (b := 1) fX6 rfl rfl rfl (by decide) kw_187 rfl dC_limits_32 ?_
          refine r_iload_n 3 0 dC_limits_35 rfl rfl ?_
          refine r_putIN (k := 1) fX0 rfl rfl (by decide) kw_29 rfl rfl (by decide +kernel) 1 rfl dC_limits_36 rfl (by omega) (by omega) (fun w_36 ew_36 => ?_)
          refine r_aload_n 0 3 dC_limits_39 rfl rfl ?_
          refine r_getR (k := 5) (b := 6) fX6 rfl rfl rfl (by decide) kw_192 rfl dC_limits_40 ?_
          refine r_aload_n 0 3 dC_limits_43 rfl rfl ?_
          refine r_getR (k := 0) (b := 1) fX6 rfl rfl rfl (by decide) kw_187 rfl dC_limits_44 ?_
          refine r_cVIN (cL_isSo w_36) qL_isSo rfl kw_396 rfl rfl dC_limits_47 (st0 := [zR 1, zR 6]) (st := []) rfl ⟨Nat.le_of_ble_eq_true rfl, Nat.le_of_ble_eq_true rfl⟩ ⟨Nat.le_of_ble_eq_true rfl, Nat.le_of_ble_eq_true rfl⟩ (Nat.le_of_ble_eq_true rfl) (fun a_47 w_47 h_47 ok_47 => ?_)
          obtain ⟨rfl, h_47⟩ := h_47
          refine r_if_eq 59 dC_limits_50 (by decide) ⟨by omega, by omega⟩ (fun c_50 => ?_) (fun c_50 => ?_)
          · refine r_iinc (ls' := [(3, zI (v + 1)), (2, zI set), (1, zI y_17), (0, zR 0)]) 3 0 dC_limits_59 rfl (by decide) rfl ?_
            refine r_goto 25 dC_limits_62 (by decide) ?_
            exact ih_25 set (v + 1) w_36 (by omega) (by omega) (fun i k q => by rw [ew_36, zput_e, if_neg q]; exact hw i k q) (by rw [ew_36]; exact hw2) (by have e9 : w_36 = zput w 1 1 v := zext (fun i k => by rw [ew_36, zput_e, zput_e]; split; rfl; exact hw i k (by assumption)) (by rw [ew_36]; exact hw2); rw [zSet_s _ (by omega), ← e9, decide_eq_true hv0, Bool.true_and]; rcases h_47 with ⟨q1, q2⟩ | ⟨q1, q2⟩; all_goals (rw [q1]; first | omega | (rw [← hs]; first | (simp; done) | (simp; assumption) | rfl))) (by omega)
          · refine r_iload_n 2 1 dC_limits_53 rfl rfl ?_
            refine r_iconst dC_limits_54 ?_
            refine r_iload_n 3 0 dC_limits_55 rfl rfl ?_
            refine r_ishl dC_limits_56 ?_
            refine r_ior dC_limits_57 ?_
            refine r_nmI (fun x_58 ex_58 => ?_)
            refine r_istore_n (ls' := [(2, zI x_58), (3, zI v), (1, zI y_17), (0, zR 0)]) 2 dC_limits_58 rfl (by decide) rfl ?_
            refine r_iinc (ls' := [(3, zI (v + 1)), (2, zI x_58), (1, zI y_17), (0, zR 0)]) 3 1 dC_limits_59 rfl (by decide) rfl ?_
            refine r_goto 25 dC_limits_62 (by decide) ?_
            exact ih_25 x_58 (v + 1) w_36 (by omega) (by omega) (fun i k q => by rw [ew_36, zput_e, if_neg q]; exact hw i k q) (by rw [ew_36]; exact hw2) (by have e9 : w_36 = zput w 1 1 v := zext (fun i k => by rw [ew_36, zput_e, zput_e]; split; rfl; exact hw i k (by assumption)) (by rw [ew_36]; exact hw2); rw [zSet_s _ (by omega), ← e9, decide_eq_true hv0, Bool.true_and]; rcases h_47 with ⟨q1, q2⟩ | ⟨q1, q2⟩; all_goals (rw [q1]; first | omega | (rw [← hs]; first | (simp; done) | (simp; assumption) | rfl))) (by omega)
    exact L_25 100 0 1 w (by omega) (by omega) (fun _ _ _ => rfl) rfl (by show (0 : Int) = zSet _ 1; simp [zSet]) (by omega)
  · refine r_bipush dC_limits_10 (by decide) ?_
    refine r_iret rfl dC_limits_12 ⟨_, rfl, ?_⟩
    exact ⟨rfl, by rw [if_pos (by omega)]⟩

set_option maxRecDepth 20000 in
set_option maxHeartbeats 4000000 in
theorem cC_fitting (w : zW) (r : Nat) (p : Int) (e : Int) (N : Nat) (hi : Int) (hS : zS r = .inl (0, N)) (hN : N < 2147483648) (hB : ∀ k, zB r k = (0, hi)) (hp0 : 0 ≤ p) (hp1 : p < N) (he0 : 0 ≤ e) (he1 : e ≤ hi + 1) (he2 : e ≤ 10) (hh : hi ≤ 9) : zC mC_fitting 3 [zR 0, zR r, zI p, zI e] w (zrI fun a w' => w = w' ∧ a = zSet (fun v => zSoC (zput w r p v)) e.toNat) := by
  refine zC.of (by decide +kernel) (Nat.le_of_ble_eq_true rfl) ?_
  show zM mC_fitting (zZm 3 _) 0 [(0, zR 0), (1, zR r), (2, zI p), (3, zI e)] [] w
  refine r_aload_n 1 1 dC_fitting_0 rfl rfl ?_
  refine r_iload_n 2 2 dC_fitting_1 rfl rfl ?_
  refine r_iaload hS hN dC_fitting_2 (by omega) (by omega) (hB _) (fun y_2 ey_2 ly_2 uy_2 => ?_)
  refine r_istore (ls' := [(4, zI y_2), (0, zR 0), (1, zR r), (2, zI p), (3, zI e)]) 4 dC_fitting_3 (by decide) rfl ?_
  refine r_iconst dC_fitting_5 ?_
  refine r_istore (ls' := [(5, zI 0), (4, zI y_2), (0, zR 0), (1, zR r), (2, zI p), (3, zI e)]) 5 dC_fitting_6 (by decide) rfl ?_
  refine r_iconst dC_fitting_8 ?_
  refine r_istore (ls' := [(6, zI 0), (5, zI 0), (4, zI y_2), (0, zR 0), (1, zR r), (2, zI p), (3, zI e)]) 6 dC_fitting_9 (by decide) rfl ?_
  have L_11 : ∀ (n_11 : Nat) (set : Int) (v : Int) (wl : zW) (hv0 : 0 ≤ v) (hv1 : v ≤ e) (hw : ∀ i k, ¬ (i = r ∧ k = p) → wl.1 i k = w.1 i k) (hw2 : wl.2 = w.2) (hs : set = zSet (fun v => zSoC (zput w r p v)) v.toNat), e - v < (n_11 : Int) → zM mC_fitting (zZm 3 (zrI fun a w' => w = w' ∧ a = zSet (fun v => zSoC (zput w r p v)) e.toNat)) 11 [(6, zI v), (5, zI set), (4, zI y_2), (0, zR 0), (1, zR r), (2, zI p), (3, zI e)] [] wl := by
    intro n_11
    induction n_11 with
    | zero => intro set v wl hv0 hv1 hw hw2 hs hm_11; exfalso; omega
    | succ n_11 ih_11 =>
      intro set v wl hv0 hv1 hw hw2 hs hm_11
      refine r_iload 6 0 dC_fitting_11 rfl ?_
      refine r_iload_n 3 6 dC_fitting_13 rfl rfl ?_
      refine r_ic_ge 51 dC_fitting_14 (by decide) ⟨by omega, by omega⟩ ⟨by omega, by omega⟩ (fun c_14 => ?_) (fun c_14 => ?_)
      · refine r_aload_n 1 4 dC_fitting_51 rfl rfl ?_
        refine r_iload_n 2 5 dC_fitting_52 rfl rfl ?_
        refine r_iload 4 2 dC_fitting_53 rfl ?_
        refine r_iastore hS hN dC_fitting_55 (by omega) (by omega) (hB _) (by omega) (by omega) (fun w_55 ew_55 => ?_)
        refine r_iload 5 1 dC_fitting_56 rfl ?_
        refine r_iret rfl dC_fitting_58 ⟨_, rfl, ?_⟩
        exact ⟨zext (fun i k => by rw [ew_55, zput_e]; split; (rename_i q; rw [q.1, q.2]; omega); exact (hw i k (by assumption)).symm) (by rw [ew_55]; exact hw2.symm), by rw [hs, show v.toNat = e.toNat by omega]⟩
      · refine r_aload_n 1 4 dC_fitting_17 rfl rfl ?_
        refine r_iload_n 2 5 dC_fitting_18 rfl rfl ?_
        refine r_iload 6 0 dC_fitting_19 rfl ?_
        refine r_iastore hS hN dC_fitting_21 (by omega) (by omega) (hB _) (by omega) (by omega) (fun w_21 ew_21 => ?_)
        refine r_aload_n 0 3 dC_fitting_22 rfl rfl ?_
        refine r_getR (k := 5) (b := 6) fX6 rfl rfl rfl (by decide) kw_192 rfl dC_fitting_23 ?_
        refine r_aload_n 0 3 dC_fitting_26 rfl rfl ?_
        refine r_getR (k := 0) (b := 1) fX6 rfl rfl rfl (by decide) kw_187 rfl dC_fitting_27 ?_
        refine r_cVIN (cL_isSo w_21) qL_isSo rfl kw_396 rfl rfl dC_fitting_30 (st0 := [zR 1, zR 6]) (st := []) rfl ⟨Nat.le_of_ble_eq_true rfl, Nat.le_of_ble_eq_true rfl⟩ ⟨Nat.le_of_ble_eq_true rfl, Nat.le_of_ble_eq_true rfl⟩ (Nat.le_of_ble_eq_true rfl) (fun a_30 w_30 h_30 ok_30 => ?_)
        obtain ⟨rfl, h_30⟩ := h_30
        refine r_if_eq 45 dC_fitting_33 (by decide) ⟨by omega, by omega⟩ (fun c_33 => ?_) (fun c_33 => ?_)
        · refine r_iinc (ls' := [(6, zI (v + 1)), (5, zI set), (4, zI y_2), (0, zR 0), (1, zR r), (2, zI p), (3, zI e)]) 6 0 dC_fitting_45 rfl (by decide) rfl ?_
          refine r_goto 11 dC_fitting_48 (by decide) ?_
          exact ih_11 set (v + 1) w_21 (by omega) (by omega) (fun i k q => by rw [ew_21, zput_e, if_neg q]; exact hw i k q) (by rw [ew_21]; exact hw2) (by have e9 : w_21 = zput w r p v := zext (fun i k => by rw [ew_21, zput_e, zput_e]; split; rfl; exact hw i k (by assumption)) (by rw [ew_21]; exact hw2); rw [zSet_s _ (by omega), ← e9]; rcases h_30 with ⟨q1, q2⟩ | ⟨q1, q2⟩; all_goals (rw [q1]; first | omega | (rw [← hs]; first | (simp; done) | (simp; assumption) | rfl))) (by omega)
        · refine r_iload 5 1 dC_fitting_36 rfl ?_
          refine r_iconst dC_fitting_38 ?_
          refine r_iload 6 0 dC_fitting_39 rfl ?_
          refine r_ishl dC_fitting_41 ?_
          refine r_ior dC_fitting_42 ?_
          refine r_nmI (fun x_43 ex_43 => ?_)
          refine r_istore (ls' := [(5, zI x_43), (6, zI v), (4, zI y_2), (0, zR 0), (1, zR r), (2, zI p), (3, zI e)]) 5 dC_fitting_43 (by decide) rfl ?_
          refine r_iinc (ls' := [(6, zI (v + 1)), (5, zI x_43), (4, zI y_2), (0, zR 0), (1, zR r), (2, zI p), (3, zI e)]) 6 1 dC_fitting_45 rfl (by decide) rfl ?_
          refine r_goto 11 dC_fitting_48 (by decide) ?_
          exact ih_11 x_43 (v + 1) w_21 (by omega) (by omega) (fun i k q => by rw [ew_21, zput_e, if_neg q]; exact hw i k q) (by rw [ew_21]; exact hw2) (by have e9 : w_21 = zput w r p v := zext (fun i k => by rw [ew_21, zput_e, zput_e]; split; rfl; exact hw i k (by assumption)) (by rw [ew_21]; exact hw2); rw [zSet_s _ (by omega), ← e9]; rcases h_30 with ⟨q1, q2⟩ | ⟨q1, q2⟩; all_goals (rw [q1]; first | omega | (rw [← hs]; first | (simp; done) | (simp; assumption) | rfl))) (by omega)
  exact L_11 100 0 0 w (by omega) (by omega) (fun _ _ _ => rfl) rfl rfl (by omega)

set_option maxRecDepth 20000 in
set_option maxHeartbeats 4000000 in
theorem cC_kinds (w : zW) (g : Int) (zg : zin g) : zC mC_kinds 4 [zR 0, zI g] w (zrI fun a w' => w = w' ∧ a = (if g < 0 ∨ w.1 1 3 ≤ g then -1 else zSet (fun v => zSoC (zput w 9 g v)) 3)) := by
  refine zC.of (by decide +kernel) (Nat.le_of_ble_eq_true rfl) ?_
  show zM mC_kinds (zZm 4 _) 0 [(0, zR 0), (1, zI g)] [] w
  refine r_aload_n 0 0 dC_kinds_0 rfl rfl ?_
  refine r_getR (k := 0) (b := 1) fX6 rfl rfl rfl (by decide) kw_187 rfl dC_kinds_1 ?_
  refine r_iload_n 1 1 dC_kinds_4 rfl rfl ?_
  refine r_cVIN (cH_isGuest w g (by omega)) qH_isGuest rfl kw_266 rfl rfl dC_kinds_5 (st0 := [zI g, zR 1]) (st := []) rfl ⟨Nat.le_of_ble_eq_true rfl, Nat.le_of_ble_eq_true rfl⟩ ⟨Nat.le_of_ble_eq_true rfl, Nat.le_of_ble_eq_true rfl⟩ (Nat.le_of_ble_eq_true rfl) (fun a_5 w_5 h_5 ok_5 => ?_)
  obtain ⟨rfl, h_5⟩ := h_5
  refine r_if_ne 13 dC_kinds_8 (by decide) ⟨by omega, by omega⟩ (fun c_8 => ?_) (fun c_8 => ?_)
  · refine r_aload_n 0 0 dC_kinds_13 rfl rfl ?_
    refine r_aload_n 0 0 dC_kinds_14 rfl rfl ?_
    refine r_getR (k := 0) (b := 1) fX6 rfl rfl rfl (by decide) kw_187 rfl dC_kinds_15 ?_
    refine r_getRN (k := 6) (b := 9) fX0 rfl rfl rfl (by decide) kw_43 rfl dC_kinds_18 ?_
    refine r_iload_n 1 1 dC_kinds_21 rfl rfl ?_
    refine r_iconst dC_kinds_22 ?_
    refine r_cVI (cC_fitting w 9 g 3 6 2 rfl (by decide) (fun _ => rfl) (by omega) (by omega) (by decide) (by decide) (by decide) (by decide)) qC_fitting rfl kw_405 rfl rfl dC_kinds_23 (st0 := [zI 3, zI g, zR 9, zR 0]) (st := []) rfl ⟨Nat.le_of_ble_eq_true rfl, Nat.le_of_ble_eq_true rfl⟩ ⟨Nat.le_of_ble_eq_true rfl, Nat.le_of_ble_eq_true rfl⟩ (Nat.le_of_ble_eq_true rfl) (fun a_23 w_23 h_23 ok_23 => ?_)
    obtain ⟨rfl, h_23⟩ := h_23
    refine r_iret rfl dC_kinds_26 ⟨_, rfl, ?_⟩
    exact ⟨rfl, by rw [if_neg (by omega)]; exact h_23⟩
  · refine r_iconst dC_kinds_11 ?_
    refine r_iret rfl dC_kinds_12 ⟨_, rfl, ?_⟩
    exact ⟨rfl, by rw [if_pos (by omega)]⟩

set_option maxRecDepth 20000 in
set_option maxHeartbeats 4000000 in
theorem cC_tastes (w : zW) (g : Int) (zg : zin g) : zC mC_tastes 4 [zR 0, zI g] w (zrI fun a w' => w = w' ∧ a = (if g < 0 ∨ w.1 1 3 ≤ g then -1 else zSet (fun v => zSoC (zput w 10 g v)) 10)) := by
  refine zC.of (by decide +kernel) (Nat.le_of_ble_eq_true rfl) ?_
  show zM mC_tastes (zZm 4 _) 0 [(0, zR 0), (1, zI g)] [] w
  refine r_aload_n 0 0 dC_tastes_0 rfl rfl ?_
  refine r_getR (k := 0) (b := 1) fX6 rfl rfl rfl (by decide) kw_187 rfl dC_tastes_1 ?_
  refine r_iload_n 1 1 dC_tastes_4 rfl rfl ?_
  refine r_cVIN (cH_isGuest w g (by omega)) qH_isGuest rfl kw_266 rfl rfl dC_tastes_5 (st0 := [zI g, zR 1]) (st := []) rfl ⟨Nat.le_of_ble_eq_true rfl, Nat.le_of_ble_eq_true rfl⟩ ⟨Nat.le_of_ble_eq_true rfl, Nat.le_of_ble_eq_true rfl⟩ (Nat.le_of_ble_eq_true rfl) (fun a_5 w_5 h_5 ok_5 => ?_)
  obtain ⟨rfl, h_5⟩ := h_5
  refine r_if_ne 13 dC_tastes_8 (by decide) ⟨by omega, by omega⟩ (fun c_8 => ?_) (fun c_8 => ?_)
  · refine r_aload_n 0 0 dC_tastes_13 rfl rfl ?_
    refine r_aload_n 0 0 dC_tastes_14 rfl rfl ?_
    refine r_getR (k := 0) (b := 1) fX6 rfl rfl rfl (by decide) kw_187 rfl dC_tastes_15 ?_
    refine r_getRN (k := 7) (b := 10) fX0 rfl rfl rfl (by decide) kw_45 rfl dC_tastes_18 ?_
    refine r_iload_n 1 1 dC_tastes_21 rfl rfl ?_
    refine r_bipush dC_tastes_22 (by decide) ?_
    refine r_cVI (cC_fitting w 10 g 10 6 9 rfl (by decide) (fun _ => rfl) (by omega) (by omega) (by decide) (by decide) (by decide) (by decide)) qC_fitting rfl kw_405 rfl rfl dC_tastes_24 (st0 := [zI 10, zI g, zR 10, zR 0]) (st := []) rfl ⟨Nat.le_of_ble_eq_true rfl, Nat.le_of_ble_eq_true rfl⟩ ⟨Nat.le_of_ble_eq_true rfl, Nat.le_of_ble_eq_true rfl⟩ (Nat.le_of_ble_eq_true rfl) (fun a_24 w_24 h_24 ok_24 => ?_)
    obtain ⟨rfl, h_24⟩ := h_24
    refine r_iret rfl dC_tastes_27 ⟨_, rfl, ?_⟩
    exact ⟨rfl, by rw [if_neg (by omega)]; exact h_24⟩
  · refine r_iconst dC_tastes_11 ?_
    refine r_iret rfl dC_tastes_12 ⟨_, rfl, ?_⟩
    exact ⟨rfl, by rw [if_pos (by omega)]⟩

set_option maxRecDepth 20000 in
set_option maxHeartbeats 4000000 in
theorem cC_charms (w : zW) (d : Int) (zd : zin d) : zC mC_charms 4 [zR 0, zI d] w (zrI fun a w' => w = w' ∧ a = (if d < 0 ∨ w.1 1 2 ≤ d then -1 else zSet (fun v => zSoC (zput w 7 d v)) 10)) := by
  refine zC.of (by decide +kernel) (Nat.le_of_ble_eq_true rfl) ?_
  show zM mC_charms (zZm 4 _) 0 [(0, zR 0), (1, zI d)] [] w
  refine r_aload_n 0 0 dC_charms_0 rfl rfl ?_
  refine r_getR (k := 0) (b := 1) fX6 rfl rfl rfl (by decide) kw_187 rfl dC_charms_1 ?_
  refine r_iload_n 1 1 dC_charms_4 rfl rfl ?_
  refine r_cVIN (cH_isDoing w d (by omega)) qH_isDoing rfl kw_274 rfl rfl dC_charms_5 (st0 := [zI d, zR 1]) (st := []) rfl ⟨Nat.le_of_ble_eq_true rfl, Nat.le_of_ble_eq_true rfl⟩ ⟨Nat.le_of_ble_eq_true rfl, Nat.le_of_ble_eq_true rfl⟩ (Nat.le_of_ble_eq_true rfl) (fun a_5 w_5 h_5 ok_5 => ?_)
  obtain ⟨rfl, h_5⟩ := h_5
  refine r_if_ne 13 dC_charms_8 (by decide) ⟨by omega, by omega⟩ (fun c_8 => ?_) (fun c_8 => ?_)
  · refine r_aload_n 0 0 dC_charms_13 rfl rfl ?_
    refine r_aload_n 0 0 dC_charms_14 rfl rfl ?_
    refine r_getR (k := 0) (b := 1) fX6 rfl rfl rfl (by decide) kw_187 rfl dC_charms_15 ?_
    refine r_getRN (k := 4) (b := 7) fX0 rfl rfl rfl (by decide) kw_37 rfl dC_charms_18 ?_
    refine r_iload_n 1 1 dC_charms_21 rfl rfl ?_
    refine r_bipush dC_charms_22 (by decide) ?_
    refine r_cVI (cC_fitting w 7 d 10 4 9 rfl (by decide) (fun _ => rfl) (by omega) (by omega) (by decide) (by decide) (by decide) (by decide)) qC_fitting rfl kw_405 rfl rfl dC_charms_24 (st0 := [zI 10, zI d, zR 7, zR 0]) (st := []) rfl ⟨Nat.le_of_ble_eq_true rfl, Nat.le_of_ble_eq_true rfl⟩ ⟨Nat.le_of_ble_eq_true rfl, Nat.le_of_ble_eq_true rfl⟩ (Nat.le_of_ble_eq_true rfl) (fun a_24 w_24 h_24 ok_24 => ?_)
    obtain ⟨rfl, h_24⟩ := h_24
    refine r_iret rfl dC_charms_27 ⟨_, rfl, ?_⟩
    exact ⟨rfl, by rw [if_neg (by omega)]; exact h_24⟩
  · refine r_iconst dC_charms_11 ?_
    refine r_iret rfl dC_charms_12 ⟨_, rfl, ?_⟩
    exact ⟨rfl, by rw [if_pos (by omega)]⟩

set_option maxRecDepth 20000 in
set_option maxHeartbeats 4000000 in
theorem cC_tell (w : zW) (g : Int) (zg : zin g) : zC mC_tell 4 [zR 0, zI g] w (zrI fun a w' => a = fTell (w.1 1 3) (w.1 9 g) (w.1 10 g) g ∧ (∀ i k, w'.1 i k = (if i = 0 ∧ k = 6 then fTellT (w.1 1 3) (w.1 9 g) (w.1 0 6) g else w.1 i k))) := by
  refine zC.of (by decide +kernel) (Nat.le_of_ble_eq_true rfl) ?_
  show zM mC_tell (zZm 4 _) 0 [(0, zR 0), (1, zI g)] [] w
  refine r_aload_n 0 0 dC_tell_0 rfl rfl ?_
  refine r_getR (k := 0) (b := 1) fX6 rfl rfl rfl (by decide) kw_187 rfl dC_tell_1 ?_
  refine r_iload_n 1 1 dC_tell_4 rfl rfl ?_
  refine r_cVIN (cH_isGuest w g (by omega)) qH_isGuest rfl kw_266 rfl rfl dC_tell_5 (st0 := [zI g, zR 1]) (st := []) rfl ⟨Nat.le_of_ble_eq_true rfl, Nat.le_of_ble_eq_true rfl⟩ ⟨Nat.le_of_ble_eq_true rfl, Nat.le_of_ble_eq_true rfl⟩ (Nat.le_of_ble_eq_true rfl) (fun a_5 w_5 h_5 ok_5 => ?_)
  obtain ⟨rfl, h_5⟩ := h_5
  refine r_if_ne 13 dC_tell_8 (by decide) ⟨by omega, by omega⟩ (fun c_8 => ?_) (fun c_8 => ?_)
  · refine r_aload_n 0 0 dC_tell_13 rfl rfl ?_
    refine r_getR (k := 0) (b := 1) fX6 rfl rfl rfl (by decide) kw_187 rfl dC_tell_14 ?_
    refine r_getRN (k := 6) (b := 9) fX0 rfl rfl rfl (by decide) kw_43 rfl dC_tell_17 ?_
    refine r_iload_n 1 1 dC_tell_20 rfl rfl ?_
    refine r_iaload rfl (by decide) dC_tell_21 (by omega) (by omega) rfl (fun y_21 ey_21 ly_21 uy_21 => ?_)
    rcases (by omega : (y_21 = 1) ∨ (y_21 = 2) ∨ (¬ y_21 = 1 ∧ ¬ y_21 = 2)) with c_22 | c_22 | c_22
    · refine r_lookup 54 dC_tell_22 ⟨by omega, by omega⟩ (by decide +kernel) (by rw [c_22] <;> rfl) (by decide) ?_
      refine r_aload_n 0 0 dC_tell_54 rfl rfl ?_
      refine r_iload_n 1 1 dC_tell_55 rfl rfl ?_
      refine r_cVI (cC_tellAsCritic w g (by omega) (by omega)) qC_tellAsCritic rfl kw_471 rfl rfl dC_tell_56 (st0 := [zI g, zR 0]) (st := []) rfl ⟨Nat.le_of_ble_eq_true rfl, Nat.le_of_ble_eq_true rfl⟩ ⟨Nat.le_of_ble_eq_true rfl, Nat.le_of_ble_eq_true rfl⟩ (Nat.le_of_ble_eq_true rfl) (fun a_56 w_56 h_56 ok_56 => ?_)
      refine r_iret rfl dC_tell_59 ⟨_, rfl, ?_⟩
      have e8 : fTellT (w.1 1 3) (w.1 9 g) (w.1 0 6) g = zTr (zTr (w.1 0 6) 2) 1 := (by unfold fTellT; rw [if_neg (by omega), if_neg (by omega), if_pos (by omega)])
      exact ⟨by unfold fTell; (repeat' split) <;> omega, fun i k => by rw [h_56.1, zput_e, zput_e, e8]; (repeat' split) <;> rfl⟩
    · refine r_lookup 48 dC_tell_22 ⟨by omega, by omega⟩ (by decide +kernel) (by rw [c_22] <;> rfl) (by decide) ?_
      refine r_aload_n 0 0 dC_tell_48 rfl rfl ?_
      refine r_iload_n 1 1 dC_tell_49 rfl rfl ?_
      refine r_cVI (cC_tellAsPoet w g (by omega) (by omega)) qC_tellAsPoet rfl kw_463 rfl rfl dC_tell_50 (st0 := [zI g, zR 0]) (st := []) rfl ⟨Nat.le_of_ble_eq_true rfl, Nat.le_of_ble_eq_true rfl⟩ ⟨Nat.le_of_ble_eq_true rfl, Nat.le_of_ble_eq_true rfl⟩ (Nat.le_of_ble_eq_true rfl) (fun a_50 w_50 h_50 ok_50 => ?_)
      refine r_iret rfl dC_tell_53 ⟨_, rfl, ?_⟩
      obtain ⟨⟨w1, q1, q2, q3⟩, q4⟩ := h_50
      have e8 : fTellT (w.1 1 3) (w.1 9 g) (w.1 0 6) g = zTr (zTr (zTr (zTr (w.1 0 6) 3) 2) 1) 1 := (by unfold fTellT; rw [if_neg (by omega), if_pos (by omega)])
      exact ⟨by unfold fTell; (repeat' split) <;> omega, fun i k => by rw [q3, zput_e, e8]; (repeat' split) <;> first | rfl | (by_cases z : i = 0; (subst z; exact q2 k (fun q => by simp_all)); exact q1 i k z)⟩
    · refine r_lookup 60 dC_tell_22 ⟨by omega, by omega⟩ (by decide +kernel) (off := 38) (by rw [show (#[(1, 32), (2, 26)] : Array (Int × Int)).toList = [(1, 32), (2, 26)] from rfl, Op.lookupswitch.offset_cons, if_neg (by omega), Op.lookupswitch.offset_cons, if_neg (by omega)]; rfl) (by decide) ?_
      refine r_aload_n 0 0 dC_tell_60 rfl rfl ?_
      refine r_iload_n 1 1 dC_tell_61 rfl rfl ?_
      refine r_cVI (cC_tellAsGuest w g (by omega) (by omega)) qC_tellAsGuest rfl kw_475 rfl rfl dC_tell_62 (st0 := [zI g, zR 0]) (st := []) rfl ⟨Nat.le_of_ble_eq_true rfl, Nat.le_of_ble_eq_true rfl⟩ ⟨Nat.le_of_ble_eq_true rfl, Nat.le_of_ble_eq_true rfl⟩ (Nat.le_of_ble_eq_true rfl) (fun a_62 w_62 h_62 ok_62 => ?_)
      refine r_iret rfl dC_tell_65 ⟨_, rfl, ?_⟩
      have e8 : fTellT (w.1 1 3) (w.1 9 g) (w.1 0 6) g = zTr (w.1 0 6) 1 := (by unfold fTellT; rw [if_neg (by omega), if_neg (by omega), if_neg (by omega)])
      exact ⟨by unfold fTell; (repeat' split) <;> omega, fun i k => by rw [h_62.1, zput_e, e8]⟩
  · refine r_iconst dC_tell_11 ?_
    refine r_iret rfl dC_tell_12 ⟨_, rfl, ?_⟩
    have e8 : fTellT (w.1 1 3) (w.1 9 g) (w.1 0 6) g = w.1 0 6 := (by unfold fTellT; rw [if_pos (by omega)])
    exact ⟨by unfold fTell; (repeat' split) <;> omega, fun i k => by rw [e8]; (repeat' split) <;> first | rfl | (rename_i q; rw [q.1, q.2])⟩

set_option maxRecDepth 20000 in
set_option maxHeartbeats 4000000 in
theorem cC_greet (w : zW) (g : Int) (zg : zin g) : zC mC_greet 1 [zR 0, zI g] w (zrI fun a w' => a = fGreet (w.1 1 3) (w.1 9 g) g ∧ (∀ i k, w'.1 i k = (if i = 0 ∧ k = 6 then fGreetT (w.1 1 3) (w.1 9 g) (w.1 0 6) g else w.1 i k))) := by
  refine zC.of (by decide +kernel) (Nat.le_of_ble_eq_true rfl) ?_
  show zM mC_greet (zZm 1 _) 0 [(0, zR 0), (1, zI g)] [] w
  refine r_aload_n 0 0 dC_greet_0 rfl rfl ?_
  refine r_getR (k := 0) (b := 1) fX6 rfl rfl rfl (by decide) kw_187 rfl dC_greet_1 ?_
  refine r_iload_n 1 1 dC_greet_4 rfl rfl ?_
  refine r_cVIN (cH_isGuest w g (by omega)) qH_isGuest rfl kw_266 rfl rfl dC_greet_5 (st0 := [zI g, zR 1]) (st := []) rfl ⟨Nat.le_of_ble_eq_true rfl, Nat.le_of_ble_eq_true rfl⟩ ⟨Nat.le_of_ble_eq_true rfl, Nat.le_of_ble_eq_true rfl⟩ (Nat.le_of_ble_eq_true rfl) (fun a_5 w_5 h_5 ok_5 => ?_)
  obtain ⟨rfl, h_5⟩ := h_5
  refine r_if_ne 13 dC_greet_8 (by decide) ⟨by omega, by omega⟩ (fun c_8 => ?_) (fun c_8 => ?_)
  · refine r_aload_n 0 0 dC_greet_13 rfl rfl ?_
    refine r_getR (k := 0) (b := 1) fX6 rfl rfl rfl (by decide) kw_187 rfl dC_greet_14 ?_
    refine r_getRN (k := 6) (b := 9) fX0 rfl rfl rfl (by decide) kw_43 rfl dC_greet_17 ?_
    refine r_iload_n 1 1 dC_greet_20 rfl rfl ?_
    refine r_iaload rfl (by decide) dC_greet_21 (by omega) (by omega) rfl (fun y_21 ey_21 ly_21 uy_21 => ?_)
    refine r_iconst dC_greet_22 ?_
    refine r_ic_ne 34 dC_greet_23 (by decide) ⟨by omega, by omega⟩ ⟨by omega, by omega⟩ (fun c_23 => ?_) (fun c_23 => ?_)
    · refine r_aload_n 0 0 dC_greet_34 rfl rfl ?_
      refine r_iconst dC_greet_35 ?_
      refine r_cVV (cC_leave w 4) qC_leave rfl kw_467 rfl rfl dC_greet_36 (st0 := [zI 4, zR 0]) (st := []) rfl ⟨Nat.le_of_ble_eq_true rfl, Nat.le_of_ble_eq_true rfl⟩ ⟨Nat.le_of_ble_eq_true rfl, Nat.le_of_ble_eq_true rfl⟩ (Nat.le_of_ble_eq_true rfl) (fun w_36 h_36 ok_36 => ?_)
      refine r_iload_n 1 1 dC_greet_39 rfl rfl ?_
      refine r_iret rfl dC_greet_40 ⟨_, rfl, ?_⟩
      have e8 : fGreetT (w.1 1 3) (w.1 9 g) (w.1 0 6) g = zTr (w.1 0 6) 4 := (by unfold fGreetT; rw [if_neg (by omega), if_neg (by omega)])
      exact ⟨by unfold fGreet; (repeat' split) <;> omega, fun i k => by rw [h_36, zput_e, e8]⟩
    · refine r_aload_n 0 0 dC_greet_26 rfl rfl ?_
      refine r_iconst dC_greet_27 ?_
      refine r_cVV (cC_leave w 5) qC_leave rfl kw_467 rfl rfl dC_greet_28 (st0 := [zI 5, zR 0]) (st := []) rfl ⟨Nat.le_of_ble_eq_true rfl, Nat.le_of_ble_eq_true rfl⟩ ⟨Nat.le_of_ble_eq_true rfl, Nat.le_of_ble_eq_true rfl⟩ (Nat.le_of_ble_eq_true rfl) (fun w_28 h_28 ok_28 => ?_)
      refine r_bipush dC_greet_31 (by decide) ?_
      refine r_iret rfl dC_greet_33 ⟨_, rfl, ?_⟩
      have e8 : fGreetT (w.1 1 3) (w.1 9 g) (w.1 0 6) g = zTr (w.1 0 6) 5 := (by unfold fGreetT; rw [if_neg (by omega), if_pos (by omega)])
      exact ⟨by unfold fGreet; (repeat' split) <;> omega, fun i k => by rw [h_28, zput_e, e8]⟩
  · refine r_iconst dC_greet_11 ?_
    refine r_iret rfl dC_greet_12 ⟨_, rfl, ?_⟩
    have e8 : fGreetT (w.1 1 3) (w.1 9 g) (w.1 0 6) g = w.1 0 6 := (by unfold fGreetT; rw [if_pos (by omega)])
    exact ⟨by unfold fGreet; (repeat' split) <;> omega, fun i k => by rw [e8]; (repeat' split) <;> first | rfl | (rename_i q; rw [q.1, q.2])⟩

set_option maxRecDepth 20000 in
set_option maxHeartbeats 4000000 in
theorem cC_as (w : zW) (g : Int) (kind : Int) (zg : zin g) (zkind : zin kind) : zC mC_as 1 [zR 0, zI g, zI kind] w (zrI fun a w' => a = fAs (w.1 1 3) (w.1 9 g) g kind ∧ zEq w w') := by
  refine zC.of (by decide +kernel) (Nat.le_of_ble_eq_true rfl) ?_
  show zM mC_as (zZm 1 _) 0 [(0, zR 0), (1, zI g), (2, zI kind)] [] w
  refine r_aload_n 0 0 dC_as_0 rfl rfl ?_
  refine r_iconst dC_as_1 ?_
  refine r_putI (k := 7) fX6 rfl rfl (by decide) kw_194 rfl rfl (by decide +kernel) 7 rfl dC_as_2 rfl (by omega) (by omega) (fun w_2 ew_2 => ?_)
  refine r_aload_n 0 0 dC_as_5 rfl rfl ?_
  refine r_getR (k := 0) (b := 1) fX6 rfl rfl rfl (by decide) kw_187 rfl dC_as_6 ?_
  refine r_iload_n 1 1 dC_as_9 rfl rfl ?_
  refine r_cVIN (cH_isGuest w_2 g (by omega)) qH_isGuest rfl kw_266 rfl rfl dC_as_10 (st0 := [zI g, zR 1]) (st := []) rfl ⟨Nat.le_of_ble_eq_true rfl, Nat.le_of_ble_eq_true rfl⟩ ⟨Nat.le_of_ble_eq_true rfl, Nat.le_of_ble_eq_true rfl⟩ (Nat.le_of_ble_eq_true rfl) (fun a_10 w_10 h_10 ok_10 => ?_)
  obtain ⟨rfl, h_10⟩ := h_10
  have z_10_0 : w_2.1 1 3 = w.1 1 3 := by rw [ew_2, zput_i (i := 0) (i' := 1) _ _ _ _ (by decide)]
  refine r_if_ne 18 dC_as_13 (by decide) ⟨by omega, by omega⟩ (fun c_13 => ?_) (fun c_13 => ?_)
  · refine r_iload_n 2 2 dC_as_18 rfl rfl ?_
    refine r_if_lt 27 dC_as_19 (by decide) ⟨by omega, by omega⟩ (fun c_19 => ?_) (fun c_19 => ?_)
    · refine r_bipush dC_as_27 (by decide) ?_
      refine r_iret rfl dC_as_29 ⟨_, rfl, ?_⟩
      exact ⟨by unfold fAs; (repeat' split) <;> omega, (show zEq w w_2 from by rw [ew_2]; exact (zEq.refl w).put (by decide))⟩
    · refine r_iload_n 2 2 dC_as_22 rfl rfl ?_
      refine r_iconst dC_as_23 ?_
      refine r_ic_le 30 dC_as_24 (by decide) ⟨by omega, by omega⟩ ⟨by omega, by omega⟩ (fun c_24 => ?_) (fun c_24 => ?_)
      · refine r_aload_n 0 0 dC_as_30 rfl rfl ?_
        refine r_getR (k := 0) (b := 1) fX6 rfl rfl rfl (by decide) kw_187 rfl dC_as_31 ?_
        refine r_getRN (k := 6) (b := 9) fX0 rfl rfl rfl (by decide) kw_43 rfl dC_as_34 ?_
        refine r_iload_n 1 1 dC_as_37 rfl rfl ?_
        refine r_iaload rfl (by decide) dC_as_38 (by omega) (by omega) rfl (fun y_38 ey_38 ly_38 uy_38 => ?_)
        rw [ew_2, zput_i (i := 0) (i' := 9) _ _ _ _ (by decide)] at ey_38
        refine r_iload_n 2 2 dC_as_39 rfl rfl ?_
        refine r_ic_ge 49 dC_as_40 (by decide) ⟨by omega, by omega⟩ ⟨by omega, by omega⟩ (fun c_40 => ?_) (fun c_40 => ?_)
        · refine r_iconst dC_as_49 ?_
          refine r_iret rfl dC_as_50 ⟨_, rfl, ?_⟩
          exact ⟨by unfold fAs; (repeat' split) <;> omega, (show zEq w w_2 from by rw [ew_2]; exact (zEq.refl w).put (by decide))⟩
        · refine r_aload_n 0 0 dC_as_43 rfl rfl ?_
          refine r_iconst dC_as_44 ?_
          refine r_cVI (cC_faulty w_2 2 (by omega) (by omega)) qC_faulty rfl kw_227 rfl rfl dC_as_45 (st0 := [zI 2, zR 0]) (st := []) rfl ⟨Nat.le_of_ble_eq_true rfl, Nat.le_of_ble_eq_true rfl⟩ ⟨Nat.le_of_ble_eq_true rfl, Nat.le_of_ble_eq_true rfl⟩ (Nat.le_of_ble_eq_true rfl) (fun a_45 w_45 h_45 ok_45 => ?_)
          refine r_iret rfl dC_as_48 ⟨_, rfl, ?_⟩
          exact ⟨by unfold fAs; (repeat' split) <;> omega, (show zEq w w_45 from by rw [h_45.1, ew_2]; exact ((zEq.refl w).put (by decide)).put (by decide))⟩
      · refine r_bipush dC_as_27 (by decide) ?_
        refine r_iret rfl dC_as_29 ⟨_, rfl, ?_⟩
        exact ⟨by unfold fAs; (repeat' split) <;> omega, (show zEq w w_2 from by rw [ew_2]; exact (zEq.refl w).put (by decide))⟩
  · refine r_iconst dC_as_16 ?_
    refine r_iret rfl dC_as_17 ⟨_, rfl, ?_⟩
    exact ⟨by unfold fAs; (repeat' split) <;> omega, (show zEq w w_2 from by rw [ew_2]; exact (zEq.refl w).put (by decide))⟩

set_option maxRecDepth 20000 in
set_option maxHeartbeats 4000000 in
theorem cC_trace (w : zW) : zC mC_trace 0 [zR 0] w (zrI fun a w' => w = w' ∧ a = w.1 0 6) := by
  refine zC.of (by decide +kernel) (Nat.le_of_ble_eq_true rfl) ?_
  show zM mC_trace (zZm 0 _) 0 [(0, zR 0)] [] w
  refine r_aload_n 0 0 dC_trace_0 rfl rfl ?_
  refine r_getI (k := 6) fX6 rfl rfl (by decide) kw_193 rfl 6 rfl dC_trace_1 rfl (fun y_1 ey_1 ly_1 uy_1 => ?_)
  refine r_iret rfl dC_trace_4 ⟨_, rfl, ?_⟩
  exact ⟨rfl, by omega⟩

set_option maxRecDepth 20000 in
set_option maxHeartbeats 4000000 in
theorem cC_fault (w : zW) : zC mC_fault 0 [zR 0] w (zrI fun a w' => w = w' ∧ a = w.1 0 7) := by
  refine zC.of (by decide +kernel) (Nat.le_of_ble_eq_true rfl) ?_
  show zM mC_fault (zZm 0 _) 0 [(0, zR 0)] [] w
  refine r_aload_n 0 0 dC_fault_0 rfl rfl ?_
  refine r_getI (k := 7) fX6 rfl rfl (by decide) kw_194 rfl 7 rfl dC_fault_1 rfl (fun y_1 ey_1 ly_1 uy_1 => ?_)
  refine r_iret rfl dC_fault_4 ⟨_, rfl, ?_⟩
  exact ⟨rfl, by omega⟩

set_option maxRecDepth 20000 in
set_option maxHeartbeats 4000000 in
theorem cC_many (w : zW) (what : Int) (zwhat : zin what) : zC mC_many 0 [zR 0, zI what] w (zrI fun a w' => w = w' ∧ a = fMany (w.1 1 3) (w.1 1 2) (w.1 1 0) (w.1 1 1) (w.1 6 3) what) := by
  refine zC.of (by decide +kernel) (Nat.le_of_ble_eq_true rfl) ?_
  show zM mC_many (zZm 0 _) 0 [(0, zR 0), (1, zI what)] [] w
  refine r_iload_n 1 1 dC_many_0 rfl rfl ?_
  rcases (by omega : (what = 0) ∨ (what = 1) ∨ (what = 2) ∨ (what = 3) ∨ (what = 4) ∨ (what < 0 ∨ 4 < what)) with c_1 | c_1 | c_1 | c_1 | c_1 | c_1 | c_1
  · refine r_tableIn 36 dC_many_1 ⟨by omega, by omega⟩ (by omega) (by omega) (by rw [c_1] <;> rfl) (by decide) ?_
    refine r_aload_n 0 0 dC_many_36 rfl rfl ?_
    refine r_getR (k := 0) (b := 1) fX6 rfl rfl rfl (by decide) kw_187 rfl dC_many_37 ?_
    refine r_getIN (k := 3) fX0 rfl rfl (by decide) kw_35 rfl 3 rfl dC_many_40 rfl (fun y_40 ey_40 ly_40 uy_40 => ?_)
    refine r_iret rfl dC_many_43 ⟨_, rfl, ?_⟩
    exact ⟨rfl, by unfold fMany; (repeat' split) <;> omega⟩
  · refine r_tableIn 44 dC_many_1 ⟨by omega, by omega⟩ (by omega) (by omega) (by rw [c_1] <;> rfl) (by decide) ?_
    refine r_aload_n 0 0 dC_many_44 rfl rfl ?_
    refine r_getR (k := 0) (b := 1) fX6 rfl rfl rfl (by decide) kw_187 rfl dC_many_45 ?_
    refine r_getIN (k := 2) fX0 rfl rfl (by decide) kw_32 rfl 2 rfl dC_many_48 rfl (fun y_48 ey_48 ly_48 uy_48 => ?_)
    refine r_iret rfl dC_many_51 ⟨_, rfl, ?_⟩
    exact ⟨rfl, by unfold fMany; (repeat' split) <;> omega⟩
  · refine r_tableIn 52 dC_many_1 ⟨by omega, by omega⟩ (by omega) (by omega) (by rw [c_1] <;> rfl) (by decide) ?_
    refine r_aload_n 0 0 dC_many_52 rfl rfl ?_
    refine r_getR (k := 0) (b := 1) fX6 rfl rfl rfl (by decide) kw_187 rfl dC_many_53 ?_
    refine r_getIN (k := 0) fX0 rfl rfl (by decide) kw_27 rfl 0 rfl dC_many_56 rfl (fun y_56 ey_56 ly_56 uy_56 => ?_)
    refine r_iret rfl dC_many_59 ⟨_, rfl, ?_⟩
    exact ⟨rfl, by unfold fMany; (repeat' split) <;> omega⟩
  · refine r_tableIn 60 dC_many_1 ⟨by omega, by omega⟩ (by omega) (by omega) (by rw [c_1] <;> rfl) (by decide) ?_
    refine r_aload_n 0 0 dC_many_60 rfl rfl ?_
    refine r_getR (k := 0) (b := 1) fX6 rfl rfl rfl (by decide) kw_187 rfl dC_many_61 ?_
    refine r_getIN (k := 1) fX0 rfl rfl (by decide) kw_29 rfl 1 rfl dC_many_64 rfl (fun y_64 ey_64 ly_64 uy_64 => ?_)
    refine r_iret rfl dC_many_67 ⟨_, rfl, ?_⟩
    exact ⟨rfl, by unfold fMany; (repeat' split) <;> omega⟩
  · refine r_tableIn 68 dC_many_1 ⟨by omega, by omega⟩ (by omega) (by omega) (by rw [c_1] <;> rfl) (by decide) ?_
    refine r_aload_n 0 0 dC_many_68 rfl rfl ?_
    refine r_getR (k := 5) (b := 6) fX6 rfl rfl rfl (by decide) kw_192 rfl dC_many_69 ?_
    refine r_getIN (k := 3) fX1 rfl rfl (by decide) kw_177 rfl 3 rfl dC_many_72 rfl (fun y_72 ey_72 ly_72 uy_72 => ?_)
    refine r_iret rfl dC_many_75 ⟨_, rfl, ?_⟩
    exact ⟨rfl, by unfold fMany; (repeat' split) <;> omega⟩
  · refine r_tableOut 76 dC_many_1 ⟨by omega, by omega⟩ (by omega) (by decide) ?_
    refine r_bipush dC_many_76 (by decide) ?_
    refine r_iret rfl dC_many_78 ⟨_, rfl, ?_⟩
    exact ⟨rfl, by unfold fMany; (repeat' split) <;> omega⟩
  · refine r_tableOut 76 dC_many_1 ⟨by omega, by omega⟩ (by omega) (by decide) ?_
    refine r_bipush dC_many_76 (by decide) ?_
    refine r_iret rfl dC_many_78 ⟨_, rfl, ?_⟩
    exact ⟨rfl, by unfold fMany; (repeat' split) <;> omega⟩

set_option maxRecDepth 20000 in
set_option maxHeartbeats 4000000 in
theorem cC_lose (w : zW) (k : Int) (zk : zin k) : zC mC_lose 1 [zR 0, zI k] w (zrI fun a w' => a = fLose (zSz w k) k ∧ (∀ i j, w'.1 i j = (if i = 13 ∧ j = k ∧ 0 ≤ k ∧ k < 4 then 0 else w.1 i j))) := by
  refine zC.of (by decide +kernel) (Nat.le_of_ble_eq_true rfl) ?_
  show zM mC_lose (zZm 1 _) 0 [(0, zR 0), (1, zI k)] [] w
  refine r_ok (fun hO => ?_)
  have hL := hO 15 k
  change 0 ≤ w.1 15 k ∧ w.1 15 k ≤ 60 at hL
  refine r_aload_n 0 0 dC_lose_0 rfl rfl ?_
  refine r_getR (k := 1) (b := 2) fX6 rfl rfl rfl (by decide) kw_188 rfl dC_lose_1 ?_
  refine r_iload_n 1 1 dC_lose_4 rfl rfl ?_
  refine r_cVIN (cS_isSheet w k (by omega)) qS_isSheet rfl kw_216 rfl rfl dC_lose_5 (st0 := [zI k, zR 2]) (st := []) rfl ⟨Nat.le_of_ble_eq_true rfl, Nat.le_of_ble_eq_true rfl⟩ ⟨Nat.le_of_ble_eq_true rfl, Nat.le_of_ble_eq_true rfl⟩ (Nat.le_of_ble_eq_true rfl) (fun a_5 w_5 h_5 ok_5 => ?_)
  obtain ⟨rfl, h_5⟩ := h_5
  refine r_if_ne 13 dC_lose_8 (by decide) ⟨by omega, by omega⟩ (fun c_8 => ?_) (fun c_8 => ?_)
  · refine r_aload_n 0 0 dC_lose_13 rfl rfl ?_
    refine r_getR (k := 1) (b := 2) fX6 rfl rfl rfl (by decide) kw_188 rfl dC_lose_14 ?_
    refine r_getRN (k := 1) (b := 13) fX4 rfl rfl rfl (by decide) kw_79 rfl dC_lose_17 ?_
    refine r_iload_n 1 1 dC_lose_20 rfl rfl ?_
    refine r_baload rfl (by decide) dC_lose_21 (by omega) (by omega) rfl (fun y_21 ey_21 ly_21 uy_21 => ?_)
    have J_30 : ∀ (t : Int) (ht : t = y_21), zM mC_lose (zZm 1 (zrI fun a w' => a = fLose (zSz w k) k ∧ (∀ i j, w'.1 i j = (if i = 13 ∧ j = k ∧ 0 ≤ k ∧ k < 4 then 0 else w.1 i j)))) 30 [(0, zR 0), (1, zI k)] [zI t] w := by
      intro t ht
      refine r_istore_n (ls' := [(2, zI t), (0, zR 0), (1, zI k)]) 2 dC_lose_30 rfl (by decide) rfl ?_
      refine r_aload_n 0 1 dC_lose_31 rfl rfl ?_
      refine r_getR (k := 1) (b := 2) fX6 rfl rfl rfl (by decide) kw_188 rfl dC_lose_32 ?_
      refine r_getRN (k := 1) (b := 13) fX4 rfl rfl rfl (by decide) kw_79 rfl dC_lose_35 ?_
      refine r_iload_n 1 2 dC_lose_38 rfl rfl ?_
      refine r_iconst dC_lose_39 ?_
      refine r_bastore rfl (by decide) dC_lose_40 (by omega) (by omega) (by omega) rfl (by omega) (by omega) (fun w_40 ew_40 => ?_)
      refine r_iload_n 2 0 dC_lose_41 rfl rfl ?_
      refine r_iret rfl dC_lose_42 ⟨_, rfl, ?_⟩
      exact ⟨by unfold fLose zSz; (repeat' split) <;> omega, fun i j => by rw [ew_40, zput_e]; (repeat' split) <;> first | rfl | omega⟩
    refine r_if_eq 29 dC_lose_22 (by decide) ⟨by omega, by omega⟩ (fun c_22 => ?_) (fun c_22 => ?_)
    · refine r_iconst dC_lose_29 ?_
      exact J_30 0 (by omega)
    · refine r_iconst dC_lose_25 ?_
      refine r_goto 30 dC_lose_26 (by decide) ?_
      exact J_30 1 (by omega)
  · refine r_iconst dC_lose_11 ?_
    refine r_iret rfl dC_lose_12 ⟨_, rfl, ?_⟩
    exact ⟨by unfold fLose zSz; (repeat' split) <;> omega, fun i j => by rw [if_neg (by omega)]⟩

set_option maxRecDepth 20000 in
set_option maxHeartbeats 4000000 in
theorem cC_put (w : zW) (k : Int) (i : Int) (v : Int) (zk : zin k) (zi : zin i) (zv : zin v) : zC mC_put 1 [zR 0, zI k, zI i, zI v] w (zrI fun a w' => a = fPut (zSz w k) k i ∧ (∀ i' j', zkeep i' j' = true → w'.1 i' j' = (if fPut (zSz w k) k i = 1 ∧ i' = 16 + k.toNat ∧ j' = i then zCut (w.1 14 k) v else w.1 i' j'))) := by
  refine zC.of (by decide +kernel) (Nat.le_of_ble_eq_true rfl) ?_
  show zM mC_put (zZm 1 _) 0 [(0, zR 0), (1, zI k), (2, zI i), (3, zI v)] [] w
  refine r_ok (fun hO => ?_)
  have hL := hO 15 k
  change 0 ≤ w.1 15 k ∧ w.1 15 k ≤ 60 at hL
  refine r_aload_n 0 0 dC_put_0 rfl rfl ?_
  refine r_iconst dC_put_1 ?_
  refine r_putI (k := 7) fX6 rfl rfl (by decide) kw_194 rfl rfl (by decide +kernel) 7 rfl dC_put_2 rfl (by omega) (by omega) (fun w_2 ew_2 => ?_)
  refine r_aload_n 0 0 dC_put_5 rfl rfl ?_
  refine r_getR (k := 1) (b := 2) fX6 rfl rfl rfl (by decide) kw_188 rfl dC_put_6 ?_
  refine r_iload_n 1 1 dC_put_9 rfl rfl ?_
  refine r_cVIN (cS_isSheet w_2 k (by omega)) qS_isSheet rfl kw_216 rfl rfl dC_put_10 (st0 := [zI k, zR 2]) (st := []) rfl ⟨Nat.le_of_ble_eq_true rfl, Nat.le_of_ble_eq_true rfl⟩ ⟨Nat.le_of_ble_eq_true rfl, Nat.le_of_ble_eq_true rfl⟩ (Nat.le_of_ble_eq_true rfl) (fun a_10 w_10 h_10 ok_10 => ?_)
  obtain ⟨rfl, h_10⟩ := h_10
  refine r_if_ne 18 dC_put_13 (by decide) ⟨by omega, by omega⟩ (fun c_13 => ?_) (fun c_13 => ?_)
  · refine r_aload_n 0 0 dC_put_18 rfl rfl ?_
    refine r_getR (k := 1) (b := 2) fX6 rfl rfl rfl (by decide) kw_188 rfl dC_put_19 ?_
    refine r_getRN (k := 1) (b := 13) fX4 rfl rfl rfl (by decide) kw_79 rfl dC_put_22 ?_
    refine r_iload_n 1 1 dC_put_25 rfl rfl ?_
    refine r_baload rfl (by decide) dC_put_26 (by omega) (by omega) rfl (fun y_26 ey_26 ly_26 uy_26 => ?_)
    rw [ew_2, zput_i (i := 0) (i' := 13) _ _ _ _ (by decide)] at ey_26
    refine r_if_ne 36 dC_put_27 (by decide) ⟨by omega, by omega⟩ (fun c_27 => ?_) (fun c_27 => ?_)
    · refine r_aload_n 0 0 dC_put_36 rfl rfl ?_
      refine r_getR (k := 1) (b := 2) fX6 rfl rfl rfl (by decide) kw_188 rfl dC_put_37 ?_
      refine r_iload_n 1 1 dC_put_40 rfl rfl ?_
      refine r_iload_n 2 2 dC_put_41 rfl rfl ?_
      refine r_cVIN (cS_isCell w_2 k i (by omega) (by omega) (by omega)) qS_isCell rfl kw_441 rfl rfl dC_put_42 (st0 := [zI i, zI k, zR 2]) (st := []) rfl ⟨Nat.le_of_ble_eq_true rfl, Nat.le_of_ble_eq_true rfl⟩ ⟨Nat.le_of_ble_eq_true rfl, Nat.le_of_ble_eq_true rfl⟩ (Nat.le_of_ble_eq_true rfl) (fun a_42 w_42 h_42 ok_42 => ?_)
      obtain ⟨rfl, h_42⟩ := h_42
      have z_42_0 : w_2.1 15 k = w.1 15 k := by rw [ew_2, zput_i (i := 0) (i' := 15) _ _ _ _ (by decide)]
      refine r_if_ne 54 dC_put_45 (by decide) ⟨by omega, by omega⟩ (fun c_45 => ?_) (fun c_45 => ?_)
      · refine r_aload_n 0 0 dC_put_54 rfl rfl ?_
        refine r_getR (k := 1) (b := 2) fX6 rfl rfl rfl (by decide) kw_188 rfl dC_put_55 ?_
        refine r_getRN (k := 0) (b := 12) fX4 rfl rfl rfl (by decide) kw_77 rfl dC_put_58 ?_
        refine r_iload_n 1 1 dC_put_61 rfl rfl ?_
        refine r_aaload (b := (16 + k.toNat)) rfl (by decide) dC_put_62 (by omega) (by omega) (z_row _ (by omega) (by omega)) ?_
        refine r_iload_n 2 2 dC_put_63 rfl rfl ?_
        refine r_iload_n 3 3 dC_put_64 rfl rfl ?_
        refine r_aload_n 0 0 dC_put_65 rfl rfl ?_
        refine r_getR (k := 1) (b := 2) fX6 rfl rfl rfl (by decide) kw_188 rfl dC_put_66 ?_
        refine r_getRN (k := 2) (b := 14) fX4 rfl rfl rfl (by decide) kw_81 rfl dC_put_69 ?_
        refine r_iload_n 1 1 dC_put_72 rfl rfl ?_
        refine r_iaload rfl (by decide) dC_put_73 (by omega) (by omega) rfl (fun y_73 ey_73 ly_73 uy_73 => ?_)
        rw [ew_2, zput_i (i := 0) (i' := 14) _ _ _ _ (by decide)] at ey_73
        refine r_cSI (cC_cut w_2 v y_73 (by omega)) qC_cut rfl kw_445 dC_put_74 (st0 := [zI y_73, zI v, zI i, zR (16 + k.toNat)]) (st := [zI i, zR (16 + k.toNat)]) rfl ⟨Nat.le_of_ble_eq_true rfl, Nat.le_of_ble_eq_true rfl⟩ ⟨Nat.le_of_ble_eq_true rfl, Nat.le_of_ble_eq_true rfl⟩ (Nat.le_of_ble_eq_true rfl) (fun a_74 w_74 h_74 ok_74 => ?_)
        obtain ⟨rfl, h_74⟩ := h_74
        refine r_iastore (z_rowS (j := k) (by omega) (by omega)) (by decide) dC_put_77 (by omega) (by omega) (z_rowB (j := k) (by omega) (by omega) _) (by have := (zCut_in (lane := y_73) zv).1; omega) (by have := (zCut_in (lane := y_73) zv).2; omega) (fun w_77 ew_77 => ?_)
        refine r_iconst dC_put_78 ?_
        refine r_iret rfl dC_put_79 ⟨_, rfl, ?_⟩
        have e9 : fPut (zSz w k) k i = 1 := (by unfold fPut zSz; (repeat' split) <;> omega)
        exact ⟨e9.symm, fun i' j' hk' => by rw [e9, ew_77, zput_e, h_74, ey_73]; split; (rw [if_pos ⟨rfl, by assumption⟩]); (rw [if_neg (fun q => by simp_all)]; exact (show zEq w w_2 from by rw [ew_2]; exact (zEq.refl w).put (by decide)) i' j' hk')⟩
      · refine r_aload_n 0 0 dC_put_48 rfl rfl ?_
        refine r_iconst dC_put_49 ?_
        refine r_cVI (cC_faulty w_2 3 (by omega) (by omega)) qC_faulty rfl kw_227 rfl rfl dC_put_50 (st0 := [zI 3, zR 0]) (st := []) rfl ⟨Nat.le_of_ble_eq_true rfl, Nat.le_of_ble_eq_true rfl⟩ ⟨Nat.le_of_ble_eq_true rfl, Nat.le_of_ble_eq_true rfl⟩ (Nat.le_of_ble_eq_true rfl) (fun a_50 w_50 h_50 ok_50 => ?_)
        refine r_iret rfl dC_put_53 ⟨_, rfl, ?_⟩
        have e9 : fPut (zSz w k) k i = -13 := (by unfold fPut zSz; (repeat' split) <;> omega)
        exact ⟨by rw [e9]; omega, fun i' j' hk' => by rw [e9, if_neg (by omega)]; exact (show zEq w w_50 from by rw [h_50.1, ew_2]; exact ((zEq.refl w).put (by decide)).put (by decide)) i' j' hk'⟩
    · refine r_aload_n 0 0 dC_put_30 rfl rfl ?_
      refine r_iconst dC_put_31 ?_
      refine r_cVI (cC_faulty w_2 1 (by omega) (by omega)) qC_faulty rfl kw_227 rfl rfl dC_put_32 (st0 := [zI 1, zR 0]) (st := []) rfl ⟨Nat.le_of_ble_eq_true rfl, Nat.le_of_ble_eq_true rfl⟩ ⟨Nat.le_of_ble_eq_true rfl, Nat.le_of_ble_eq_true rfl⟩ (Nat.le_of_ble_eq_true rfl) (fun a_32 w_32 h_32 ok_32 => ?_)
      refine r_iret rfl dC_put_35 ⟨_, rfl, ?_⟩
      have e9 : fPut (zSz w k) k i = -11 := (by unfold fPut zSz; (repeat' split) <;> omega)
      exact ⟨by rw [e9]; omega, fun i' j' hk' => by rw [e9, if_neg (by omega)]; exact (show zEq w w_32 from by rw [h_32.1, ew_2]; exact ((zEq.refl w).put (by decide)).put (by decide)) i' j' hk'⟩
  · refine r_iconst dC_put_16 ?_
    refine r_iret rfl dC_put_17 ⟨_, rfl, ?_⟩
    have e9 : fPut (zSz w k) k i = (-1) := (by unfold fPut zSz; (repeat' split) <;> omega)
    exact ⟨e9.symm, fun i' j' hk' => by rw [e9, if_neg (by omega)]; exact (show zEq w w_2 from by rw [ew_2]; exact (zEq.refl w).put (by decide)) i' j' hk'⟩

set_option maxRecDepth 20000 in
set_option maxHeartbeats 4000000 in
theorem cC_cell (w : zW) (k : Int) (i : Int) (lane : Int) (zk : zin k) (zi : zin i) (zlane : zin lane) : zC mC_cell 1 [zR 0, zI k, zI i, zI lane] w (zrJ fun a w' => a = fCell (zSz w k) (w.1 14 k) (w.1 (16 + k.toNat) i) k i lane ∧ zEq w w') := by
  refine zC.of (by decide +kernel) (Nat.le_of_ble_eq_true rfl) ?_
  show zM mC_cell (zZm 1 _) 0 [(0, zR 0), (1, zI k), (2, zI i), (3, zI lane)] [] w
  refine r_ok (fun hO => ?_)
  have hL := hO 15 k
  change 0 ≤ w.1 15 k ∧ w.1 15 k ≤ 60 at hL
  refine r_aload_n 0 0 dC_cell_0 rfl rfl ?_
  refine r_iconst dC_cell_1 ?_
  refine r_putI (k := 7) fX6 rfl rfl (by decide) kw_194 rfl rfl (by decide +kernel) 7 rfl dC_cell_2 rfl (by omega) (by omega) (fun w_2 ew_2 => ?_)
  refine r_aload_n 0 0 dC_cell_5 rfl rfl ?_
  refine r_getR (k := 1) (b := 2) fX6 rfl rfl rfl (by decide) kw_188 rfl dC_cell_6 ?_
  refine r_iload_n 1 1 dC_cell_9 rfl rfl ?_
  refine r_cVIN (cS_isSheet w_2 k (by omega)) qS_isSheet rfl kw_216 rfl rfl dC_cell_10 (st0 := [zI k, zR 2]) (st := []) rfl ⟨Nat.le_of_ble_eq_true rfl, Nat.le_of_ble_eq_true rfl⟩ ⟨Nat.le_of_ble_eq_true rfl, Nat.le_of_ble_eq_true rfl⟩ (Nat.le_of_ble_eq_true rfl) (fun a_10 w_10 h_10 ok_10 => ?_)
  obtain ⟨rfl, h_10⟩ := h_10
  refine r_if_eq 23 dC_cell_13 (by decide) ⟨by omega, by omega⟩ (fun c_13 => ?_) (fun c_13 => ?_)
  · refine r_ldc2 (a := (-9223372036854775808)) dC_cell_23 kw_421 (by decide +kernel) ?_
    refine r_lret rfl dC_cell_26 ⟨_, rfl, ?_⟩
    exact ⟨by unfold fCell zSz zLOST; (repeat' split) <;> omega, by rw [ew_2]; exact (zEq.refl w).put (by decide)⟩
  · refine r_iload_n 3 3 dC_cell_16 rfl rfl ?_
    refine r_cSI (cC_isLane w_2 lane (by omega)) qC_isLane rfl kw_220 dC_cell_17 (st0 := [zI lane]) (st := []) rfl ⟨Nat.le_of_ble_eq_true rfl, Nat.le_of_ble_eq_true rfl⟩ ⟨Nat.le_of_ble_eq_true rfl, Nat.le_of_ble_eq_true rfl⟩ (Nat.le_of_ble_eq_true rfl) (fun a_17 w_17 h_17 ok_17 => ?_)
    obtain ⟨rfl, h_17⟩ := h_17
    refine r_if_ne 27 dC_cell_20 (by decide) ⟨by omega, by omega⟩ (fun c_20 => ?_) (fun c_20 => ?_)
    · refine r_aload_n 0 0 dC_cell_27 rfl rfl ?_
      refine r_aload_n 0 0 dC_cell_28 rfl rfl ?_
      refine r_getR (k := 1) (b := 2) fX6 rfl rfl rfl (by decide) kw_188 rfl dC_cell_29 ?_
      refine r_iload_n 1 1 dC_cell_32 rfl rfl ?_
      refine r_iload_n 3 3 dC_cell_33 rfl rfl ?_
      refine r_cVIN (cS_faultAsRow w_2 k lane (by omega) (by omega) (by omega)) qS_faultAsRow rfl kw_223 rfl rfl dC_cell_34 (st0 := [zI lane, zI k, zR 2, zR 0]) (st := [zR 0]) rfl ⟨Nat.le_of_ble_eq_true rfl, Nat.le_of_ble_eq_true rfl⟩ ⟨Nat.le_of_ble_eq_true rfl, Nat.le_of_ble_eq_true rfl⟩ (Nat.le_of_ble_eq_true rfl) (fun a_34 w_34 h_34 ok_34 => ?_)
      obtain ⟨rfl, h_34⟩ := h_34
      have z_34_0 : w_2.1 13 k = w.1 13 k := by rw [ew_2, zput_i (i := 0) (i' := 13) _ _ _ _ (by decide)]
      have z_34_1 : w_2.1 14 k = w.1 14 k := by rw [ew_2, zput_i (i := 0) (i' := 14) _ _ _ _ (by decide)]
      refine r_putI (k := 7) fX6 rfl rfl (by decide) kw_194 rfl rfl (by decide +kernel) 7 rfl dC_cell_37 rfl (by omega) (by omega) (fun w_37 ew_37 => ?_)
      refine r_aload_n 0 0 dC_cell_40 rfl rfl ?_
      refine r_getI (k := 7) fX6 rfl rfl (by decide) kw_194 rfl 7 rfl dC_cell_41 rfl (fun y_41 ey_41 ly_41 uy_41 => ?_)
      rw [ew_37, zput_s] at ey_41
      refine r_if_eq 51 dC_cell_44 (by decide) ⟨by omega, by omega⟩ (fun c_44 => ?_) (fun c_44 => ?_)
      · refine r_aload_n 0 0 dC_cell_51 rfl rfl ?_
        refine r_getR (k := 1) (b := 2) fX6 rfl rfl rfl (by decide) kw_188 rfl dC_cell_52 ?_
        refine r_iload_n 1 1 dC_cell_55 rfl rfl ?_
        refine r_iload_n 2 2 dC_cell_56 rfl rfl ?_
        refine r_cVIN (cS_isCell w_37 k i (by omega) (by omega) (by omega)) qS_isCell rfl kw_441 rfl rfl dC_cell_57 (st0 := [zI i, zI k, zR 2]) (st := []) rfl ⟨Nat.le_of_ble_eq_true rfl, Nat.le_of_ble_eq_true rfl⟩ ⟨Nat.le_of_ble_eq_true rfl, Nat.le_of_ble_eq_true rfl⟩ (Nat.le_of_ble_eq_true rfl) (fun a_57 w_57 h_57 ok_57 => ?_)
        obtain ⟨rfl, h_57⟩ := h_57
        have z_57_0 : w_37.1 15 k = w.1 15 k := by rw [ew_37, zput_i (i := 0) (i' := 15) _ _ _ _ (by decide), ew_2, zput_i (i := 0) (i' := 15) _ _ _ _ (by decide)]
        refine r_if_ne 72 dC_cell_60 (by decide) ⟨by omega, by omega⟩ (fun c_60 => ?_) (fun c_60 => ?_)
        · refine r_aload_n 0 0 dC_cell_72 rfl rfl ?_
          refine r_getR (k := 1) (b := 2) fX6 rfl rfl rfl (by decide) kw_188 rfl dC_cell_73 ?_
          refine r_getRN (k := 0) (b := 12) fX4 rfl rfl rfl (by decide) kw_77 rfl dC_cell_76 ?_
          refine r_iload_n 1 1 dC_cell_79 rfl rfl ?_
          refine r_aaload (b := (16 + k.toNat)) rfl (by decide) dC_cell_80 (by omega) (by omega) (z_row _ (by omega) (by omega)) ?_
          refine r_iload_n 2 2 dC_cell_81 rfl rfl ?_
          refine r_iaload (z_rowS (j := k) (by omega) (by omega)) (by decide) dC_cell_82 (by omega) (by omega) (z_rowB (j := k) (by omega) (by omega) _) (fun y_82 ey_82 ly_82 uy_82 => ?_)
          rw [ew_37, zput_i (i := 0) (i' := (16 + k.toNat)) _ _ _ _ (by omega)] at ey_82
          rw [ew_2, zput_i (i := 0) (i' := (16 + k.toNat)) _ _ _ _ (by omega)] at ey_82
          refine r_i2l dC_cell_83 ⟨by omega, by omega⟩ ?_
          refine r_lret rfl dC_cell_84 ⟨_, rfl, ?_⟩
          exact ⟨by unfold fCell zSz zLOST; (repeat' split) <;> omega, by rw [ew_37, ew_2]; exact ((zEq.refl w).put (by decide)).put (by decide)⟩
        · refine r_aload_n 0 0 dC_cell_63 rfl rfl ?_
          refine r_iconst dC_cell_64 ?_
          refine r_putI (k := 7) fX6 rfl rfl (by decide) kw_194 rfl rfl (by decide +kernel) 7 rfl dC_cell_65 rfl (by omega) (by omega) (fun w_65 ew_65 => ?_)
          refine r_ldc2 (a := (-9223372036854775808)) dC_cell_68 kw_421 (by decide +kernel) ?_
          refine r_lret rfl dC_cell_71 ⟨_, rfl, ?_⟩
          exact ⟨by unfold fCell zSz zLOST; (repeat' split) <;> omega, by rw [ew_65, ew_37, ew_2]; exact (((zEq.refl w).put (by decide)).put (by decide)).put (by decide)⟩
      · refine r_ldc2 (a := (-9223372036854775808)) dC_cell_47 kw_421 (by decide +kernel) ?_
        refine r_lret rfl dC_cell_50 ⟨_, rfl, ?_⟩
        exact ⟨by unfold fCell zSz zLOST; (repeat' split) <;> omega, by rw [ew_37, ew_2]; exact ((zEq.refl w).put (by decide)).put (by decide)⟩
    · refine r_ldc2 (a := (-9223372036854775808)) dC_cell_23 kw_421 (by decide +kernel) ?_
      refine r_lret rfl dC_cell_26 ⟨_, rfl, ?_⟩
      exact ⟨by unfold fCell zSz zLOST; (repeat' split) <;> omega, by rw [ew_2]; exact (zEq.refl w).put (by decide)⟩

set_option maxRecDepth 20000 in
set_option maxHeartbeats 4000000 in
theorem cC_copy (w : zW) (k : Int) (i : Int) (o : Int) (j : Int) (n : Int) (zk : zin k) (zi : zin i) (zo : zin o) (zj : zin j) (zn : zin n) : zC mC_copy 1 [zR 0, zI k, zI i, zI o, zI j, zI n] w (zrI fun a w' => a = fCopy (zSz w k) (zSz w o) (w.1 14 k) (w.1 14 o) k i o j n ∧ (∀ i' k', zkeep i' k' = true → w'.1 i' k' = (if 0 ≤ fCopy (zSz w k) (zSz w o) (w.1 14 k) (w.1 14 o) k i o j n ∧ i' = 16 + o.toNat ∧ j ≤ k' ∧ k' < j + n then w.1 (16 + k.toNat) (i + (k' - j)) else w.1 i' k'))) := by
  refine zC.of (by decide +kernel) (Nat.le_of_ble_eq_true rfl) ?_
  show zM mC_copy (zZm 1 _) 0 [(0, zR 0), (1, zI k), (2, zI i), (3, zI o), (4, zI j), (5, zI n)] [] w
  refine r_ok (fun hO => ?_)
  have hL := hO 15 k
  change 0 ≤ w.1 15 k ∧ w.1 15 k ≤ 60 at hL
  have hL2 := hO 15 o
  change 0 ≤ w.1 15 o ∧ w.1 15 o ≤ 60 at hL2
  refine r_aload_n 0 0 dC_copy_0 rfl rfl ?_
  refine r_iconst dC_copy_1 ?_
  refine r_putI (k := 7) fX6 rfl rfl (by decide) kw_194 rfl rfl (by decide +kernel) 7 rfl dC_copy_2 rfl (by omega) (by omega) (fun w_2 ew_2 => ?_)
  refine r_aload_n 0 0 dC_copy_5 rfl rfl ?_
  refine r_getR (k := 1) (b := 2) fX6 rfl rfl rfl (by decide) kw_188 rfl dC_copy_6 ?_
  refine r_iload_n 1 1 dC_copy_9 rfl rfl ?_
  refine r_cVIN (cS_isSheet w_2 k (by omega)) qS_isSheet rfl kw_216 rfl rfl dC_copy_10 (st0 := [zI k, zR 2]) (st := []) rfl ⟨Nat.le_of_ble_eq_true rfl, Nat.le_of_ble_eq_true rfl⟩ ⟨Nat.le_of_ble_eq_true rfl, Nat.le_of_ble_eq_true rfl⟩ (Nat.le_of_ble_eq_true rfl) (fun a_10 w_10 h_10 ok_10 => ?_)
  obtain ⟨rfl, h_10⟩ := h_10
  refine r_if_eq 27 dC_copy_13 (by decide) ⟨by omega, by omega⟩ (fun c_13 => ?_) (fun c_13 => ?_)
  · refine r_iconst dC_copy_27 ?_
    refine r_iret rfl dC_copy_28 ⟨_, rfl, ?_⟩
    have e9 : fCopy (zSz w k) (zSz w o) (w.1 14 k) (w.1 14 o) k i o j n = -1 := (by unfold fCopy zSz; (repeat' split) <;> omega)
    exact ⟨e9.symm, fun i' k' hk' => by rw [e9, if_neg (by omega)]; exact (show zEq w w_2 from by rw [ew_2]; exact (zEq.refl w).put (by decide)) i' k' hk'⟩
  · refine r_aload_n 0 0 dC_copy_16 rfl rfl ?_
    refine r_getR (k := 1) (b := 2) fX6 rfl rfl rfl (by decide) kw_188 rfl dC_copy_17 ?_
    refine r_iload_n 3 3 dC_copy_20 rfl rfl ?_
    refine r_cVIN (cS_isSheet w_2 o (by omega)) qS_isSheet rfl kw_216 rfl rfl dC_copy_21 (st0 := [zI o, zR 2]) (st := []) rfl ⟨Nat.le_of_ble_eq_true rfl, Nat.le_of_ble_eq_true rfl⟩ ⟨Nat.le_of_ble_eq_true rfl, Nat.le_of_ble_eq_true rfl⟩ (Nat.le_of_ble_eq_true rfl) (fun a_21 w_21 h_21 ok_21 => ?_)
    obtain ⟨rfl, h_21⟩ := h_21
    refine r_if_ne 29 dC_copy_24 (by decide) ⟨by omega, by omega⟩ (fun c_24 => ?_) (fun c_24 => ?_)
    · refine r_aload_n 0 0 dC_copy_29 rfl rfl ?_
      refine r_getR (k := 1) (b := 2) fX6 rfl rfl rfl (by decide) kw_188 rfl dC_copy_30 ?_
      refine r_getRN (k := 1) (b := 13) fX4 rfl rfl rfl (by decide) kw_79 rfl dC_copy_33 ?_
      refine r_iload_n 1 1 dC_copy_36 rfl rfl ?_
      refine r_baload rfl (by decide) dC_copy_37 (by omega) (by omega) rfl (fun y_37 ey_37 ly_37 uy_37 => ?_)
      rw [ew_2, zput_i (i := 0) (i' := 13) _ _ _ _ (by decide)] at ey_37
      refine r_if_eq 53 dC_copy_38 (by decide) ⟨by omega, by omega⟩ (fun c_38 => ?_) (fun c_38 => ?_)
      · refine r_aload_n 0 0 dC_copy_53 rfl rfl ?_
        refine r_iconst dC_copy_54 ?_
        refine r_cVI (cC_faulty w_2 1 (by omega) (by omega)) qC_faulty rfl kw_227 rfl rfl dC_copy_55 (st0 := [zI 1, zR 0]) (st := []) rfl ⟨Nat.le_of_ble_eq_true rfl, Nat.le_of_ble_eq_true rfl⟩ ⟨Nat.le_of_ble_eq_true rfl, Nat.le_of_ble_eq_true rfl⟩ (Nat.le_of_ble_eq_true rfl) (fun a_55 w_55 h_55 ok_55 => ?_)
        refine r_iret rfl dC_copy_58 ⟨_, rfl, ?_⟩
        have e9 : fCopy (zSz w k) (zSz w o) (w.1 14 k) (w.1 14 o) k i o j n = -11 := (by unfold fCopy zSz; (repeat' split) <;> omega)
        exact ⟨by rw [e9]; omega, fun i' k' hk' => by rw [e9, if_neg (by omega)]; exact (show zEq w w_55 from by rw [h_55.1, ew_2]; exact ((zEq.refl w).put (by decide)).put (by decide)) i' k' hk'⟩
      · refine r_aload_n 0 0 dC_copy_41 rfl rfl ?_
        refine r_getR (k := 1) (b := 2) fX6 rfl rfl rfl (by decide) kw_188 rfl dC_copy_42 ?_
        refine r_getRN (k := 1) (b := 13) fX4 rfl rfl rfl (by decide) kw_79 rfl dC_copy_45 ?_
        refine r_iload_n 3 3 dC_copy_48 rfl rfl ?_
        refine r_baload rfl (by decide) dC_copy_49 (by omega) (by omega) rfl (fun y_49 ey_49 ly_49 uy_49 => ?_)
        rw [ew_2, zput_i (i := 0) (i' := 13) _ _ _ _ (by decide)] at ey_49
        refine r_if_ne 59 dC_copy_50 (by decide) ⟨by omega, by omega⟩ (fun c_50 => ?_) (fun c_50 => ?_)
        · refine r_aload_n 0 0 dC_copy_59 rfl rfl ?_
          refine r_getR (k := 1) (b := 2) fX6 rfl rfl rfl (by decide) kw_188 rfl dC_copy_60 ?_
          refine r_getRN (k := 2) (b := 14) fX4 rfl rfl rfl (by decide) kw_81 rfl dC_copy_63 ?_
          refine r_iload_n 1 1 dC_copy_66 rfl rfl ?_
          refine r_iaload rfl (by decide) dC_copy_67 (by omega) (by omega) rfl (fun y_67 ey_67 ly_67 uy_67 => ?_)
          rw [ew_2, zput_i (i := 0) (i' := 14) _ _ _ _ (by decide)] at ey_67
          refine r_aload_n 0 0 dC_copy_68 rfl rfl ?_
          refine r_getR (k := 1) (b := 2) fX6 rfl rfl rfl (by decide) kw_188 rfl dC_copy_69 ?_
          refine r_getRN (k := 2) (b := 14) fX4 rfl rfl rfl (by decide) kw_81 rfl dC_copy_72 ?_
          refine r_iload_n 3 3 dC_copy_75 rfl rfl ?_
          refine r_iaload rfl (by decide) dC_copy_76 (by omega) (by omega) rfl (fun y_76 ey_76 ly_76 uy_76 => ?_)
          rw [ew_2, zput_i (i := 0) (i' := 14) _ _ _ _ (by decide)] at ey_76
          refine r_ic_eq 86 dC_copy_77 (by decide) ⟨by omega, by omega⟩ ⟨by omega, by omega⟩ (fun c_77 => ?_) (fun c_77 => ?_)
          · refine r_aload_n 0 0 dC_copy_86 rfl rfl ?_
            refine r_getR (k := 1) (b := 2) fX6 rfl rfl rfl (by decide) kw_188 rfl dC_copy_87 ?_
            refine r_iload_n 1 1 dC_copy_90 rfl rfl ?_
            refine r_iload_n 2 2 dC_copy_91 rfl rfl ?_
            refine r_iload 5 5 dC_copy_92 rfl ?_
            refine r_cVIN (cS_spans w_2 k i n (by omega) (by omega) (by omega) (by omega)) qS_spans rfl kw_231 rfl rfl dC_copy_94 (st0 := [zI n, zI i, zI k, zR 2]) (st := []) rfl ⟨Nat.le_of_ble_eq_true rfl, Nat.le_of_ble_eq_true rfl⟩ ⟨Nat.le_of_ble_eq_true rfl, Nat.le_of_ble_eq_true rfl⟩ (Nat.le_of_ble_eq_true rfl) (fun a_94 w_94 h_94 ok_94 => ?_)
            obtain ⟨rfl, h_94⟩ := h_94
            have z_94_0 : w_2.1 15 k = w.1 15 k := by rw [ew_2, zput_i (i := 0) (i' := 15) _ _ _ _ (by decide)]
            refine r_if_eq 115 dC_copy_97 (by decide) ⟨by omega, by omega⟩ (fun c_97 => ?_) (fun c_97 => ?_)
            · refine r_aload_n 0 0 dC_copy_115 rfl rfl ?_
              refine r_iconst dC_copy_116 ?_
              refine r_cVI (cC_faulty w_2 3 (by omega) (by omega)) qC_faulty rfl kw_227 rfl rfl dC_copy_117 (st0 := [zI 3, zR 0]) (st := []) rfl ⟨Nat.le_of_ble_eq_true rfl, Nat.le_of_ble_eq_true rfl⟩ ⟨Nat.le_of_ble_eq_true rfl, Nat.le_of_ble_eq_true rfl⟩ (Nat.le_of_ble_eq_true rfl) (fun a_117 w_117 h_117 ok_117 => ?_)
              refine r_iret rfl dC_copy_120 ⟨_, rfl, ?_⟩
              have e9 : fCopy (zSz w k) (zSz w o) (w.1 14 k) (w.1 14 o) k i o j n = -13 := (by unfold fCopy zSz; (repeat' split) <;> omega)
              exact ⟨by rw [e9]; omega, fun i' k' hk' => by rw [e9, if_neg (by omega)]; exact (show zEq w w_117 from by rw [h_117.1, ew_2]; exact ((zEq.refl w).put (by decide)).put (by decide)) i' k' hk'⟩
            · refine r_aload_n 0 0 dC_copy_100 rfl rfl ?_
              refine r_getR (k := 1) (b := 2) fX6 rfl rfl rfl (by decide) kw_188 rfl dC_copy_101 ?_
              refine r_iload_n 3 3 dC_copy_104 rfl rfl ?_
              refine r_iload 4 4 dC_copy_105 rfl ?_
              refine r_iload 5 5 dC_copy_107 rfl ?_
              refine r_cVIN (cS_spans w_2 o j n (by omega) (by omega) (by omega) (by omega)) qS_spans rfl kw_231 rfl rfl dC_copy_109 (st0 := [zI n, zI j, zI o, zR 2]) (st := []) rfl ⟨Nat.le_of_ble_eq_true rfl, Nat.le_of_ble_eq_true rfl⟩ ⟨Nat.le_of_ble_eq_true rfl, Nat.le_of_ble_eq_true rfl⟩ (Nat.le_of_ble_eq_true rfl) (fun a_109 w_109 h_109 ok_109 => ?_)
              obtain ⟨rfl, h_109⟩ := h_109
              have z_109_0 : w_2.1 15 o = w.1 15 o := by rw [ew_2, zput_i (i := 0) (i' := 15) _ _ _ _ (by decide)]
              refine r_if_ne 121 dC_copy_112 (by decide) ⟨by omega, by omega⟩ (fun c_112 => ?_) (fun c_112 => ?_)
              · refine r_aload_n 0 0 dC_copy_121 rfl rfl ?_
                refine r_getR (k := 1) (b := 2) fX6 rfl rfl rfl (by decide) kw_188 rfl dC_copy_122 ?_
                refine r_getRN (k := 0) (b := 12) fX4 rfl rfl rfl (by decide) kw_77 rfl dC_copy_125 ?_
                refine r_iload_n 1 1 dC_copy_128 rfl rfl ?_
                refine r_aaload (b := (16 + k.toNat)) rfl (by decide) dC_copy_129 (by omega) (by omega) (z_row _ (by omega) (by omega)) ?_
                refine r_iload_n 2 2 dC_copy_130 rfl rfl ?_
                refine r_aload_n 0 0 dC_copy_131 rfl rfl ?_
                refine r_getR (k := 1) (b := 2) fX6 rfl rfl rfl (by decide) kw_188 rfl dC_copy_132 ?_
                refine r_getRN (k := 0) (b := 12) fX4 rfl rfl rfl (by decide) kw_77 rfl dC_copy_135 ?_
                refine r_iload_n 3 3 dC_copy_138 rfl rfl ?_
                refine r_aaload (b := (16 + o.toNat)) rfl (by decide) dC_copy_139 (by omega) (by omega) (z_row _ (by omega) (by omega)) ?_
                refine r_iload 4 4 dC_copy_140 rfl ?_
                refine r_iload 5 5 dC_copy_142 rfl ?_
                refine r_copy (a := (16 + k.toNat)) (b := (16 + o.toNat)) (z_rowS (j := k) (by omega) (by omega)) (z_rowS (j := o) (by omega) (by omega)) (by decide) (by decide) (by decide) (by decide) kw_456 kw_458 kw_457 kw_10 dC_copy_144 (by omega) (by omega) (by omega) (by omega) (by omega) (fun q q2 => by rw [z_rowB (by omega) (by omega), z_rowB (by omega) (by omega)]) (Nat.le_of_ble_eq_true rfl) (Nat.le_of_ble_eq_true rfl) (fun w_144 ew_144 => ?_)
                refine r_iload 5 5 dC_copy_147 rfl ?_
                refine r_iret rfl dC_copy_149 ⟨_, rfl, ?_⟩
                have e9 : fCopy (zSz w k) (zSz w o) (w.1 14 k) (w.1 14 o) k i o j n = n := (by unfold fCopy zSz; (repeat' split) <;> omega)
                have e8 : ∀ q, w_2.1 (16 + k.toNat) q = w.1 (16 + k.toNat) q := fun q => by rw [ew_2, zput_i _ _ _ _ (by omega)]
                exact ⟨e9.symm, fun i' k' hk' => by rw [e9, ew_144]; show (if i' = 16 + o.toNat ∧ j ≤ k' ∧ k' < j + n then w_2.1 (16 + k.toNat) (i + (k' - j)) else w_2.1 i' k') = _; rw [e8]; split; (rw [if_pos ⟨by omega, by assumption⟩]); (rw [if_neg (fun q => by simp_all)]; exact (show zEq w w_2 from by rw [ew_2]; exact (zEq.refl w).put (by decide)) i' k' hk')⟩
              · refine r_aload_n 0 0 dC_copy_115 rfl rfl ?_
                refine r_iconst dC_copy_116 ?_
                refine r_cVI (cC_faulty w_2 3 (by omega) (by omega)) qC_faulty rfl kw_227 rfl rfl dC_copy_117 (st0 := [zI 3, zR 0]) (st := []) rfl ⟨Nat.le_of_ble_eq_true rfl, Nat.le_of_ble_eq_true rfl⟩ ⟨Nat.le_of_ble_eq_true rfl, Nat.le_of_ble_eq_true rfl⟩ (Nat.le_of_ble_eq_true rfl) (fun a_117 w_117 h_117 ok_117 => ?_)
                refine r_iret rfl dC_copy_120 ⟨_, rfl, ?_⟩
                have e9 : fCopy (zSz w k) (zSz w o) (w.1 14 k) (w.1 14 o) k i o j n = -13 := (by unfold fCopy zSz; (repeat' split) <;> omega)
                exact ⟨by rw [e9]; omega, fun i' k' hk' => by rw [e9, if_neg (by omega)]; exact (show zEq w w_117 from by rw [h_117.1, ew_2]; exact ((zEq.refl w).put (by decide)).put (by decide)) i' k' hk'⟩
          · refine r_aload_n 0 0 dC_copy_80 rfl rfl ?_
            refine r_iconst dC_copy_81 ?_
            refine r_cVI (cC_faulty w_2 2 (by omega) (by omega)) qC_faulty rfl kw_227 rfl rfl dC_copy_82 (st0 := [zI 2, zR 0]) (st := []) rfl ⟨Nat.le_of_ble_eq_true rfl, Nat.le_of_ble_eq_true rfl⟩ ⟨Nat.le_of_ble_eq_true rfl, Nat.le_of_ble_eq_true rfl⟩ (Nat.le_of_ble_eq_true rfl) (fun a_82 w_82 h_82 ok_82 => ?_)
            refine r_iret rfl dC_copy_85 ⟨_, rfl, ?_⟩
            have e9 : fCopy (zSz w k) (zSz w o) (w.1 14 k) (w.1 14 o) k i o j n = -12 := (by unfold fCopy zSz; (repeat' split) <;> omega)
            exact ⟨by rw [e9]; omega, fun i' k' hk' => by rw [e9, if_neg (by omega)]; exact (show zEq w w_82 from by rw [h_82.1, ew_2]; exact ((zEq.refl w).put (by decide)).put (by decide)) i' k' hk'⟩
        · refine r_aload_n 0 0 dC_copy_53 rfl rfl ?_
          refine r_iconst dC_copy_54 ?_
          refine r_cVI (cC_faulty w_2 1 (by omega) (by omega)) qC_faulty rfl kw_227 rfl rfl dC_copy_55 (st0 := [zI 1, zR 0]) (st := []) rfl ⟨Nat.le_of_ble_eq_true rfl, Nat.le_of_ble_eq_true rfl⟩ ⟨Nat.le_of_ble_eq_true rfl, Nat.le_of_ble_eq_true rfl⟩ (Nat.le_of_ble_eq_true rfl) (fun a_55 w_55 h_55 ok_55 => ?_)
          refine r_iret rfl dC_copy_58 ⟨_, rfl, ?_⟩
          have e9 : fCopy (zSz w k) (zSz w o) (w.1 14 k) (w.1 14 o) k i o j n = -11 := (by unfold fCopy zSz; (repeat' split) <;> omega)
          exact ⟨by rw [e9]; omega, fun i' k' hk' => by rw [e9, if_neg (by omega)]; exact (show zEq w w_55 from by rw [h_55.1, ew_2]; exact ((zEq.refl w).put (by decide)).put (by decide)) i' k' hk'⟩
    · refine r_iconst dC_copy_27 ?_
      refine r_iret rfl dC_copy_28 ⟨_, rfl, ?_⟩
      have e9 : fCopy (zSz w k) (zSz w o) (w.1 14 k) (w.1 14 o) k i o j n = -1 := (by unfold fCopy zSz; (repeat' split) <;> omega)
      exact ⟨e9.symm, fun i' k' hk' => by rw [e9, if_neg (by omega)]; exact (show zEq w w_2 from by rw [ew_2]; exact (zEq.refl w).put (by decide)) i' k' hk'⟩

set_option maxRecDepth 20000 in
set_option maxHeartbeats 4000000 in
theorem cC_sheet (w : zW) (k : Int) (lane : Int) (n : Int) (zk : zin k) (zlane : zin lane) (zn : zin n) : zC mC_sheet 1 [zR 0, zI k, zI lane, zI n] w (zrI fun a w' => a = fSheet k lane n ∧ (∀ i' k', zkeep i' k' = true → w'.1 i' k' = (if fSheet k lane n = 1 then (if i' = 13 ∧ k' = k then 1 else if i' = 14 ∧ k' = k then lane else if i' = 15 ∧ k' = k then n else if i' = 16 + k.toNat ∧ 0 ≤ k' ∧ k' < n then 0 else w.1 i' k') else w.1 i' k'))) := by
  refine zC.of (by decide +kernel) (Nat.le_of_ble_eq_true rfl) ?_
  show zM mC_sheet (zZm 1 _) 0 [(0, zR 0), (1, zI k), (2, zI lane), (3, zI n)] [] w
  refine r_aload_n 0 0 dC_sheet_0 rfl rfl ?_
  refine r_iconst dC_sheet_1 ?_
  refine r_putI (k := 7) fX6 rfl rfl (by decide) kw_194 rfl rfl (by decide +kernel) 7 rfl dC_sheet_2 rfl (by omega) (by omega) (fun w_2 ew_2 => ?_)
  refine r_aload_n 0 0 dC_sheet_5 rfl rfl ?_
  refine r_getR (k := 1) (b := 2) fX6 rfl rfl rfl (by decide) kw_188 rfl dC_sheet_6 ?_
  refine r_iload_n 1 1 dC_sheet_9 rfl rfl ?_
  refine r_cVIN (cS_isSheet w_2 k (by omega)) qS_isSheet rfl kw_216 rfl rfl dC_sheet_10 (st0 := [zI k, zR 2]) (st := []) rfl ⟨Nat.le_of_ble_eq_true rfl, Nat.le_of_ble_eq_true rfl⟩ ⟨Nat.le_of_ble_eq_true rfl, Nat.le_of_ble_eq_true rfl⟩ (Nat.le_of_ble_eq_true rfl) (fun a_10 w_10 h_10 ok_10 => ?_)
  obtain ⟨rfl, h_10⟩ := h_10
  refine r_if_ne 18 dC_sheet_13 (by decide) ⟨by omega, by omega⟩ (fun c_13 => ?_) (fun c_13 => ?_)
  · refine r_iload_n 2 2 dC_sheet_18 rfl rfl ?_
    refine r_cSI (cC_isLane w_2 lane (by omega)) qC_isLane rfl kw_220 dC_sheet_19 (st0 := [zI lane]) (st := []) rfl ⟨Nat.le_of_ble_eq_true rfl, Nat.le_of_ble_eq_true rfl⟩ ⟨Nat.le_of_ble_eq_true rfl, Nat.le_of_ble_eq_true rfl⟩ (Nat.le_of_ble_eq_true rfl) (fun a_19 w_19 h_19 ok_19 => ?_)
    obtain ⟨rfl, h_19⟩ := h_19
    refine r_if_eq 31 dC_sheet_22 (by decide) ⟨by omega, by omega⟩ (fun c_22 => ?_) (fun c_22 => ?_)
    · refine r_bipush dC_sheet_31 (by decide) ?_
      refine r_iret rfl dC_sheet_33 ⟨_, rfl, ?_⟩
      have e9 : fSheet k lane n = (-2) := (by unfold fSheet; (repeat' split) <;> omega)
      exact ⟨e9.symm, fun i' k' hk' => by rw [e9, if_neg (by omega)]; exact (show zEq w w_2 from by rw [ew_2]; exact (zEq.refl w).put (by decide)) i' k' hk'⟩
    · refine r_iload_n 3 3 dC_sheet_25 rfl rfl ?_
      refine r_bipush dC_sheet_26 (by decide) ?_
      refine r_ic_le 34 dC_sheet_28 (by decide) ⟨by omega, by omega⟩ ⟨by omega, by omega⟩ (fun c_28 => ?_) (fun c_28 => ?_)
      · refine r_iload_n 3 3 dC_sheet_34 rfl rfl ?_
        refine r_if_ge 44 dC_sheet_35 (by decide) ⟨by omega, by omega⟩ (fun c_35 => ?_) (fun c_35 => ?_)
        · refine r_aload_n 0 0 dC_sheet_44 rfl rfl ?_
          refine r_getR (k := 1) (b := 2) fX6 rfl rfl rfl (by decide) kw_188 rfl dC_sheet_45 ?_
          refine r_iload_n 1 1 dC_sheet_48 rfl rfl ?_
          refine r_iload_n 2 2 dC_sheet_49 rfl rfl ?_
          refine r_iload_n 3 3 dC_sheet_50 rfl rfl ?_
          refine r_cVVN (cS_renew w_2 k lane n (by omega) (by omega) (by omega) (by omega) (by omega) (by omega)) qS_renew rfl kw_429 rfl rfl dC_sheet_51 (st0 := [zI n, zI lane, zI k, zR 2]) (st := []) rfl ⟨Nat.le_of_ble_eq_true rfl, Nat.le_of_ble_eq_true rfl⟩ ⟨Nat.le_of_ble_eq_true rfl, Nat.le_of_ble_eq_true rfl⟩ (Nat.le_of_ble_eq_true rfl) (fun w_51 h_51 ok_51 => ?_)
          refine r_iconst dC_sheet_54 ?_
          refine r_iret rfl dC_sheet_55 ⟨_, rfl, ?_⟩
          have e9 : fSheet k lane n = 1 := (by unfold fSheet; (repeat' split) <;> omega)
          exact ⟨e9.symm, fun i' k' hk' => by rw [e9, if_pos rfl, h_51]; (repeat' split) <;> first | rfl | exact (show zEq w w_2 from by rw [ew_2]; exact (zEq.refl w).put (by decide)) i' k' hk'⟩
        · refine r_aload_n 0 0 dC_sheet_38 rfl rfl ?_
          refine r_iconst dC_sheet_39 ?_
          refine r_cVI (cC_faulty w_2 4 (by omega) (by omega)) qC_faulty rfl kw_227 rfl rfl dC_sheet_40 (st0 := [zI 4, zR 0]) (st := []) rfl ⟨Nat.le_of_ble_eq_true rfl, Nat.le_of_ble_eq_true rfl⟩ ⟨Nat.le_of_ble_eq_true rfl, Nat.le_of_ble_eq_true rfl⟩ (Nat.le_of_ble_eq_true rfl) (fun a_40 w_40 h_40 ok_40 => ?_)
          refine r_iret rfl dC_sheet_43 ⟨_, rfl, ?_⟩
          have e9 : fSheet k lane n = -14 := (by unfold fSheet; (repeat' split) <;> omega)
          exact ⟨by rw [e9]; omega, fun i' k' hk' => by rw [e9, if_neg (by omega)]; exact (show zEq w w_40 from by rw [h_40.1, ew_2]; exact ((zEq.refl w).put (by decide)).put (by decide)) i' k' hk'⟩
      · refine r_bipush dC_sheet_31 (by decide) ?_
        refine r_iret rfl dC_sheet_33 ⟨_, rfl, ?_⟩
        have e9 : fSheet k lane n = (-2) := (by unfold fSheet; (repeat' split) <;> omega)
        exact ⟨e9.symm, fun i' k' hk' => by rw [e9, if_neg (by omega)]; exact (show zEq w w_2 from by rw [ew_2]; exact (zEq.refl w).put (by decide)) i' k' hk'⟩
  · refine r_iconst dC_sheet_16 ?_
    refine r_iret rfl dC_sheet_17 ⟨_, rfl, ?_⟩
    have e9 : fSheet k lane n = (-1) := (by unfold fSheet; (repeat' split) <;> omega)
    exact ⟨e9.symm, fun i' k' hk' => by rw [e9, if_neg (by omega)]; exact (show zEq w w_2 from by rw [ew_2]; exact (zEq.refl w).put (by decide)) i' k' hk'⟩

set_option maxRecDepth 20000 in
set_option maxHeartbeats 4000000 in
theorem cC_refusedPairs (w : zW) (k : Int) (lane : Int) (i : Int) (n : Int) (hk0 : 0 ≤ k) (hk1 : k < 4) (zlane : zin lane) (zi : zin i) (hn0 : 0 ≤ n) (hn1 : n ≤ 20) : zC mC_refusedPairs 1 [zR 0, zI k, zI lane, zI i, zI n] w (zrI fun a w' => a = fPairs (w.1 1 3) (w.1 1 2) (zSz w k) (w.1 14 k) lane i n (fun j => w.1 (16 + k.toNat) (i + j)) ∧ ((¬ a = 0 ∧ ((∃ f : Int, w' = zput w 0 7 f) ∨ w' = w)) ∨ (a = 0 ∧ w' = w ∧ 0 ≤ i ∧ i + 2 * n ≤ w.1 15 k ∧ (∀ p : Int, 0 ≤ p → p < n → 0 ≤ w.1 (16 + k.toNat) (i + 2 * p) ∧ w.1 (16 + k.toNat) (i + 2 * p) < w.1 1 3 ∧ 0 ≤ w.1 (16 + k.toNat) (i + 2 * p + 1) ∧ w.1 (16 + k.toNat) (i + 2 * p + 1) < w.1 1 2)))) := by
  refine zC.of (by decide +kernel) (Nat.le_of_ble_eq_true rfl) ?_
  show zM mC_refusedPairs (zZm 1 _) 0 [(0, zR 0), (1, zI k), (2, zI lane), (3, zI i), (4, zI n)] [] w
  refine r_ok (fun hO => ?_)
  have hL := hO 15 k
  change 0 ≤ w.1 15 k ∧ w.1 15 k ≤ 60 at hL
  have hG := hO 1 3
  change 0 ≤ w.1 1 3 ∧ w.1 1 3 ≤ 6 at hG
  have hDs := hO 1 2
  change 0 ≤ w.1 1 2 ∧ w.1 1 2 ≤ 4 at hDs
  refine r_aload_n 0 0 dC_refusedPairs_0 rfl rfl ?_
  refine r_getR (k := 1) (b := 2) fX6 rfl rfl rfl (by decide) kw_188 rfl dC_refusedPairs_1 ?_
  refine r_iload_n 1 1 dC_refusedPairs_4 rfl rfl ?_
  refine r_iload_n 2 2 dC_refusedPairs_5 rfl rfl ?_
  refine r_cVIN (cS_faultAsRow w k lane (by omega) (by omega) (by omega)) qS_faultAsRow rfl kw_223 rfl rfl dC_refusedPairs_6 (st0 := [zI lane, zI k, zR 2]) (st := []) rfl ⟨Nat.le_of_ble_eq_true rfl, Nat.le_of_ble_eq_true rfl⟩ ⟨Nat.le_of_ble_eq_true rfl, Nat.le_of_ble_eq_true rfl⟩ (Nat.le_of_ble_eq_true rfl) (fun a_6 w_6 h_6 ok_6 => ?_)
  obtain ⟨rfl, h_6⟩ := h_6
  refine r_istore (ls' := [(5, zI a_6), (0, zR 0), (1, zI k), (2, zI lane), (3, zI i), (4, zI n)]) 5 dC_refusedPairs_9 (by decide) rfl ?_
  refine r_iload 5 0 dC_refusedPairs_11 rfl ?_
  refine r_if_eq 23 dC_refusedPairs_13 (by decide) ⟨by omega, by omega⟩ (fun c_13 => ?_) (fun c_13 => ?_)
  · refine r_aload_n 0 1 dC_refusedPairs_23 rfl rfl ?_
    refine r_getR (k := 1) (b := 2) fX6 rfl rfl rfl (by decide) kw_188 rfl dC_refusedPairs_24 ?_
    refine r_iload_n 1 2 dC_refusedPairs_27 rfl rfl ?_
    refine r_iload_n 3 4 dC_refusedPairs_28 rfl rfl ?_
    refine r_iconst dC_refusedPairs_29 ?_
    refine r_iload 4 5 dC_refusedPairs_30 rfl ?_
    refine r_imul dC_refusedPairs_32 ?_
    refine r_cVIN (cS_spans w k i (2 * n) (by omega) (by omega) (by omega) (by omega)) qS_spans rfl kw_231 rfl rfl dC_refusedPairs_33 (st0 := [zI (2 * n), zI i, zI k, zR 2]) (st := []) rfl ⟨Nat.le_of_ble_eq_true rfl, Nat.le_of_ble_eq_true rfl⟩ ⟨Nat.le_of_ble_eq_true rfl, Nat.le_of_ble_eq_true rfl⟩ (Nat.le_of_ble_eq_true rfl) (fun a_33 w_33 h_33 ok_33 => ?_)
    obtain ⟨rfl, h_33⟩ := h_33
    refine r_if_ne 45 dC_refusedPairs_36 (by decide) ⟨by omega, by omega⟩ (fun c_36 => ?_) (fun c_36 => ?_)
    · refine r_aload_n 0 1 dC_refusedPairs_45 rfl rfl ?_
      refine r_getR (k := 1) (b := 2) fX6 rfl rfl rfl (by decide) kw_188 rfl dC_refusedPairs_46 ?_
      refine r_getRN (k := 0) (b := 12) fX4 rfl rfl rfl (by decide) kw_77 rfl dC_refusedPairs_49 ?_
      refine r_iload_n 1 2 dC_refusedPairs_52 rfl rfl ?_
      refine r_aaload (b := (16 + k.toNat)) rfl (by decide) dC_refusedPairs_53 (by omega) (by omega) (z_row _ (by omega) (by omega)) ?_
      refine r_astore (ls' := [(6, zR (16 + k.toNat)), (5, zI a_6), (0, zR 0), (1, zI k), (2, zI lane), (3, zI i), (4, zI n)]) 6 dC_refusedPairs_54 (by decide) rfl ?_
      refine r_iconst dC_refusedPairs_56 ?_
      refine r_istore (ls' := [(7, zI 0), (6, zR (16 + k.toNat)), (5, zI a_6), (0, zR 0), (1, zI k), (2, zI lane), (3, zI i), (4, zI n)]) 7 dC_refusedPairs_57 (by decide) rfl ?_
      have L_59 : ∀ (n_59 : Nat) (x : Int) (hx0 : 0 ≤ x) (hx1 : x ≤ n) (hp : zPB (w.1 1 3) (w.1 1 2) (fun j => w.1 (16 + k.toNat) (i + j)) x.toNat = true), n - x < (n_59 : Int) → zM mC_refusedPairs (zZm 1 (zrI fun a w' => a = fPairs (w.1 1 3) (w.1 1 2) (zSz w k) (w.1 14 k) lane i n (fun j => w.1 (16 + k.toNat) (i + j)) ∧ ((¬ a = 0 ∧ ((∃ f : Int, w' = zput w 0 7 f) ∨ w' = w)) ∨ (a = 0 ∧ w' = w ∧ 0 ≤ i ∧ i + 2 * n ≤ w.1 15 k ∧ (∀ p : Int, 0 ≤ p → p < n → 0 ≤ w.1 (16 + k.toNat) (i + 2 * p) ∧ w.1 (16 + k.toNat) (i + 2 * p) < w.1 1 3 ∧ 0 ≤ w.1 (16 + k.toNat) (i + 2 * p + 1) ∧ w.1 (16 + k.toNat) (i + 2 * p + 1) < w.1 1 2))))) 59 [(7, zI x), (6, zR (16 + k.toNat)), (5, zI a_6), (0, zR 0), (1, zI k), (2, zI lane), (3, zI i), (4, zI n)] [] w := by
        intro n_59
        induction n_59 with
        | zero => intro x hx0 hx1 hp hm_59; exfalso; omega
        | succ n_59 ih_59 =>
          intro x hx0 hx1 hp hm_59
          refine r_iload 7 0 dC_refusedPairs_59 rfl ?_
          refine r_iload 4 7 dC_refusedPairs_61 rfl ?_
          refine r_ic_ge 114 dC_refusedPairs_63 (by decide) ⟨by omega, by omega⟩ ⟨by omega, by omega⟩ (fun c_63 => ?_) (fun c_63 => ?_)
          · refine r_iconst dC_refusedPairs_114 ?_
            refine r_iret rfl dC_refusedPairs_115 ⟨_, rfl, ?_⟩
            have hx9 : x.toNat = n.toNat := (by omega)
            rw [hx9] at hp
            exact ⟨by unfold fPairs zSz; rw [hp]; (repeat' split) <;> first | omega | (exfalso; simp_all; done), Or.inr ⟨rfl, rfl, by omega, by omega, fun p h0 h1 => by have h9 := zPB_t _ hp p h0 (by omega); rw [Int.add_assoc]; exact h9⟩⟩
          · refine r_aload_n 0 3 dC_refusedPairs_66 rfl rfl ?_
            refine r_getR (k := 0) (b := 1) fX6 rfl rfl rfl (by decide) kw_187 rfl dC_refusedPairs_67 ?_
            refine r_aload 6 1 dC_refusedPairs_70 rfl ?_
            refine r_iload_n 3 6 dC_refusedPairs_72 rfl rfl ?_
            refine r_iconst dC_refusedPairs_73 ?_
            refine r_iload 7 0 dC_refusedPairs_74 rfl ?_
            refine r_imul dC_refusedPairs_76 ?_
            refine r_iadd dC_refusedPairs_77 ?_
            refine r_iaload (z_rowS (j := k) (by omega) (by omega)) (by decide) dC_refusedPairs_78 (by omega) (by omega) (z_rowB (j := k) (by omega) (by omega) _) (fun y_78 ey_78 ly_78 uy_78 => ?_)
            refine r_cVIN (cH_isGuest w y_78 (by omega)) qH_isGuest rfl kw_266 rfl rfl dC_refusedPairs_79 (st0 := [zI y_78, zR 1]) (st := []) rfl ⟨Nat.le_of_ble_eq_true rfl, Nat.le_of_ble_eq_true rfl⟩ ⟨Nat.le_of_ble_eq_true rfl, Nat.le_of_ble_eq_true rfl⟩ (Nat.le_of_ble_eq_true rfl) (fun a_79 w_79 h_79 ok_79 => ?_)
            obtain ⟨rfl, h_79⟩ := h_79
            refine r_if_eq 106 dC_refusedPairs_82 (by decide) ⟨by omega, by omega⟩ (fun c_82 => ?_) (fun c_82 => ?_)
            · refine r_iconst dC_refusedPairs_106 ?_
              refine r_iret rfl dC_refusedPairs_107 ⟨_, rfl, ?_⟩
              exact ⟨by unfold fPairs zSz; rw [zPB_f hx0 (by show ¬ (0 ≤ w.1 (16 + k.toNat) (i + 2 * x) ∧ w.1 (16 + k.toNat) (i + 2 * x) < _ ∧ 0 ≤ w.1 (16 + k.toNat) (i + (2 * x + 1)) ∧ w.1 (16 + k.toNat) (i + (2 * x + 1)) < _); rw [← ey_78]; first | omega | (rw [← Int.add_assoc, ← ey_99]); omega) _ (by omega)]; (repeat' split) <;> first | omega | (exfalso; simp_all; done), Or.inl ⟨by omega, Or.inr rfl⟩⟩
            · refine r_aload_n 0 3 dC_refusedPairs_85 rfl rfl ?_
              refine r_getR (k := 0) (b := 1) fX6 rfl rfl rfl (by decide) kw_187 rfl dC_refusedPairs_86 ?_
              refine r_aload 6 1 dC_refusedPairs_89 rfl ?_
              refine r_iload_n 3 6 dC_refusedPairs_91 rfl rfl ?_
              refine r_iconst dC_refusedPairs_92 ?_
              refine r_iload 7 0 dC_refusedPairs_93 rfl ?_
              refine r_imul dC_refusedPairs_95 ?_
              refine r_iadd dC_refusedPairs_96 ?_
              refine r_iconst dC_refusedPairs_97 ?_
              refine r_iadd dC_refusedPairs_98 ?_
              refine r_iaload (z_rowS (j := k) (by omega) (by omega)) (by decide) dC_refusedPairs_99 (by omega) (by omega) (z_rowB (j := k) (by omega) (by omega) _) (fun y_99 ey_99 ly_99 uy_99 => ?_)
              refine r_cVIN (cH_isDoing w y_99 (by omega)) qH_isDoing rfl kw_274 rfl rfl dC_refusedPairs_100 (st0 := [zI y_99, zR 1]) (st := []) rfl ⟨Nat.le_of_ble_eq_true rfl, Nat.le_of_ble_eq_true rfl⟩ ⟨Nat.le_of_ble_eq_true rfl, Nat.le_of_ble_eq_true rfl⟩ (Nat.le_of_ble_eq_true rfl) (fun a_100 w_100 h_100 ok_100 => ?_)
              obtain ⟨rfl, h_100⟩ := h_100
              refine r_if_ne 108 dC_refusedPairs_103 (by decide) ⟨by omega, by omega⟩ (fun c_103 => ?_) (fun c_103 => ?_)
              · refine r_iinc (ls' := [(7, zI (x + 1)), (6, zR (16 + k.toNat)), (5, zI a_6), (0, zR 0), (1, zI k), (2, zI lane), (3, zI i), (4, zI n)]) 7 0 dC_refusedPairs_108 rfl (by decide) rfl ?_
                refine r_goto 59 dC_refusedPairs_111 (by decide) ?_
                exact ih_59 (x + 1) (by omega) (by omega) (by rw [zPB_s _ _ _ hx0, hp, Bool.true_and]; refine decide_eq_true ?_; show 0 ≤ w.1 (16 + k.toNat) (i + 2 * x) ∧ w.1 (16 + k.toNat) (i + 2 * x) < _ ∧ 0 ≤ w.1 (16 + k.toNat) (i + (2 * x + 1)) ∧ w.1 (16 + k.toNat) (i + (2 * x + 1)) < _; rw [← Int.add_assoc, ← ey_78, ← ey_99]; omega) (by omega)
              · refine r_iconst dC_refusedPairs_106 ?_
                refine r_iret rfl dC_refusedPairs_107 ⟨_, rfl, ?_⟩
                exact ⟨by unfold fPairs zSz; rw [zPB_f hx0 (by show ¬ (0 ≤ w.1 (16 + k.toNat) (i + 2 * x) ∧ w.1 (16 + k.toNat) (i + 2 * x) < _ ∧ 0 ≤ w.1 (16 + k.toNat) (i + (2 * x + 1)) ∧ w.1 (16 + k.toNat) (i + (2 * x + 1)) < _); rw [← ey_78]; first | omega | (rw [← Int.add_assoc, ← ey_99]); omega) _ (by omega)]; (repeat' split) <;> first | omega | (exfalso; simp_all; done), Or.inl ⟨by omega, Or.inr rfl⟩⟩
      exact L_59 100 0 (by omega) (by omega) rfl (by omega)
    · refine r_aload_n 0 1 dC_refusedPairs_39 rfl rfl ?_
      refine r_iconst dC_refusedPairs_40 ?_
      refine r_cVI (cC_faulty w 3 (by omega) (by omega)) qC_faulty rfl kw_227 rfl rfl dC_refusedPairs_41 (st0 := [zI 3, zR 0]) (st := []) rfl ⟨Nat.le_of_ble_eq_true rfl, Nat.le_of_ble_eq_true rfl⟩ ⟨Nat.le_of_ble_eq_true rfl, Nat.le_of_ble_eq_true rfl⟩ (Nat.le_of_ble_eq_true rfl) (fun a_41 w_41 h_41 ok_41 => ?_)
      refine r_iret rfl dC_refusedPairs_44 ⟨_, rfl, ?_⟩
      exact ⟨by unfold fPairs zSz; (repeat' split) <;> omega, Or.inl ⟨by omega, Or.inl ⟨_, h_41.1⟩⟩⟩
  · refine r_aload_n 0 1 dC_refusedPairs_16 rfl rfl ?_
    refine r_iload 5 0 dC_refusedPairs_17 rfl ?_
    refine r_cVI (cC_faulty w a_6 (by omega) (by omega)) qC_faulty rfl kw_227 rfl rfl dC_refusedPairs_19 (st0 := [zI a_6, zR 0]) (st := []) rfl ⟨Nat.le_of_ble_eq_true rfl, Nat.le_of_ble_eq_true rfl⟩ ⟨Nat.le_of_ble_eq_true rfl, Nat.le_of_ble_eq_true rfl⟩ (Nat.le_of_ble_eq_true rfl) (fun a_19 w_19 h_19 ok_19 => ?_)
    refine r_iret rfl dC_refusedPairs_22 ⟨_, rfl, ?_⟩
    exact ⟨by unfold fPairs zSz; (repeat' split) <;> omega, Or.inl ⟨by omega, Or.inl ⟨_, h_19.1⟩⟩⟩

set_option maxRecDepth 20000 in
set_option maxHeartbeats 4000000 in
theorem cC_refusedSeason (w : zW) (k : Int) (lane : Int) (i : Int) (n : Int) (v : Int) (zk : zin k) (zlane : zin lane) (zi : zin i) (zn : zin n) (zv : zin v) : zC mC_refusedSeason 2 [zR 0, zI k, zI lane, zI i, zI n, zI v] w (zrI fun a w' => a = (if k < 0 ∨ 4 ≤ k then -1 else if lane < 0 ∨ 2 < lane ∨ n < 0 ∨ 20 < n ∨ v < 0 ∨ 5 < v then -2 else if w.1 1 3 = 0 then -3 else fPairs (w.1 1 3) (w.1 1 2) (zSz w k) (w.1 14 k) lane i n (fun j => w.1 (16 + k.toNat) (i + j))) ∧ ((¬ a = 0 ∧ ((∃ f : Int, w' = zput w 0 7 f) ∨ w' = w)) ∨ (a = 0 ∧ w' = w ∧ 0 ≤ k ∧ k < 4 ∧ 0 ≤ n ∧ n ≤ 20 ∧ 0 ≤ v ∧ v ≤ 5 ∧ 0 < w.1 1 3 ∧ 0 ≤ i ∧ i + 2 * n ≤ w.1 15 k ∧ (∀ p : Int, 0 ≤ p → p < n → 0 ≤ w.1 (16 + k.toNat) (i + 2 * p) ∧ w.1 (16 + k.toNat) (i + 2 * p) < w.1 1 3 ∧ 0 ≤ w.1 (16 + k.toNat) (i + 2 * p + 1) ∧ w.1 (16 + k.toNat) (i + 2 * p + 1) < w.1 1 2)))) := by
  refine zC.of (by decide +kernel) (Nat.le_of_ble_eq_true rfl) ?_
  show zM mC_refusedSeason (zZm 2 _) 0 [(0, zR 0), (1, zI k), (2, zI lane), (3, zI i), (4, zI n), (5, zI v)] [] w
  refine r_aload_n 0 0 dC_refusedSeason_0 rfl rfl ?_
  refine r_getR (k := 1) (b := 2) fX6 rfl rfl rfl (by decide) kw_188 rfl dC_refusedSeason_1 ?_
  refine r_iload_n 1 1 dC_refusedSeason_4 rfl rfl ?_
  refine r_cVIN (cS_isSheet w k (by omega)) qS_isSheet rfl kw_216 rfl rfl dC_refusedSeason_5 (st0 := [zI k, zR 2]) (st := []) rfl ⟨Nat.le_of_ble_eq_true rfl, Nat.le_of_ble_eq_true rfl⟩ ⟨Nat.le_of_ble_eq_true rfl, Nat.le_of_ble_eq_true rfl⟩ (Nat.le_of_ble_eq_true rfl) (fun a_5 w_5 h_5 ok_5 => ?_)
  obtain ⟨rfl, h_5⟩ := h_5
  refine r_if_ne 13 dC_refusedSeason_8 (by decide) ⟨by omega, by omega⟩ (fun c_8 => ?_) (fun c_8 => ?_)
  · refine r_iload_n 2 2 dC_refusedSeason_13 rfl rfl ?_
    refine r_cSI (cC_isLane w lane (by omega)) qC_isLane rfl kw_220 dC_refusedSeason_14 (st0 := [zI lane]) (st := []) rfl ⟨Nat.le_of_ble_eq_true rfl, Nat.le_of_ble_eq_true rfl⟩ ⟨Nat.le_of_ble_eq_true rfl, Nat.le_of_ble_eq_true rfl⟩ (Nat.le_of_ble_eq_true rfl) (fun a_14 w_14 h_14 ok_14 => ?_)
    obtain ⟨rfl, h_14⟩ := h_14
    refine r_if_eq 36 dC_refusedSeason_17 (by decide) ⟨by omega, by omega⟩ (fun c_17 => ?_) (fun c_17 => ?_)
    · refine r_bipush dC_refusedSeason_36 (by decide) ?_
      refine r_iret rfl dC_refusedSeason_38 ⟨_, rfl, ?_⟩
      exact ⟨by (repeat' split) <;> omega, Or.inl ⟨by omega, Or.inr rfl⟩⟩
    · refine r_iload 4 4 dC_refusedSeason_20 rfl ?_
      refine r_cSI (cC_isPairs w n (by omega)) qC_isPairs rfl kw_314 dC_refusedSeason_22 (st0 := [zI n]) (st := []) rfl ⟨Nat.le_of_ble_eq_true rfl, Nat.le_of_ble_eq_true rfl⟩ ⟨Nat.le_of_ble_eq_true rfl, Nat.le_of_ble_eq_true rfl⟩ (Nat.le_of_ble_eq_true rfl) (fun a_22 w_22 h_22 ok_22 => ?_)
      obtain ⟨rfl, h_22⟩ := h_22
      refine r_if_eq 36 dC_refusedSeason_25 (by decide) ⟨by omega, by omega⟩ (fun c_25 => ?_) (fun c_25 => ?_)
      · refine r_bipush dC_refusedSeason_36 (by decide) ?_
        refine r_iret rfl dC_refusedSeason_38 ⟨_, rfl, ?_⟩
        exact ⟨by (repeat' split) <;> omega, Or.inl ⟨by omega, Or.inr rfl⟩⟩
      · refine r_iload 5 5 dC_refusedSeason_28 rfl ?_
        refine r_cSI (cC_isStars w v (by omega)) qC_isStars rfl kw_302 dC_refusedSeason_30 (st0 := [zI v]) (st := []) rfl ⟨Nat.le_of_ble_eq_true rfl, Nat.le_of_ble_eq_true rfl⟩ ⟨Nat.le_of_ble_eq_true rfl, Nat.le_of_ble_eq_true rfl⟩ (Nat.le_of_ble_eq_true rfl) (fun a_30 w_30 h_30 ok_30 => ?_)
        obtain ⟨rfl, h_30⟩ := h_30
        refine r_if_ne 39 dC_refusedSeason_33 (by decide) ⟨by omega, by omega⟩ (fun c_33 => ?_) (fun c_33 => ?_)
        · refine r_aload_n 0 0 dC_refusedSeason_39 rfl rfl ?_
          refine r_getR (k := 0) (b := 1) fX6 rfl rfl rfl (by decide) kw_187 rfl dC_refusedSeason_40 ?_
          refine r_cVIN (cH_isOpen w) qH_isOpen rfl kw_294 rfl rfl dC_refusedSeason_43 (st0 := [zR 1]) (st := []) rfl ⟨Nat.le_of_ble_eq_true rfl, Nat.le_of_ble_eq_true rfl⟩ ⟨Nat.le_of_ble_eq_true rfl, Nat.le_of_ble_eq_true rfl⟩ (Nat.le_of_ble_eq_true rfl) (fun a_43 w_43 h_43 ok_43 => ?_)
          obtain ⟨rfl, h_43⟩ := h_43
          refine r_if_ne 52 dC_refusedSeason_46 (by decide) ⟨by omega, by omega⟩ (fun c_46 => ?_) (fun c_46 => ?_)
          · refine r_aload_n 0 0 dC_refusedSeason_52 rfl rfl ?_
            refine r_iload_n 1 1 dC_refusedSeason_53 rfl rfl ?_
            refine r_iload_n 2 2 dC_refusedSeason_54 rfl rfl ?_
            refine r_iload_n 3 3 dC_refusedSeason_55 rfl rfl ?_
            refine r_iload 4 4 dC_refusedSeason_56 rfl ?_
            refine r_cVI (cC_refusedPairs w k lane i n (by omega) (by omega) (by omega) (by omega) (by omega) (by omega)) qC_refusedPairs rfl kw_317 rfl rfl dC_refusedSeason_58 (st0 := [zI n, zI i, zI lane, zI k, zR 0]) (st := []) rfl ⟨Nat.le_of_ble_eq_true rfl, Nat.le_of_ble_eq_true rfl⟩ ⟨Nat.le_of_ble_eq_true rfl, Nat.le_of_ble_eq_true rfl⟩ (Nat.le_of_ble_eq_true rfl) (fun a_58 w_58 h_58 ok_58 => ?_)
            refine r_iret rfl dC_refusedSeason_61 ⟨_, rfl, ?_⟩
            exact ⟨by rw [if_neg (by omega), if_neg (by omega), if_neg (by omega)]; exact h_58.1, by rcases h_58.2 with q | ⟨q1, q2, q3⟩; exact Or.inl q; exact Or.inr ⟨q1, q2, by omega, by omega, by omega, by omega, by omega, by omega, by omega, q3⟩⟩
          · refine r_bipush dC_refusedSeason_49 (by decide) ?_
            refine r_iret rfl dC_refusedSeason_51 ⟨_, rfl, ?_⟩
            exact ⟨by (repeat' split) <;> omega, Or.inl ⟨by omega, Or.inr rfl⟩⟩
        · refine r_bipush dC_refusedSeason_36 (by decide) ?_
          refine r_iret rfl dC_refusedSeason_38 ⟨_, rfl, ?_⟩
          exact ⟨by (repeat' split) <;> omega, Or.inl ⟨by omega, Or.inr rfl⟩⟩
  · refine r_iconst dC_refusedSeason_11 ?_
    refine r_iret rfl dC_refusedSeason_12 ⟨_, rfl, ?_⟩
    exact ⟨by (repeat' split) <;> omega, Or.inl ⟨by omega, Or.inr rfl⟩⟩
