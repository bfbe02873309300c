set_option maxRecDepth 20000 in
set_option maxHeartbeats 4000000 in
theorem cM_sheet (w : zW) (k : Int) (lane : Int) (n : Int) (zk : zin k) (zlane : zin lane) (zn : zin n) : zC mM_sheet 2 [zR 33, zI k, zI lane, zI n] w (zrI fun a w' => a = fSheet k lane n ∧ (∀ i' k', zkeep i' k' = true → w'.1 i' k' = (if fSheet k lane n = 1 then (if i' = 48 ∧ k' = k then n else if i' = 49 ∧ k' = k then lane else if i' = 50 ∧ 60 * k ≤ k' ∧ k' < 60 * k + n then 0 else w.1 i' k') else w.1 i' k'))) := by
  refine zC.of (by decide +kernel) (Nat.le_of_ble_eq_true rfl) ?_
  show zM mM_sheet (zZm 2 _) 0 [(0, zR 33), (1, zI k), (2, zI lane), (3, zI n)] [] w
  refine r_iload_n 1 1 dM_sheet_0 rfl rfl ?_
  refine r_cSI (cM_noSheet w k (by omega)) qM_noSheet rfl kw_624 dM_sheet_1 (st0 := [zI k]) (st := []) rfl ⟨Nat.le_of_ble_eq_true rfl, Nat.le_of_ble_eq_true rfl⟩ ⟨Nat.le_of_ble_eq_true rfl, Nat.le_of_ble_eq_true rfl⟩ (Nat.le_of_ble_eq_true rfl) (fun a_1 w_1 h_1 ok_1 => ?_)
  obtain ⟨rfl, h_1⟩ := h_1
  refine r_if_eq 13 dM_sheet_4 (by decide) ⟨by omega, by omega⟩ (fun c_4 => ?_) (fun c_4 => ?_)
  · refine r_iload_n 2 2 dM_sheet_13 rfl rfl ?_
    refine r_i2l dM_sheet_14 ⟨by omega, by omega⟩ ?_
    refine r_lconst (v := 0) dM_sheet_15 rfl ?_
    refine r_ldc2 (a := 2) dM_sheet_16 kw_635 (by decide +kernel) ?_
    refine r_cSI (cM_in w lane 0 2 (by omega) (by omega) (by omega)) qM_in rfl kw_628 dM_sheet_19 (st0 := [zJ 2, zJ 0, zJ lane]) (st := []) rfl ⟨Nat.le_of_ble_eq_true rfl, Nat.le_of_ble_eq_true rfl⟩ ⟨Nat.le_of_ble_eq_true rfl, Nat.le_of_ble_eq_true rfl⟩ (Nat.le_of_ble_eq_true rfl) (fun a_19 w_19 h_19 ok_19 => ?_)
    obtain ⟨rfl, h_19⟩ := h_19
    refine r_if_eq 31 dM_sheet_22 (by decide) ⟨by omega, by omega⟩ (fun c_22 => ?_) (fun c_22 => ?_)
    · refine r_aload_n 0 0 dM_sheet_31 rfl rfl ?_
      refine r_bipush dM_sheet_32 (by decide) ?_
      refine r_cVI (cM_refused w (-2)) qM_refused rfl kw_631 rfl rfl dM_sheet_34 (st0 := [zI (-2), zR 33]) (st := []) rfl ⟨Nat.le_of_ble_eq_true rfl, Nat.le_of_ble_eq_true rfl⟩ ⟨Nat.le_of_ble_eq_true rfl, Nat.le_of_ble_eq_true rfl⟩ (Nat.le_of_ble_eq_true rfl) (fun a_34 w_34 h_34 ok_34 => ?_)
      refine r_iret rfl dM_sheet_37 ⟨_, rfl, ?_⟩
      have e9 : fSheet k lane n = -2 := (by unfold fSheet; (repeat' split) <;> omega)
      exact ⟨by rw [e9]; omega, fun i' k' hk' => by rw [e9, if_neg (by omega)]; exact (show zEq w w_34 from by rw [h_34.1]; exact (zEq.refl w).put (by decide)) i' k' hk'⟩
    · refine r_iload_n 3 3 dM_sheet_25 rfl rfl ?_
      refine r_bipush dM_sheet_26 (by decide) ?_
      refine r_ic_le 38 dM_sheet_28 (by decide) ⟨by omega, by omega⟩ ⟨by omega, by omega⟩ (fun c_28 => ?_) (fun c_28 => ?_)
      · refine r_iload_n 3 3 dM_sheet_38 rfl rfl ?_
        refine r_if_ge 48 dM_sheet_39 (by decide) ⟨by omega, by omega⟩ (fun c_39 => ?_) (fun c_39 => ?_)
        · refine r_aload_n 0 0 dM_sheet_48 rfl rfl ?_
          refine r_getR (k := 33) (b := 48) fX7 rfl rfl rfl (by decide) kw_538 rfl dM_sheet_49 ?_
          refine r_iload_n 1 1 dM_sheet_52 rfl rfl ?_
          refine r_iload_n 3 3 dM_sheet_53 rfl rfl ?_
          refine r_iastore rfl (by decide) dM_sheet_54 (by omega) (by omega) rfl (by omega) (by omega) (fun w_54 ew_54 => ?_)
          refine r_aload_n 0 0 dM_sheet_55 rfl rfl ?_
          refine r_getR (k := 34) (b := 49) fX7 rfl rfl rfl (by decide) kw_539 rfl dM_sheet_56 ?_
          refine r_iload_n 1 1 dM_sheet_59 rfl rfl ?_
          refine r_iload_n 2 2 dM_sheet_60 rfl rfl ?_
          refine r_iastore rfl (by decide) dM_sheet_61 (by omega) (by omega) rfl (by omega) (by omega) (fun w_61 ew_61 => ?_)
          refine r_iconst dM_sheet_62 ?_
          refine r_istore (ls' := [(4, zI 0), (0, zR 33), (1, zI k), (2, zI lane), (3, zI n)]) 4 dM_sheet_63 (by decide) rfl ?_
          have L_65 : ∀ (n_65 : Nat) (j : Int) (wl : zW) (hj0 : 0 ≤ j) (hj1 : j ≤ n) (hw : ∀ i' k', wl.1 i' k' = (if i' = 48 ∧ k' = k then n else if i' = 49 ∧ k' = k then lane else if i' = 50 ∧ 60 * k ≤ k' ∧ k' < 60 * k + j then 0 else w.1 i' k')), n - j < (n_65 : Int) → zM mM_sheet (zZm 2 (zrI fun a w' => a = fSheet k lane n ∧ (∀ i' k', zkeep i' k' = true → w'.1 i' k' = (if fSheet k lane n = 1 then (if i' = 48 ∧ k' = k then n else if i' = 49 ∧ k' = k then lane else if i' = 50 ∧ 60 * k ≤ k' ∧ k' < 60 * k + n then 0 else w.1 i' k') else w.1 i' k')))) 65 [(4, zI j), (0, zR 33), (1, zI k), (2, zI lane), (3, zI n)] [] wl := by
            intro n_65
            induction n_65 with
            | zero => intro j wl hj0 hj1 hw hm_65; exfalso; omega
            | succ n_65 ih_65 =>
              intro j wl hj0 hj1 hw hm_65
              refine r_iload 4 0 dM_sheet_65 rfl ?_
              refine r_iload_n 3 4 dM_sheet_67 rfl rfl ?_
              refine r_ic_ge 90 dM_sheet_68 (by decide) ⟨by omega, by omega⟩ ⟨by omega, by omega⟩ (fun c_68 => ?_) (fun c_68 => ?_)
              · refine r_aload_n 0 1 dM_sheet_90 rfl rfl ?_
                refine r_iconst dM_sheet_91 ?_
                refine r_cVI (cM_refused wl 1) qM_refused rfl kw_631 rfl rfl dM_sheet_92 (st0 := [zI 1, zR 33]) (st := []) rfl ⟨Nat.le_of_ble_eq_true rfl, Nat.le_of_ble_eq_true rfl⟩ ⟨Nat.le_of_ble_eq_true rfl, Nat.le_of_ble_eq_true rfl⟩ (Nat.le_of_ble_eq_true rfl) (fun a_92 w_92 h_92 ok_92 => ?_)
                refine r_iret rfl dM_sheet_95 ⟨_, rfl, ?_⟩
                have e9 : fSheet k lane n = 1 := (by unfold fSheet; (repeat' split) <;> omega)
                exact ⟨by rw [e9]; omega, fun i' k' hk' => by rw [e9, if_pos rfl, h_92.1, zput_e, if_neg (fun q => by rw [q.1, q.2] at hk'; revert hk'; decide), hw i' k', show j = n by omega]⟩
              · refine r_aload_n 0 1 dM_sheet_71 rfl rfl ?_
                refine r_getR (k := 35) (b := 50) fX7 rfl rfl rfl (by decide) kw_540 rfl dM_sheet_72 ?_
                refine r_bipush dM_sheet_75 (by decide) ?_
                refine r_iload_n 1 2 dM_sheet_77 rfl rfl ?_
                refine r_imul dM_sheet_78 ?_
                refine r_iload 4 0 dM_sheet_79 rfl ?_
                refine r_iadd dM_sheet_81 ?_
                refine r_iconst dM_sheet_82 ?_
                refine r_iastore rfl (by decide) dM_sheet_83 (by omega) (by omega) rfl (by omega) (by omega) (fun w_83 ew_83 => ?_)
                refine r_iinc (ls' := [(4, zI (j + 1)), (0, zR 33), (1, zI k), (2, zI lane), (3, zI n)]) 4 0 dM_sheet_84 rfl (by decide) rfl ?_
                refine r_goto 65 dM_sheet_87 (by decide) ?_
                exact ih_65 (j + 1) w_83 (by omega) (by omega) (fun i' k' => by rw [ew_83, zput_e, hw i' k']; (repeat' split) <;> first | rfl | omega) (by omega)
          exact L_65 61 0 w_61 (by omega) (by omega) (fun i' k' => by rw [ew_61, zput_e, ew_54, zput_e]; (repeat' split) <;> first | rfl | omega) (by omega)
        · refine r_aload_n 0 0 dM_sheet_42 rfl rfl ?_
          refine r_iconst dM_sheet_43 ?_
          refine r_cVI (cM_failed w 4 (by omega) (by omega)) qM_failed rfl kw_640 rfl rfl dM_sheet_44 (st0 := [zI 4, zR 33]) (st := []) rfl ⟨Nat.le_of_ble_eq_true rfl, Nat.le_of_ble_eq_true rfl⟩ ⟨Nat.le_of_ble_eq_true rfl, Nat.le_of_ble_eq_true rfl⟩ (Nat.le_of_ble_eq_true rfl) (fun a_44 w_44 h_44 ok_44 => ?_)
          refine r_iret rfl dM_sheet_47 ⟨_, rfl, ?_⟩
          have e9 : fSheet k lane n = -14 := (by unfold fSheet; (repeat' split) <;> omega)
          exact ⟨by rw [e9]; omega, fun i' k' hk' => by rw [e9, if_neg (by omega)]; exact (show zEq w w_44 from by rw [h_44.1]; exact (zEq.refl w).put (by decide)) i' k' hk'⟩
      · refine r_aload_n 0 0 dM_sheet_31 rfl rfl ?_
        refine r_bipush dM_sheet_32 (by decide) ?_
        refine r_cVI (cM_refused w (-2)) qM_refused rfl kw_631 rfl rfl dM_sheet_34 (st0 := [zI (-2), zR 33]) (st := []) rfl ⟨Nat.le_of_ble_eq_true rfl, Nat.le_of_ble_eq_true rfl⟩ ⟨Nat.le_of_ble_eq_true rfl, Nat.le_of_ble_eq_true rfl⟩ (Nat.le_of_ble_eq_true rfl) (fun a_34 w_34 h_34 ok_34 => ?_)
        refine r_iret rfl dM_sheet_37 ⟨_, rfl, ?_⟩
        have e9 : fSheet k lane n = -2 := (by unfold fSheet; (repeat' split) <;> omega)
        exact ⟨by rw [e9]; omega, fun i' k' hk' => by rw [e9, if_neg (by omega)]; exact (show zEq w w_34 from by rw [h_34.1]; exact (zEq.refl w).put (by decide)) i' k' hk'⟩
  · refine r_aload_n 0 0 dM_sheet_7 rfl rfl ?_
    refine r_iconst dM_sheet_8 ?_
    refine r_cVI (cM_refused w (-1)) qM_refused rfl kw_631 rfl rfl dM_sheet_9 (st0 := [zI (-1), zR 33]) (st := []) rfl ⟨Nat.le_of_ble_eq_true rfl, Nat.le_of_ble_eq_true rfl⟩ ⟨Nat.le_of_ble_eq_true rfl, Nat.le_of_ble_eq_true rfl⟩ (Nat.le_of_ble_eq_true rfl) (fun a_9 w_9 h_9 ok_9 => ?_)
    refine r_iret rfl dM_sheet_12 ⟨_, rfl, ?_⟩
    have e9 : fSheet k lane n = -1 := (by unfold fSheet; (repeat' split) <;> omega)
    exact ⟨by rw [e9]; omega, fun i' k' hk' => by rw [e9, if_neg (by omega)]; exact (show zEq w w_9 from by rw [h_9.1]; exact (zEq.refl w).put (by decide)) i' k' hk'⟩

set_option maxRecDepth 20000 in
set_option maxHeartbeats 4000000 in
theorem cM_cell (w : zW) (k : Int) (i : Int) (lane : Int) (zk : zin k) (zi : zin i) (zlane : zin lane) : zC mM_cell 2 [zR 33, zI k, zI i, zI lane] w (zrJ fun a w' => a = fCell (w.1 48 k) (w.1 49 k) (w.1 50 (60 * k + i)) k i lane ∧ zEq w w') := by
  refine zC.of (by decide +kernel) (Nat.le_of_ble_eq_true rfl) ?_
  show zM mM_cell (zZm 2 _) 0 [(0, zR 33), (1, zI k), (2, zI i), (3, zI lane)] [] w
  refine r_ok (fun hO => ?_)
  have hL := hO 48 k
  change -1 ≤ w.1 48 k ∧ w.1 48 k ≤ 60 at hL
  refine r_aload_n 0 0 dM_cell_0 rfl rfl ?_
  refine r_iconst dM_cell_1 ?_
  refine r_putI (k := 0) fX7 rfl rfl (by decide) kw_505 rfl rfl (by decide +kernel) 0 rfl dM_cell_2 rfl (by omega) (by omega) (fun w_2 ew_2 => ?_)
  have hq2 : zEq w w_2 := by rw [ew_2]; exact (zEq.refl w).put (by decide)
  have hz2 : ∀ i k, i ≠ 33 → w_2.1 i k = w.1 i k := fun i k q => by rw [ew_2, zput_i _ _ _ _ q]
  refine r_iload_n 1 1 dM_cell_5 rfl rfl ?_
  refine r_cSI (cM_noSheet w_2 k (by omega)) qM_noSheet rfl kw_624 dM_cell_6 (st0 := [zI k]) (st := []) rfl ⟨Nat.le_of_ble_eq_true rfl, Nat.le_of_ble_eq_true rfl⟩ ⟨Nat.le_of_ble_eq_true rfl, Nat.le_of_ble_eq_true rfl⟩ (Nat.le_of_ble_eq_true rfl) (fun a_6 w_6 h_6 ok_6 => ?_)
  obtain ⟨rfl, h_6⟩ := h_6
  refine r_if_ne 24 dM_cell_9 (by decide) ⟨by omega, by omega⟩ (fun c_9 => ?_) (fun c_9 => ?_)
  · refine r_cSJ (cM_lost w_2) qM_lost rfl kw_790 dM_cell_24 (st0 := []) (st := []) rfl ⟨Nat.le_of_ble_eq_true rfl, Nat.le_of_ble_eq_true rfl⟩ ⟨Nat.le_of_ble_eq_true rfl, Nat.le_of_ble_eq_true rfl⟩ (Nat.le_of_ble_eq_true rfl) (fun a_24 w_24 h_24 ok_24 => ?_)
    obtain ⟨rfl, h_24⟩ := h_24
    refine r_lret rfl dM_cell_27 ⟨_, rfl, ?_⟩
    exact ⟨by rw [h_24]; unfold fCell; rw [if_pos (by omega)], hq2⟩
  · refine r_iload_n 3 3 dM_cell_12 rfl rfl ?_
    refine r_i2l dM_cell_13 ⟨by omega, by omega⟩ ?_
    refine r_lconst (v := 0) dM_cell_14 rfl ?_
    refine r_ldc2 (a := 2) dM_cell_15 kw_635 (by decide +kernel) ?_
    refine r_cSI (cM_in w_2 lane 0 2 (by omega) (by omega) (by omega)) qM_in rfl kw_628 dM_cell_18 (st0 := [zJ 2, zJ 0, zJ lane]) (st := []) rfl ⟨Nat.le_of_ble_eq_true rfl, Nat.le_of_ble_eq_true rfl⟩ ⟨Nat.le_of_ble_eq_true rfl, Nat.le_of_ble_eq_true rfl⟩ (Nat.le_of_ble_eq_true rfl) (fun a_18 w_18 h_18 ok_18 => ?_)
    obtain ⟨rfl, h_18⟩ := h_18
    refine r_if_ne 28 dM_cell_21 (by decide) ⟨by omega, by omega⟩ (fun c_21 => ?_) (fun c_21 => ?_)
    · skip
      refine r_aload_n 0 0 dM_cell_28 rfl rfl ?_
      refine r_getR (k := 33) (b := 48) fX7 rfl rfl rfl (by decide) kw_538 rfl dM_cell_29 ?_
      refine r_iload_n 1 1 dM_cell_32 rfl rfl ?_
      refine r_iaload rfl (by decide) dM_cell_33 (by omega) (by omega) rfl (fun y_33 ey_33 ly_33 uy_33 => ?_)
      rw [ew_2, zput_i (i := 33) (i' := 48) _ _ _ _ (by decide)] at ey_33
      refine r_if_lt 53 dM_cell_34 (by decide) ⟨by omega, by omega⟩ (fun c_34 => ?_) (fun c_34 => ?_)
      · refine r_aload_n 0 0 dM_cell_53 rfl rfl ?_
        refine r_iload_n 1 1 dM_cell_54 rfl rfl ?_
        refine r_iload_n 2 2 dM_cell_55 rfl rfl ?_
        refine r_cVI (cM_noCell w_2 k i (by omega) (by omega) (by omega)) qM_noCell rfl kw_809 rfl rfl dM_cell_56 (st0 := [zI i, zI k, zR 33]) (st := []) rfl ⟨Nat.le_of_ble_eq_true rfl, Nat.le_of_ble_eq_true rfl⟩ ⟨Nat.le_of_ble_eq_true rfl, Nat.le_of_ble_eq_true rfl⟩ (Nat.le_of_ble_eq_true rfl) (fun a_56 w_56 h_56 ok_56 => ?_)
        obtain ⟨rfl, h_56⟩ := h_56
        have z_56_0 : w_2.1 48 k = w.1 48 k := by rw [ew_2, zput_i (i := 33) (i' := 48) _ _ _ _ (by decide)]
        refine r_if_le 75 dM_cell_59 (by decide) ⟨by omega, by omega⟩ (fun c_59 => ?_) (fun c_59 => ?_)
        · refine r_aload_n 0 0 dM_cell_75 rfl rfl ?_
          refine r_getR (k := 35) (b := 50) fX7 rfl rfl rfl (by decide) kw_540 rfl dM_cell_76 ?_
          refine r_bipush dM_cell_79 (by decide) ?_
          refine r_iload_n 1 1 dM_cell_81 rfl rfl ?_
          refine r_imul dM_cell_82 ?_
          refine r_iload_n 2 2 dM_cell_83 rfl rfl ?_
          refine r_iadd dM_cell_84 ?_
          refine r_iaload rfl (by decide) dM_cell_85 (by omega) (by omega) rfl (fun y_85 ey_85 ly_85 uy_85 => ?_)
          rw [ew_2, zput_i (i := 33) (i' := 50) _ _ _ _ (by decide)] at ey_85
          refine r_i2l dM_cell_86 ⟨by omega, by omega⟩ ?_
          refine r_lret rfl dM_cell_87 ⟨_, rfl, ?_⟩
          exact ⟨by unfold fCell; rw [if_neg (by omega)]; exact ey_85, hq2⟩
        · refine r_aload_n 0 0 dM_cell_62 rfl rfl ?_
          refine r_aload_n 0 0 dM_cell_63 rfl rfl ?_
          refine r_iload_n 1 1 dM_cell_64 rfl rfl ?_
          refine r_iload_n 2 2 dM_cell_65 rfl rfl ?_
          refine r_cVI (cM_noCell w_2 k i (by omega) (by omega) (by omega)) qM_noCell rfl kw_809 rfl rfl dM_cell_66 (st0 := [zI i, zI k, zR 33, zR 33]) (st := [zR 33]) rfl ⟨Nat.le_of_ble_eq_true rfl, Nat.le_of_ble_eq_true rfl⟩ ⟨Nat.le_of_ble_eq_true rfl, Nat.le_of_ble_eq_true rfl⟩ (Nat.le_of_ble_eq_true rfl) (fun a_66 w_66 h_66 ok_66 => ?_)
          obtain ⟨rfl, h_66⟩ := h_66
          have z_66_0 : w_2.1 48 k = w.1 48 k := by rw [ew_2, zput_i (i := 33) (i' := 48) _ _ _ _ (by decide)]
          refine r_cVJ (cM_failedLong w_2 a_66 (by omega) (by omega)) qM_failedLong rfl kw_817 rfl rfl dM_cell_69 (st0 := [zI a_66, zR 33]) (st := []) rfl ⟨Nat.le_of_ble_eq_true rfl, Nat.le_of_ble_eq_true rfl⟩ ⟨Nat.le_of_ble_eq_true rfl, Nat.le_of_ble_eq_true rfl⟩ (Nat.le_of_ble_eq_true rfl) (fun a_69 w_69 h_69 ok_69 => ?_)
          refine r_goto 87 dM_cell_72 (by decide) ?_
          refine r_lret rfl dM_cell_87 ⟨_, rfl, ?_⟩
          exact ⟨by rw [h_69.2]; unfold fCell; rw [if_pos (by omega)], by rw [h_69.1]; exact hq2.put (by decide)⟩
      · refine r_aload_n 0 0 dM_cell_37 rfl rfl ?_
        refine r_getR (k := 34) (b := 49) fX7 rfl rfl rfl (by decide) kw_539 rfl dM_cell_38 ?_
        refine r_iload_n 1 1 dM_cell_41 rfl rfl ?_
        refine r_iaload rfl (by decide) dM_cell_42 (by omega) (by omega) rfl (fun y_42 ey_42 ly_42 uy_42 => ?_)
        rw [ew_2, zput_i (i := 33) (i' := 49) _ _ _ _ (by decide)] at ey_42
        refine r_iload_n 3 3 dM_cell_43 rfl rfl ?_
        refine r_ic_eq 53 dM_cell_44 (by decide) ⟨by omega, by omega⟩ ⟨by omega, by omega⟩ (fun c_44 => ?_) (fun c_44 => ?_)
        · refine r_aload_n 0 0 dM_cell_53 rfl rfl ?_
          refine r_iload_n 1 1 dM_cell_54 rfl rfl ?_
          refine r_iload_n 2 2 dM_cell_55 rfl rfl ?_
          refine r_cVI (cM_noCell w_2 k i (by omega) (by omega) (by omega)) qM_noCell rfl kw_809 rfl rfl dM_cell_56 (st0 := [zI i, zI k, zR 33]) (st := []) rfl ⟨Nat.le_of_ble_eq_true rfl, Nat.le_of_ble_eq_true rfl⟩ ⟨Nat.le_of_ble_eq_true rfl, Nat.le_of_ble_eq_true rfl⟩ (Nat.le_of_ble_eq_true rfl) (fun a_56 w_56 h_56 ok_56 => ?_)
          obtain ⟨rfl, h_56⟩ := h_56
          have z_56_0 : w_2.1 48 k = w.1 48 k := by rw [ew_2, zput_i (i := 33) (i' := 48) _ _ _ _ (by decide)]
          refine r_if_le 75 dM_cell_59 (by decide) ⟨by omega, by omega⟩ (fun c_59 => ?_) (fun c_59 => ?_)
          · refine r_aload_n 0 0 dM_cell_75 rfl rfl ?_
            refine r_getR (k := 35) (b := 50) fX7 rfl rfl rfl (by decide) kw_540 rfl dM_cell_76 ?_
            refine r_bipush dM_cell_79 (by decide) ?_
            refine r_iload_n 1 1 dM_cell_81 rfl rfl ?_
            refine r_imul dM_cell_82 ?_
            refine r_iload_n 2 2 dM_cell_83 rfl rfl ?_
            refine r_iadd dM_cell_84 ?_
            refine r_iaload rfl (by decide) dM_cell_85 (by omega) (by omega) rfl (fun y_85 ey_85 ly_85 uy_85 => ?_)
            rw [ew_2, zput_i (i := 33) (i' := 50) _ _ _ _ (by decide)] at ey_85
            refine r_i2l dM_cell_86 ⟨by omega, by omega⟩ ?_
            refine r_lret rfl dM_cell_87 ⟨_, rfl, ?_⟩
            exact ⟨by unfold fCell; rw [if_neg (by omega)]; exact ey_85, hq2⟩
          · refine r_aload_n 0 0 dM_cell_62 rfl rfl ?_
            refine r_aload_n 0 0 dM_cell_63 rfl rfl ?_
            refine r_iload_n 1 1 dM_cell_64 rfl rfl ?_
            refine r_iload_n 2 2 dM_cell_65 rfl rfl ?_
            refine r_cVI (cM_noCell w_2 k i (by omega) (by omega) (by omega)) qM_noCell rfl kw_809 rfl rfl dM_cell_66 (st0 := [zI i, zI k, zR 33, zR 33]) (st := [zR 33]) rfl ⟨Nat.le_of_ble_eq_true rfl, Nat.le_of_ble_eq_true rfl⟩ ⟨Nat.le_of_ble_eq_true rfl, Nat.le_of_ble_eq_true rfl⟩ (Nat.le_of_ble_eq_true rfl) (fun a_66 w_66 h_66 ok_66 => ?_)
            obtain ⟨rfl, h_66⟩ := h_66
            have z_66_0 : w_2.1 48 k = w.1 48 k := by rw [ew_2, zput_i (i := 33) (i' := 48) _ _ _ _ (by decide)]
            refine r_cVJ (cM_failedLong w_2 a_66 (by omega) (by omega)) qM_failedLong rfl kw_817 rfl rfl dM_cell_69 (st0 := [zI a_66, zR 33]) (st := []) rfl ⟨Nat.le_of_ble_eq_true rfl, Nat.le_of_ble_eq_true rfl⟩ ⟨Nat.le_of_ble_eq_true rfl, Nat.le_of_ble_eq_true rfl⟩ (Nat.le_of_ble_eq_true rfl) (fun a_69 w_69 h_69 ok_69 => ?_)
            refine r_goto 87 dM_cell_72 (by decide) ?_
            refine r_lret rfl dM_cell_87 ⟨_, rfl, ?_⟩
            exact ⟨by rw [h_69.2]; unfold fCell; rw [if_pos (by omega)], by rw [h_69.1]; exact hq2.put (by decide)⟩
        · refine r_aload_n 0 0 dM_cell_47 rfl rfl ?_
          refine r_iconst dM_cell_48 ?_
          refine r_cVJ (cM_failedLong w_2 2 (by omega) (by omega)) qM_failedLong rfl kw_817 rfl rfl dM_cell_49 (st0 := [zI 2, zR 33]) (st := []) rfl ⟨Nat.le_of_ble_eq_true rfl, Nat.le_of_ble_eq_true rfl⟩ ⟨Nat.le_of_ble_eq_true rfl, Nat.le_of_ble_eq_true rfl⟩ (Nat.le_of_ble_eq_true rfl) (fun a_49 w_49 h_49 ok_49 => ?_)
          refine r_lret rfl dM_cell_52 ⟨_, rfl, ?_⟩
          exact ⟨by rw [h_49.2]; unfold fCell; rw [if_pos (by omega)], by rw [h_49.1]; exact hq2.put (by decide)⟩
    · refine r_cSJ (cM_lost w_2) qM_lost rfl kw_790 dM_cell_24 (st0 := []) (st := []) rfl ⟨Nat.le_of_ble_eq_true rfl, Nat.le_of_ble_eq_true rfl⟩ ⟨Nat.le_of_ble_eq_true rfl, Nat.le_of_ble_eq_true rfl⟩ (Nat.le_of_ble_eq_true rfl) (fun a_24 w_24 h_24 ok_24 => ?_)
      obtain ⟨rfl, h_24⟩ := h_24
      refine r_lret rfl dM_cell_27 ⟨_, rfl, ?_⟩
      exact ⟨by rw [h_24]; unfold fCell; rw [if_pos (by omega)], hq2⟩

set_option maxRecDepth 20000 in
set_option maxHeartbeats 4000000 in
theorem cM_copy (w : zW) (k : Int) (i : Int) (o : Int) (j : Int) (n : Int) (zk : zin k) (zi : zin i) (zo : zin o) (zj : zin j) (zn : zin n) : zC mM_copy 2 [zR 33, zI k, zI i, zI o, zI j, zI n] w (zrI fun a w' => a = fCopy (w.1 48 k) (w.1 48 o) (w.1 49 k) (w.1 49 o) k i o j n ∧ (∀ i' k', zkeep i' k' = true → w'.1 i' k' = (if 0 ≤ fCopy (w.1 48 k) (w.1 48 o) (w.1 49 k) (w.1 49 o) k i o j n ∧ i' = 50 ∧ 60 * o + j ≤ k' ∧ k' < 60 * o + j + n then w.1 50 (60 * k + i + (k' - 60 * o - j)) else w.1 i' k'))) := by
  refine zC.of (by decide +kernel) (Nat.le_of_ble_eq_true rfl) ?_
  show zM mM_copy (zZm 2 _) 0 [(0, zR 33), (1, zI k), (2, zI i), (3, zI o), (4, zI j), (5, zI n)] [] w
  refine r_ok (fun hO => ?_)
  have hL := hO 48 k
  change -1 ≤ w.1 48 k ∧ w.1 48 k ≤ 60 at hL
  have hL2 := hO 48 o
  change -1 ≤ w.1 48 o ∧ w.1 48 o ≤ 60 at hL2
  refine r_iload_n 1 1 dM_copy_0 rfl rfl ?_
  refine r_cSI (cM_noSheet w k (by omega)) qM_noSheet rfl kw_624 dM_copy_1 (st0 := [zI k]) (st := []) rfl ⟨Nat.le_of_ble_eq_true rfl, Nat.le_of_ble_eq_true rfl⟩ ⟨Nat.le_of_ble_eq_true rfl, Nat.le_of_ble_eq_true rfl⟩ (Nat.le_of_ble_eq_true rfl) (fun a_1 w_1 h_1 ok_1 => ?_)
  obtain ⟨rfl, h_1⟩ := h_1
  refine r_if_ne 14 dM_copy_4 (by decide) ⟨by omega, by omega⟩ (fun c_4 => ?_) (fun c_4 => ?_)
  · refine r_aload_n 0 0 dM_copy_14 rfl rfl ?_
    refine r_iconst dM_copy_15 ?_
    refine r_cVI (cM_refused w (-1)) qM_refused rfl kw_631 rfl rfl dM_copy_16 (st0 := [zI (-1), zR 33]) (st := []) rfl ⟨Nat.le_of_ble_eq_true rfl, Nat.le_of_ble_eq_true rfl⟩ ⟨Nat.le_of_ble_eq_true rfl, Nat.le_of_ble_eq_true rfl⟩ (Nat.le_of_ble_eq_true rfl) (fun a_16 w_16 h_16 ok_16 => ?_)
    refine r_iret rfl dM_copy_19 ⟨_, rfl, ?_⟩
    have e9 : fCopy (w.1 48 k) (w.1 48 o) (w.1 49 k) (w.1 49 o) k i o j n = -1 := (by unfold fCopy; (repeat' split) <;> omega)
    exact ⟨by rw [e9]; omega, fun i' k' hk' => by rw [e9, if_neg (by omega)]; exact (show zEq w w_16 from by rw [h_16.1]; exact (zEq.refl w).put (by decide)) i' k' hk'⟩
  · refine r_iload_n 3 3 dM_copy_7 rfl rfl ?_
    refine r_cSI (cM_noSheet w o (by omega)) qM_noSheet rfl kw_624 dM_copy_8 (st0 := [zI o]) (st := []) rfl ⟨Nat.le_of_ble_eq_true rfl, Nat.le_of_ble_eq_true rfl⟩ ⟨Nat.le_of_ble_eq_true rfl, Nat.le_of_ble_eq_true rfl⟩ (Nat.le_of_ble_eq_true rfl) (fun a_8 w_8 h_8 ok_8 => ?_)
    obtain ⟨rfl, h_8⟩ := h_8
    refine r_if_eq 20 dM_copy_11 (by decide) ⟨by omega, by omega⟩ (fun c_11 => ?_) (fun c_11 => ?_)
    · refine r_aload_n 0 0 dM_copy_20 rfl rfl ?_
      refine r_getR (k := 33) (b := 48) fX7 rfl rfl rfl (by decide) kw_538 rfl dM_copy_21 ?_
      refine r_iload_n 1 1 dM_copy_24 rfl rfl ?_
      refine r_iaload rfl (by decide) dM_copy_25 (by omega) (by omega) rfl (fun y_25 ey_25 ly_25 uy_25 => ?_)
      refine r_if_lt 38 dM_copy_26 (by decide) ⟨by omega, by omega⟩ (fun c_26 => ?_) (fun c_26 => ?_)
      · refine r_aload_n 0 0 dM_copy_38 rfl rfl ?_
        refine r_iconst dM_copy_39 ?_
        refine r_cVI (cM_failed w 1 (by omega) (by omega)) qM_failed rfl kw_640 rfl rfl dM_copy_40 (st0 := [zI 1, zR 33]) (st := []) rfl ⟨Nat.le_of_ble_eq_true rfl, Nat.le_of_ble_eq_true rfl⟩ ⟨Nat.le_of_ble_eq_true rfl, Nat.le_of_ble_eq_true rfl⟩ (Nat.le_of_ble_eq_true rfl) (fun a_40 w_40 h_40 ok_40 => ?_)
        refine r_iret rfl dM_copy_43 ⟨_, rfl, ?_⟩
        have e9 : fCopy (w.1 48 k) (w.1 48 o) (w.1 49 k) (w.1 49 o) k i o j n = -11 := (by unfold fCopy; (repeat' split) <;> omega)
        exact ⟨by rw [e9]; omega, fun i' k' hk' => by rw [e9, if_neg (by omega)]; exact (show zEq w w_40 from by rw [h_40.1]; exact (zEq.refl w).put (by decide)) i' k' hk'⟩
      · refine r_aload_n 0 0 dM_copy_29 rfl rfl ?_
        refine r_getR (k := 33) (b := 48) fX7 rfl rfl rfl (by decide) kw_538 rfl dM_copy_30 ?_
        refine r_iload_n 3 3 dM_copy_33 rfl rfl ?_
        refine r_iaload rfl (by decide) dM_copy_34 (by omega) (by omega) rfl (fun y_34 ey_34 ly_34 uy_34 => ?_)
        refine r_if_ge 44 dM_copy_35 (by decide) ⟨by omega, by omega⟩ (fun c_35 => ?_) (fun c_35 => ?_)
        · refine r_aload_n 0 0 dM_copy_44 rfl rfl ?_
          refine r_getR (k := 34) (b := 49) fX7 rfl rfl rfl (by decide) kw_539 rfl dM_copy_45 ?_
          refine r_iload_n 1 1 dM_copy_48 rfl rfl ?_
          refine r_iaload rfl (by decide) dM_copy_49 (by omega) (by omega) rfl (fun y_49 ey_49 ly_49 uy_49 => ?_)
          refine r_aload_n 0 0 dM_copy_50 rfl rfl ?_
          refine r_getR (k := 34) (b := 49) fX7 rfl rfl rfl (by decide) kw_539 rfl dM_copy_51 ?_
          refine r_iload_n 3 3 dM_copy_54 rfl rfl ?_
          refine r_iaload rfl (by decide) dM_copy_55 (by omega) (by omega) rfl (fun y_55 ey_55 ly_55 uy_55 => ?_)
          refine r_ic_eq 65 dM_copy_56 (by decide) ⟨by omega, by omega⟩ ⟨by omega, by omega⟩ (fun c_56 => ?_) (fun c_56 => ?_)
          · refine r_iload_n 2 2 dM_copy_65 rfl rfl ?_
            refine r_iload 5 5 dM_copy_66 rfl ?_
            refine r_i2l dM_copy_68 ⟨by omega, by omega⟩ ?_
            refine r_aload_n 0 0 dM_copy_69 rfl rfl ?_
            refine r_getR (k := 33) (b := 48) fX7 rfl rfl rfl (by decide) kw_538 rfl dM_copy_70 ?_
            refine r_iload_n 1 1 dM_copy_73 rfl rfl ?_
            refine r_iaload rfl (by decide) dM_copy_74 (by omega) (by omega) rfl (fun y_74 ey_74 ly_74 uy_74 => ?_)
            refine r_cSI (cM_isBeyond w i n y_74 (by omega) (by omega) (by omega)) qM_isBeyond rfl kw_644 dM_copy_75 (st0 := [zI y_74, zJ n, zI i]) (st := []) rfl ⟨Nat.le_of_ble_eq_true rfl, Nat.le_of_ble_eq_true rfl⟩ ⟨Nat.le_of_ble_eq_true rfl, Nat.le_of_ble_eq_true rfl⟩ (Nat.le_of_ble_eq_true rfl) (fun a_75 w_75 h_75 ok_75 => ?_)
            obtain ⟨rfl, h_75⟩ := h_75
            refine r_if_ne 98 dM_copy_78 (by decide) ⟨by omega, by omega⟩ (fun c_78 => ?_) (fun c_78 => ?_)
            · refine r_aload_n 0 0 dM_copy_98 rfl rfl ?_
              refine r_iconst dM_copy_99 ?_
              refine r_cVI (cM_failed w 3 (by omega) (by omega)) qM_failed rfl kw_640 rfl rfl dM_copy_100 (st0 := [zI 3, zR 33]) (st := []) rfl ⟨Nat.le_of_ble_eq_true rfl, Nat.le_of_ble_eq_true rfl⟩ ⟨Nat.le_of_ble_eq_true rfl, Nat.le_of_ble_eq_true rfl⟩ (Nat.le_of_ble_eq_true rfl) (fun a_100 w_100 h_100 ok_100 => ?_)
              refine r_iret rfl dM_copy_103 ⟨_, rfl, ?_⟩
              have e9 : fCopy (w.1 48 k) (w.1 48 o) (w.1 49 k) (w.1 49 o) k i o j n = -13 := (by unfold fCopy; (repeat' split) <;> omega)
              exact ⟨by rw [e9]; omega, fun i' k' hk' => by rw [e9, if_neg (by omega)]; exact (show zEq w w_100 from by rw [h_100.1]; exact (zEq.refl w).put (by decide)) i' k' hk'⟩
            · refine r_iload 4 4 dM_copy_81 rfl ?_
              refine r_iload 5 5 dM_copy_83 rfl ?_
              refine r_i2l dM_copy_85 ⟨by omega, by omega⟩ ?_
              refine r_aload_n 0 0 dM_copy_86 rfl rfl ?_
              refine r_getR (k := 33) (b := 48) fX7 rfl rfl rfl (by decide) kw_538 rfl dM_copy_87 ?_
              refine r_iload_n 3 3 dM_copy_90 rfl rfl ?_
              refine r_iaload rfl (by decide) dM_copy_91 (by omega) (by omega) rfl (fun y_91 ey_91 ly_91 uy_91 => ?_)
              refine r_cSI (cM_isBeyond w j n y_91 (by omega) (by omega) (by omega)) qM_isBeyond rfl kw_644 dM_copy_92 (st0 := [zI y_91, zJ n, zI j]) (st := []) rfl ⟨Nat.le_of_ble_eq_true rfl, Nat.le_of_ble_eq_true rfl⟩ ⟨Nat.le_of_ble_eq_true rfl, Nat.le_of_ble_eq_true rfl⟩ (Nat.le_of_ble_eq_true rfl) (fun a_92 w_92 h_92 ok_92 => ?_)
              obtain ⟨rfl, h_92⟩ := h_92
              refine r_if_eq 104 dM_copy_95 (by decide) ⟨by omega, by omega⟩ (fun c_95 => ?_) (fun c_95 => ?_)
              · refine r_iconst dM_copy_104 ?_
                refine r_istore (ls' := [(6, zI 0), (0, zR 33), (1, zI k), (2, zI i), (3, zI o), (4, zI j), (5, zI n)]) 6 dM_copy_105 (by decide) rfl ?_
                have L_107 : ∀ (n_107 : Nat) (x : Int) (wl : zW) (hx0 : 0 ≤ x) (hx1 : x ≤ n) (hw : ∀ i' k', i' ≠ 51 → wl.1 i' k' = w.1 i' k') (hh : ∀ q : Int, 0 ≤ q → q < x → wl.1 51 q = w.1 50 (60 * k + i + q)), n - x < (n_107 : Int) → zM mM_copy (zZm 2 (zrI fun a w' => a = fCopy (w.1 48 k) (w.1 48 o) (w.1 49 k) (w.1 49 o) k i o j n ∧ (∀ i' k', zkeep i' k' = true → w'.1 i' k' = (if 0 ≤ fCopy (w.1 48 k) (w.1 48 o) (w.1 49 k) (w.1 49 o) k i o j n ∧ i' = 50 ∧ 60 * o + j ≤ k' ∧ k' < 60 * o + j + n then w.1 50 (60 * k + i + (k' - 60 * o - j)) else w.1 i' k')))) 107 [(6, zI x), (0, zR 33), (1, zI k), (2, zI i), (3, zI o), (4, zI j), (5, zI n)] [] wl := by
                  intro n_107
                  induction n_107 with
                  | zero => intro x wl hx0 hx1 hw hh hm_107; exfalso; omega
                  | succ n_107 ih_107 =>
                    intro x wl hx0 hx1 hw hh hm_107
                    refine r_iload 6 0 dM_copy_107 rfl ?_
                    refine r_iload 5 6 dM_copy_109 rfl ?_
                    refine r_ic_ge 141 dM_copy_111 (by decide) ⟨by omega, by omega⟩ ⟨by omega, by omega⟩ (fun c_111 => ?_) (fun c_111 => ?_)
                    · refine r_iconst dM_copy_141 ?_
                      refine r_istore (ls' := [(6, zI 0), (0, zR 33), (1, zI k), (2, zI i), (3, zI o), (4, zI j), (5, zI n)]) 6 dM_copy_142 (by decide) rfl ?_
                      have L_144 : ∀ (n_144 : Nat) (x : Int) (wm : zW) (hx0 : 0 ≤ x) (hx1 : x ≤ n) (hm : ∀ i' k', i' ≠ 51 → wm.1 i' k' = (if i' = 50 ∧ 60 * o + j ≤ k' ∧ k' < 60 * o + j + x then w.1 50 (60 * k + i + (k' - 60 * o - j)) else w.1 i' k')) (hhm : ∀ q : Int, 0 ≤ q → q < n → wm.1 51 q = w.1 50 (60 * k + i + q)), n - x < (n_144 : Int) → zM mM_copy (zZm 2 (zrI fun a w' => a = fCopy (w.1 48 k) (w.1 48 o) (w.1 49 k) (w.1 49 o) k i o j n ∧ (∀ i' k', zkeep i' k' = true → w'.1 i' k' = (if 0 ≤ fCopy (w.1 48 k) (w.1 48 o) (w.1 49 k) (w.1 49 o) k i o j n ∧ i' = 50 ∧ 60 * o + j ≤ k' ∧ k' < 60 * o + j + n then w.1 50 (60 * k + i + (k' - 60 * o - j)) else w.1 i' k')))) 144 [(6, zI x), (0, zR 33), (1, zI k), (2, zI i), (3, zI o), (4, zI j), (5, zI n)] [] wm := by
                        intro n_144
                        induction n_144 with
                        | zero => intro x wm hx0 hx1 hm hhm hm_144; exfalso; omega
                        | succ n_144 ih_144 =>
                          intro x wm hx0 hx1 hm hhm hm_144
                          refine r_iload 6 0 dM_copy_144 rfl ?_
                          refine r_iload 5 6 dM_copy_146 rfl ?_
                          refine r_ic_ge 179 dM_copy_148 (by decide) ⟨by omega, by omega⟩ ⟨by omega, by omega⟩ (fun c_148 => ?_) (fun c_148 => ?_)
                          · refine r_aload_n 0 1 dM_copy_179 rfl rfl ?_
                            refine r_iload 5 6 dM_copy_180 rfl ?_
                            refine r_cVI (cM_refused wm n) qM_refused rfl kw_631 rfl rfl dM_copy_182 (st0 := [zI n, zR 33]) (st := []) rfl ⟨Nat.le_of_ble_eq_true rfl, Nat.le_of_ble_eq_true rfl⟩ ⟨Nat.le_of_ble_eq_true rfl, Nat.le_of_ble_eq_true rfl⟩ (Nat.le_of_ble_eq_true rfl) (fun a_182 w_182 h_182 ok_182 => ?_)
                            refine r_iret rfl dM_copy_185 ⟨_, rfl, ?_⟩
                            have e9 : fCopy (w.1 48 k) (w.1 48 o) (w.1 49 k) (w.1 49 o) k i o j n = n := (by unfold fCopy; (repeat' split) <;> omega)
                            exact ⟨by rw [e9]; omega, fun i' k' hk' => by rw [e9, h_182.1, zput_e, if_neg (fun q => by rw [q.1, q.2] at hk'; revert hk'; decide), hm i' k' (fun q => by rw [q] at hk'; revert hk'; simp [zkeep]), show x = n by omega]; split; (rw [if_pos ⟨by omega, by assumption⟩]); (rw [if_neg (fun q => by rename_i z; exact z q.2)])⟩
                          · refine r_aload_n 0 1 dM_copy_151 rfl rfl ?_
                            refine r_getR (k := 35) (b := 50) fX7 rfl rfl rfl (by decide) kw_540 rfl dM_copy_152 ?_
                            refine r_bipush dM_copy_155 (by decide) ?_
                            refine r_iload_n 3 4 dM_copy_157 rfl rfl ?_
                            refine r_imul dM_copy_158 ?_
                            refine r_iload 4 5 dM_copy_159 rfl ?_
                            refine r_iadd dM_copy_161 ?_
                            refine r_iload 6 0 dM_copy_162 rfl ?_
                            refine r_iadd dM_copy_164 ?_
                            refine r_aload_n 0 1 dM_copy_165 rfl rfl ?_
                            refine r_getR (k := 36) (b := 51) fX7 rfl rfl rfl (by decide) kw_541 rfl dM_copy_166 ?_
                            refine r_iload 6 0 dM_copy_169 rfl ?_
                            refine r_iaload rfl (by decide) dM_copy_171 (by omega) (by omega) rfl (fun y_171 ey_171 ly_171 uy_171 => ?_)
                            refine r_iastore rfl (by decide) dM_copy_172 (by omega) (by omega) rfl (by omega) (by omega) (fun w_172 ew_172 => ?_)
                            refine r_iinc (ls' := [(6, zI (x + 1)), (0, zR 33), (1, zI k), (2, zI i), (3, zI o), (4, zI j), (5, zI n)]) 6 0 dM_copy_173 rfl (by decide) rfl ?_
                            refine r_goto 144 dM_copy_176 (by decide) ?_
                            exact ih_144 (x + 1) w_172 (by omega) (by omega) (fun i' k' q => by rw [ew_172, zput_e, ey_171, hhm x (by omega) (by omega), hm i' k' q]; split; (rename_i z; rw [if_pos (by omega), z.2, show 60 * o + j + x - 60 * o - j = x by omega]); (split; (rw [if_pos (by omega)]); (rw [if_neg (by omega)]))) (fun q q1 q2 => by rw [ew_172, zput_i _ _ _ _ (by decide)]; exact hhm q q1 q2) (by omega)
                      exact L_144 61 0 wl (by omega) (by omega) (fun i' k' q => by rw [if_neg (by omega)]; exact hw i' k' q) (fun q q1 q2 => hh q q1 (by omega)) (by omega)
                    · refine r_aload_n 0 1 dM_copy_114 rfl rfl ?_
                      refine r_getR (k := 36) (b := 51) fX7 rfl rfl rfl (by decide) kw_541 rfl dM_copy_115 ?_
                      refine r_iload 6 0 dM_copy_118 rfl ?_
                      refine r_aload_n 0 1 dM_copy_120 rfl rfl ?_
                      refine r_getR (k := 35) (b := 50) fX7 rfl rfl rfl (by decide) kw_540 rfl dM_copy_121 ?_
                      refine r_bipush dM_copy_124 (by decide) ?_
                      refine r_iload_n 1 2 dM_copy_126 rfl rfl ?_
                      refine r_imul dM_copy_127 ?_
                      refine r_iload_n 2 3 dM_copy_128 rfl rfl ?_
                      refine r_iadd dM_copy_129 ?_
                      refine r_iload 6 0 dM_copy_130 rfl ?_
                      refine r_iadd dM_copy_132 ?_
                      refine r_iaload rfl (by decide) dM_copy_133 (by omega) (by omega) rfl (fun y_133 ey_133 ly_133 uy_133 => ?_)
                      refine r_iastore rfl (by decide) dM_copy_134 (by omega) (by omega) rfl (by omega) (by omega) (fun w_134 ew_134 => ?_)
                      refine r_iinc (ls' := [(6, zI (x + 1)), (0, zR 33), (1, zI k), (2, zI i), (3, zI o), (4, zI j), (5, zI n)]) 6 0 dM_copy_135 rfl (by decide) rfl ?_
                      refine r_goto 107 dM_copy_138 (by decide) ?_
                      exact ih_107 (x + 1) w_134 (by omega) (by omega) (fun i' k' q => by rw [ew_134, zput_i _ _ _ _ q]; exact hw i' k' q) (fun q q1 q2 => by rw [ew_134]; by_cases z : q = x; (rw [z, zput_s, ey_133, hw _ _ (by decide)]); (rw [zput_k _ _ z]; exact hh q q1 (by omega))) (by omega)
                exact L_107 61 0 w (by omega) (by omega) (fun _ _ _ => rfl) (fun q q1 q2 => absurd q2 (by omega)) (by omega)
              · refine r_aload_n 0 0 dM_copy_98 rfl rfl ?_
                refine r_iconst dM_copy_99 ?_
                refine r_cVI (cM_failed w 3 (by omega) (by omega)) qM_failed rfl kw_640 rfl rfl dM_copy_100 (st0 := [zI 3, zR 33]) (st := []) rfl ⟨Nat.le_of_ble_eq_true rfl, Nat.le_of_ble_eq_true rfl⟩ ⟨Nat.le_of_ble_eq_true rfl, Nat.le_of_ble_eq_true rfl⟩ (Nat.le_of_ble_eq_true rfl) (fun a_100 w_100 h_100 ok_100 => ?_)
                refine r_iret rfl dM_copy_103 ⟨_, rfl, ?_⟩
                have e9 : fCopy (w.1 48 k) (w.1 48 o) (w.1 49 k) (w.1 49 o) k i o j n = -13 := (by unfold fCopy; (repeat' split) <;> omega)
                exact ⟨by rw [e9]; omega, fun i' k' hk' => by rw [e9, if_neg (by omega)]; exact (show zEq w w_100 from by rw [h_100.1]; exact (zEq.refl w).put (by decide)) i' k' hk'⟩
          · refine r_aload_n 0 0 dM_copy_59 rfl rfl ?_
            refine r_iconst dM_copy_60 ?_
            refine r_cVI (cM_failed w 2 (by omega) (by omega)) qM_failed rfl kw_640 rfl rfl dM_copy_61 (st0 := [zI 2, zR 33]) (st := []) rfl ⟨Nat.le_of_ble_eq_true rfl, Nat.le_of_ble_eq_true rfl⟩ ⟨Nat.le_of_ble_eq_true rfl, Nat.le_of_ble_eq_true rfl⟩ (Nat.le_of_ble_eq_true rfl) (fun a_61 w_61 h_61 ok_61 => ?_)
            refine r_iret rfl dM_copy_64 ⟨_, rfl, ?_⟩
            have e9 : fCopy (w.1 48 k) (w.1 48 o) (w.1 49 k) (w.1 49 o) k i o j n = -12 := (by unfold fCopy; (repeat' split) <;> omega)
            exact ⟨by rw [e9]; omega, fun i' k' hk' => by rw [e9, if_neg (by omega)]; exact (show zEq w w_61 from by rw [h_61.1]; exact (zEq.refl w).put (by decide)) i' k' hk'⟩
        · refine r_aload_n 0 0 dM_copy_38 rfl rfl ?_
          refine r_iconst dM_copy_39 ?_
          refine r_cVI (cM_failed w 1 (by omega) (by omega)) qM_failed rfl kw_640 rfl rfl dM_copy_40 (st0 := [zI 1, zR 33]) (st := []) rfl ⟨Nat.le_of_ble_eq_true rfl, Nat.le_of_ble_eq_true rfl⟩ ⟨Nat.le_of_ble_eq_true rfl, Nat.le_of_ble_eq_true rfl⟩ (Nat.le_of_ble_eq_true rfl) (fun a_40 w_40 h_40 ok_40 => ?_)
          refine r_iret rfl dM_copy_43 ⟨_, rfl, ?_⟩
          have e9 : fCopy (w.1 48 k) (w.1 48 o) (w.1 49 k) (w.1 49 o) k i o j n = -11 := (by unfold fCopy; (repeat' split) <;> omega)
          exact ⟨by rw [e9]; omega, fun i' k' hk' => by rw [e9, if_neg (by omega)]; exact (show zEq w w_40 from by rw [h_40.1]; exact (zEq.refl w).put (by decide)) i' k' hk'⟩
    · refine r_aload_n 0 0 dM_copy_14 rfl rfl ?_
      refine r_iconst dM_copy_15 ?_
      refine r_cVI (cM_refused w (-1)) qM_refused rfl kw_631 rfl rfl dM_copy_16 (st0 := [zI (-1), zR 33]) (st := []) rfl ⟨Nat.le_of_ble_eq_true rfl, Nat.le_of_ble_eq_true rfl⟩ ⟨Nat.le_of_ble_eq_true rfl, Nat.le_of_ble_eq_true rfl⟩ (Nat.le_of_ble_eq_true rfl) (fun a_16 w_16 h_16 ok_16 => ?_)
      refine r_iret rfl dM_copy_19 ⟨_, rfl, ?_⟩
      have e9 : fCopy (w.1 48 k) (w.1 48 o) (w.1 49 k) (w.1 49 o) k i o j n = -1 := (by unfold fCopy; (repeat' split) <;> omega)
      exact ⟨by rw [e9]; omega, fun i' k' hk' => by rw [e9, if_neg (by omega)]; exact (show zEq w w_16 from by rw [h_16.1]; exact (zEq.refl w).put (by decide)) i' k' hk'⟩
