set_option maxRecDepth 20000 in
set_option maxHeartbeats 4000000 in
theorem cM_codeAt (w : zW) (b : Int) (n : Int) (c : Int → Int) (p : Int) (hb0 : 0 ≤ b) (hn0 : 0 ≤ n) (hn1 : n ≤ 60) (hbn : b + n ≤ 240) (hT : zRS w b c p) : zC mM_codeAt 0 [zR 33, zI b, zI n] w (zrI fun a w' => w = w' ∧ ((p < n ∧ a = c p) ∨ (n ≤ p ∧ a = -9)) ∧ -2147483648 ≤ a ∧ a ≤ 2147483647) := by
  refine zC.of (by decide +kernel) (Nat.le_of_ble_eq_true rfl) ?_
  show zM mM_codeAt (zZm 0 _) 0 [(0, zR 33), (1, zI b), (2, zI n)] [] w
  obtain ⟨hc, hp⟩ := id hT
  refine r_aload_n 0 0 dM_codeAt_0 rfl rfl ?_
  refine r_getI (k := 10) fX7 rfl rfl (by decide) kw_515 rfl 10 rfl dM_codeAt_1 rfl (fun y_1 ey_1 ly_1 uy_1 => ?_)
  refine r_iload_n 2 2 dM_codeAt_4 rfl rfl ?_
  refine r_ic_ge 22 dM_codeAt_5 (by decide) ⟨by omega, by omega⟩ ⟨by omega, by omega⟩ (fun c_5 => ?_) (fun c_5 => ?_)
  · refine r_bipush dM_codeAt_22 (by decide) ?_
    refine r_iret rfl dM_codeAt_24 ⟨_, rfl, ?_⟩
    exact ⟨rfl, by first | (left; exact ⟨by omega, by rw [ey_18, ey_14, hc, hp]⟩) | (right; omega), by omega, by omega⟩
  · refine r_aload_n 0 0 dM_codeAt_8 rfl rfl ?_
    refine r_getR (k := 35) (b := 50) fX7 rfl rfl rfl (by decide) kw_540 rfl dM_codeAt_9 ?_
    refine r_iload_n 1 1 dM_codeAt_12 rfl rfl ?_
    refine r_aload_n 0 0 dM_codeAt_13 rfl rfl ?_
    refine r_getI (k := 10) fX7 rfl rfl (by decide) kw_515 rfl 10 rfl dM_codeAt_14 rfl (fun y_14 ey_14 ly_14 uy_14 => ?_)
    refine r_iadd dM_codeAt_17 ?_
    skip
    refine r_iaload rfl (by decide) dM_codeAt_18 (by omega) (by omega) rfl (fun y_18 ey_18 ly_18 uy_18 => ?_)
    refine r_goto 24 dM_codeAt_19 (by decide) ?_
    refine r_iret rfl dM_codeAt_24 ⟨_, rfl, ?_⟩
    exact ⟨rfl, by first | (left; exact ⟨by omega, by rw [ey_18, ey_14, hc, hp]⟩) | (right; omega), by omega, by omega⟩

set_option maxRecDepth 20000 in
set_option maxHeartbeats 4000000 in
theorem cM_figure (w : zW) (b : Int) (n : Int) (low : Int) (high : Int) (c : Int → Int) (p : Int) (hb0 : 0 ≤ b) (hn0 : 0 ≤ n) (hn1 : n ≤ 60) (hbn : b + n ≤ 240) (hT : zRS w b c p) (hl0 : 0 ≤ low) (hh1 : high ≤ 9) (hh0 : -1 ≤ high) (hl1 : low ≤ 9) : zC mM_figure 1 [zR 33, zI b, zI n, zI low, zI high] w (zrI fun a w' => (∀ i j, ¬ (i = 33 ∧ j = 10) → w'.1 i j = w.1 i j) ∧ (((p < n ∧ low + 48 ≤ c p ∧ c p ≤ high + 48) ∧ a = c p - 48 ∧ w'.1 33 10 = p + 1) ∨ ((n ≤ p ∨ c p < low + 48 ∨ high + 48 < c p) ∧ a = -9 ∧ w'.1 33 10 = p))) := by
  refine zC.of (by decide +kernel) (Nat.le_of_ble_eq_true rfl) ?_
  show zM mM_figure (zZm 1 _) 0 [(0, zR 33), (1, zI b), (2, zI n), (3, zI low), (4, zI high)] [] w
  obtain ⟨hc, hp⟩ := id hT
  refine r_aload_n 0 0 dM_figure_0 rfl rfl ?_
  refine r_iload_n 1 1 dM_figure_1 rfl rfl ?_
  refine r_iload_n 2 2 dM_figure_2 rfl rfl ?_
  refine r_cVI (cM_codeAt w b n c p (by omega) (by omega) (by omega) (by omega) hT) qM_codeAt rfl kw_651 rfl rfl dM_figure_3 (st0 := [zI n, zI b, zR 33]) (st := []) rfl ⟨Nat.le_of_ble_eq_true rfl, Nat.le_of_ble_eq_true rfl⟩ ⟨Nat.le_of_ble_eq_true rfl, Nat.le_of_ble_eq_true rfl⟩ (Nat.le_of_ble_eq_true rfl) (fun a_3 w_3 h_3 ok_3 => ?_)
  obtain ⟨rfl, h_3⟩ := h_3
  have h48 := z48 h_3.2.1 h_3.2.2
  have h3 := h_3.1
  refine r_bipush dM_figure_6 (by decide) ?_
  refine r_isub dM_figure_8 ?_
  refine r_nrm ?_
  refine r_nmI (fun x_9 ex_9 => ?_)
  refine r_istore (ls' := [(5, zI x_9), (0, zR 33), (1, zI b), (2, zI n), (3, zI low), (4, zI high)]) 5 dM_figure_9 (by decide) rfl ?_
  refine r_iload 5 0 dM_figure_11 rfl ?_
  refine r_i2l dM_figure_13 ⟨by omega, by omega⟩ ?_
  refine r_iload_n 3 4 dM_figure_14 rfl rfl ?_
  refine r_i2l dM_figure_15 ⟨by omega, by omega⟩ ?_
  refine r_iload 4 5 dM_figure_16 rfl ?_
  refine r_i2l dM_figure_18 ⟨by omega, by omega⟩ ?_
  refine r_cSI (cM_in w x_9 low high (by omega) (by omega) (by omega)) qM_in rfl kw_628 dM_figure_19 (st0 := [zJ high, zJ low, zJ x_9]) (st := []) rfl ⟨Nat.le_of_ble_eq_true rfl, Nat.le_of_ble_eq_true rfl⟩ ⟨Nat.le_of_ble_eq_true rfl, Nat.le_of_ble_eq_true rfl⟩ (Nat.le_of_ble_eq_true rfl) (fun a_19 w_19 h_19 ok_19 => ?_)
  obtain ⟨rfl, h_19⟩ := h_19
  refine r_istore (ls' := [(6, zI a_19), (5, zI x_9), (0, zR 33), (1, zI b), (2, zI n), (3, zI low), (4, zI high)]) 6 dM_figure_22 (by decide) rfl ?_
  rw [← ex_9] at h48
  refine r_aload_n 0 2 dM_figure_24 rfl rfl ?_
  refine r_dup dM_figure_25 rfl ?_
  refine r_getI (k := 10) fX7 rfl rfl (by decide) kw_515 rfl 10 rfl dM_figure_26 rfl (fun y_26 ey_26 ly_26 uy_26 => ?_)
  refine r_iload 6 0 dM_figure_29 rfl ?_
  have J_39 : ∀ (t : Int) (ht : ((p < n ∧ low + 48 ≤ c p ∧ c p ≤ high + 48) ∧ a_19 = 1 ∧ t = 1) ∨ ((n ≤ p ∨ c p < low + 48 ∨ high + 48 < c p) ∧ a_19 = 0 ∧ t = 0)), zM mM_figure (zZm 1 (zrI fun a w' => (∀ i j, ¬ (i = 33 ∧ j = 10) → w'.1 i j = w.1 i j) ∧ (((p < n ∧ low + 48 ≤ c p ∧ c p ≤ high + 48) ∧ a = c p - 48 ∧ w'.1 33 10 = p + 1) ∨ ((n ≤ p ∨ c p < low + 48 ∨ high + 48 < c p) ∧ a = -9 ∧ w'.1 33 10 = p)))) 39 [(6, zI a_19), (5, zI x_9), (0, zR 33), (1, zI b), (2, zI n), (3, zI low), (4, zI high)] [zI t, zI y_26, zR 33] w := by
    intro t ht
    refine r_iadd dM_figure_39 ?_
    refine r_putI (k := 10) fX7 rfl rfl (by decide) kw_515 rfl rfl (by decide +kernel) 10 rfl dM_figure_40 rfl (by omega) (by omega) (fun w_40 ew_40 => ?_)
    refine r_iload 6 0 dM_figure_43 rfl ?_
    refine r_if_eq 53 dM_figure_45 (by decide) ⟨by omega, by omega⟩ (fun c_45 => ?_) (fun c_45 => ?_)
    · refine r_bipush dM_figure_53 (by decide) ?_
      refine r_iret rfl dM_figure_55 ⟨_, rfl, ?_⟩
      exact ⟨fun i j q => by rw [ew_40, zput_e, if_neg q], by rw [ew_40, zput_s]; omega⟩
    · refine r_iload 5 1 dM_figure_48 rfl ?_
      refine r_goto 55 dM_figure_50 (by decide) ?_
      refine r_iret rfl dM_figure_55 ⟨_, rfl, ?_⟩
      exact ⟨fun i j q => by rw [ew_40, zput_e, if_neg q], by rw [ew_40, zput_s]; omega⟩
  refine r_if_eq 38 dM_figure_31 (by decide) ⟨by omega, by omega⟩ (fun c_31 => ?_) (fun c_31 => ?_)
  · refine r_iconst dM_figure_38 ?_
    exact J_39 0 (by omega)
  · refine r_iconst dM_figure_34 ?_
    refine r_goto 39 dM_figure_35 (by decide) ?_
    exact J_39 1 (by omega)

set_option maxRecDepth 20000 in
set_option maxHeartbeats 4000000 in
theorem cM_readsDoing (w : zW) (b : Int) (n : Int) (c : Int → Int) (k : Int) (hb0 : 0 ≤ b) (hn0 : 0 ≤ n) (hn1 : n ≤ 60) (hbn : b + n ≤ 240) (hT : zRS w b c (3 + 3 * k)) (hk : w.1 33 13 = k) (hk0 : 0 ≤ k) (hk4 : k ≤ 4) : zC mM_readsDoing 2 [zR 33, zI b, zI n] w (zrI fun a w' => (a = 1 ∧ (k < 4 ∧ 3 + 3 * k < n ∧ c (3 + 3 * k) = 47) ∧ (4 + 3 * k < n ∧ 48 ≤ c (4 + 3 * k) ∧ c (4 + 3 * k) ≤ 57) ∧ (5 + 3 * k < n ∧ 48 ≤ c (5 + 3 * k) ∧ c (5 + 3 * k) ≤ 51) ∧ w'.1 33 10 = 6 + 3 * k ∧ w'.1 33 13 = k + 1 ∧ (∀ i j, ¬ (i = 33 ∧ (j = 10 ∨ j = 13)) → w'.1 i j = (if i = 39 ∧ j = k then c (4 + 3 * k) - 48 else if i = 40 ∧ j = k then c (5 + 3 * k) - 48 else w.1 i j))) ∨ (a = 0 ∧ (∀ i j, ¬ (i = 33 ∧ j = 10) → w'.1 i j = w.1 i j) ∧ (((k = 4 ∨ n ≤ 3 + 3 * k ∨ ¬ c (3 + 3 * k) = 47) ∧ w'.1 33 10 = 3 + 3 * k) ∨ ((k < 4 ∧ 3 + 3 * k < n ∧ c (3 + 3 * k) = 47) ∧ (n ≤ 4 + 3 * k ∨ c (4 + 3 * k) < 48 ∨ 57 < c (4 + 3 * k)) ∧ w'.1 33 10 = 4 + 3 * k) ∨ ((k < 4 ∧ 3 + 3 * k < n ∧ c (3 + 3 * k) = 47) ∧ (4 + 3 * k < n ∧ 48 ≤ c (4 + 3 * k) ∧ c (4 + 3 * k) ≤ 57) ∧ (n ≤ 5 + 3 * k ∨ c (5 + 3 * k) < 48 ∨ 51 < c (5 + 3 * k)) ∧ w'.1 33 10 = 5 + 3 * k)))) := by
  refine zC.of (by decide +kernel) (Nat.le_of_ble_eq_true rfl) ?_
  show zM mM_readsDoing (zZm 2 _) 0 [(0, zR 33), (1, zI b), (2, zI n)] [] w
  obtain ⟨hc, hp⟩ := id hT
  refine r_aload_n 0 0 dM_readsDoing_0 rfl rfl ?_
  refine r_getI (k := 13) fX7 rfl rfl (by decide) kw_518 rfl 13 rfl dM_readsDoing_1 rfl (fun y_1 ey_1 ly_1 uy_1 => ?_)
  refine r_iconst dM_readsDoing_4 ?_
  refine r_ic_eq 19 dM_readsDoing_5 (by decide) ⟨by omega, by omega⟩ ⟨by omega, by omega⟩ (fun c_5 => ?_) (fun c_5 => ?_)
  · refine r_iconst dM_readsDoing_19 ?_
    refine r_zret rfl (by omega) dM_readsDoing_20 ⟨_, rfl, ?_⟩
    exact Or.inr ⟨rfl, fun _ _ _ => rfl, Or.inl ⟨by omega, hp⟩⟩
  · refine r_aload_n 0 0 dM_readsDoing_8 rfl rfl ?_
    refine r_iload_n 1 1 dM_readsDoing_9 rfl rfl ?_
    refine r_iload_n 2 2 dM_readsDoing_10 rfl rfl ?_
    refine r_cVI (cM_codeAt w b n c (3 + 3 * k) (by omega) (by omega) (by omega) (by omega) hT) qM_codeAt rfl kw_651 rfl rfl dM_readsDoing_11 (st0 := [zI n, zI b, zR 33]) (st := []) rfl ⟨Nat.le_of_ble_eq_true rfl, Nat.le_of_ble_eq_true rfl⟩ ⟨Nat.le_of_ble_eq_true rfl, Nat.le_of_ble_eq_true rfl⟩ (Nat.le_of_ble_eq_true rfl) (fun a_11 w_11 h_11 ok_11 => ?_)
    obtain ⟨rfl, h_11⟩ := h_11
    refine r_bipush dM_readsDoing_14 (by decide) ?_
    refine r_ic_eq 21 dM_readsDoing_16 (by decide) ⟨by omega, by omega⟩ ⟨by omega, by omega⟩ (fun c_16 => ?_) (fun c_16 => ?_)
    · refine r_aload_n 0 0 dM_readsDoing_21 rfl rfl ?_
      refine r_dup dM_readsDoing_22 rfl ?_
      refine r_getI (k := 10) fX7 rfl rfl (by decide) kw_515 rfl 10 rfl dM_readsDoing_23 rfl (fun y_23 ey_23 ly_23 uy_23 => ?_)
      refine r_iconst dM_readsDoing_26 ?_
      refine r_iadd dM_readsDoing_27 ?_
      refine r_putI (k := 10) fX7 rfl rfl (by decide) kw_515 rfl rfl (by decide +kernel) 10 rfl dM_readsDoing_28 rfl (by omega) (by omega) (fun w_28 ew_28 => ?_)
      have hT1 : zRS w_28 b c (4 + 3 * k) := hT.fr (fun q => by rw [ew_28, zput_i _ _ _ _ (by decide)]) (by rw [ew_28, zput_s]; omega)
      have hf28 : ∀ i j, ¬ (i = 33 ∧ j = 10) → w_28.1 i j = w.1 i j := fun i j q => by rw [ew_28, zput_e, if_neg q]
      refine r_aload_n 0 0 dM_readsDoing_31 rfl rfl ?_
      refine r_iload_n 1 1 dM_readsDoing_32 rfl rfl ?_
      refine r_iload_n 2 2 dM_readsDoing_33 rfl rfl ?_
      refine r_iconst dM_readsDoing_34 ?_
      refine r_bipush dM_readsDoing_35 (by decide) ?_
      refine r_cVI (cM_figure w_28 b n 0 9 c (4 + 3 * k) (by omega) (by omega) (by omega) (by omega) hT1 (by omega) (by omega) (by omega) (by omega)) qM_figure rfl kw_655 rfl rfl dM_readsDoing_37 (st0 := [zI 9, zI 0, zI n, zI b, zR 33]) (st := []) rfl ⟨Nat.le_of_ble_eq_true rfl, Nat.le_of_ble_eq_true rfl⟩ ⟨Nat.le_of_ble_eq_true rfl, Nat.le_of_ble_eq_true rfl⟩ (Nat.le_of_ble_eq_true rfl) (fun a_37 w_37 h_37 ok_37 => ?_)
      refine r_istore_n (ls' := [(3, zI a_37), (0, zR 33), (1, zI b), (2, zI n)]) 3 dM_readsDoing_40 rfl (by decide) rfl ?_
      refine r_iload_n 3 0 dM_readsDoing_41 rfl rfl ?_
      refine r_if_ge 50 dM_readsDoing_42 (by decide) ⟨by omega, by omega⟩ (fun c_42 => ?_) (fun c_42 => ?_)
      · refine r_aload_n 0 1 dM_readsDoing_50 rfl rfl ?_
        refine r_iload_n 1 2 dM_readsDoing_51 rfl rfl ?_
        refine r_iload_n 2 3 dM_readsDoing_52 rfl rfl ?_
        refine r_iconst dM_readsDoing_53 ?_
        refine r_iconst dM_readsDoing_54 ?_
        refine r_cVI (cM_figure w_37 b n 0 3 c (5 + 3 * k) (by omega) (by omega) (by omega) (by omega) (zRS.fr hT1 (fun q => h_37.1 _ _ (by omega)) (by omega)) (by omega) (by omega) (by omega) (by omega)) qM_figure rfl kw_655 rfl rfl dM_readsDoing_55 (st0 := [zI 3, zI 0, zI n, zI b, zR 33]) (st := []) rfl ⟨Nat.le_of_ble_eq_true rfl, Nat.le_of_ble_eq_true rfl⟩ ⟨Nat.le_of_ble_eq_true rfl, Nat.le_of_ble_eq_true rfl⟩ (Nat.le_of_ble_eq_true rfl) (fun a_55 w_55 h_55 ok_55 => ?_)
        have hf55 : ∀ i j, ¬ (i = 33 ∧ j = 10) → w_55.1 i j = w.1 i j := fun i j q => by rw [h_55.1 i j q, h_37.1 i j q, hf28 i j q]
        have e13 := hf55 33 13 (by omega)
        refine r_istore (ls' := [(4, zI a_55), (3, zI a_37), (0, zR 33), (1, zI b), (2, zI n)]) 4 dM_readsDoing_58 (by decide) rfl ?_
        refine r_iload 4 0 dM_readsDoing_60 rfl ?_
        refine r_if_ge 67 dM_readsDoing_62 (by decide) ⟨by omega, by omega⟩ (fun c_62 => ?_) (fun c_62 => ?_)
        · refine r_aload_n 0 2 dM_readsDoing_67 rfl rfl ?_
          refine r_getR (k := 15) (b := 39) fX7 rfl rfl rfl (by decide) kw_520 rfl dM_readsDoing_68 ?_
          refine r_aload_n 0 2 dM_readsDoing_71 rfl rfl ?_
          refine r_getI (k := 13) fX7 rfl rfl (by decide) kw_518 rfl 13 rfl dM_readsDoing_72 rfl (fun y_72 ey_72 ly_72 uy_72 => ?_)
          refine r_iload_n 3 1 dM_readsDoing_75 rfl rfl ?_
          refine r_iastore rfl (by decide) dM_readsDoing_76 (by omega) (by omega) rfl (by omega) (by omega) (fun w_76 ew_76 => ?_)
          refine r_aload_n 0 2 dM_readsDoing_77 rfl rfl ?_
          refine r_getR (k := 16) (b := 40) fX7 rfl rfl rfl (by decide) kw_521 rfl dM_readsDoing_78 ?_
          refine r_aload_n 0 2 dM_readsDoing_81 rfl rfl ?_
          refine r_getI (k := 13) fX7 rfl rfl (by decide) kw_518 rfl 13 rfl dM_readsDoing_82 rfl (fun y_82 ey_82 ly_82 uy_82 => ?_)
          rw [ew_76, zput_i (i := 39) (i' := 33) _ _ _ _ (by decide)] at ey_82
          refine r_iload 4 0 dM_readsDoing_85 rfl ?_
          refine r_iastore rfl (by decide) dM_readsDoing_87 (by omega) (by omega) rfl (by omega) (by omega) (fun w_87 ew_87 => ?_)
          refine r_aload_n 0 2 dM_readsDoing_88 rfl rfl ?_
          refine r_dup dM_readsDoing_89 rfl ?_
          refine r_getI (k := 13) fX7 rfl rfl (by decide) kw_518 rfl 13 rfl dM_readsDoing_90 rfl (fun y_90 ey_90 ly_90 uy_90 => ?_)
          rw [ew_87, zput_i (i := 40) (i' := 33) _ _ _ _ (by decide)] at ey_90
          rw [ew_76, zput_i (i := 39) (i' := 33) _ _ _ _ (by decide)] at ey_90
          refine r_iconst dM_readsDoing_93 ?_
          refine r_iadd dM_readsDoing_94 ?_
          refine r_putI (k := 13) fX7 rfl rfl (by decide) kw_518 rfl rfl (by decide +kernel) 13 rfl dM_readsDoing_95 rfl (by omega) (by omega) (fun w_95 ew_95 => ?_)
          refine r_iconst dM_readsDoing_98 ?_
          refine r_zret rfl (by omega) dM_readsDoing_99 ⟨_, rfl, ?_⟩
          exact Or.inl ⟨rfl, by omega, by omega, by omega, by rw [ew_95, zput_k _ _ (by decide), ew_87, zput_i _ _ _ _ (by decide), ew_76, zput_i _ _ _ _ (by decide)]; omega, by rw [ew_95, zput_s]; omega, fun i j q => by rw [ew_95, zput_e, if_neg (by omega), ew_87, zput_e, ew_76, zput_e, hf55 i j (by omega)]; (repeat' split) <;> omega⟩
        · refine r_iconst dM_readsDoing_65 ?_
          refine r_zret rfl (by omega) dM_readsDoing_66 ⟨_, rfl, ?_⟩
          exact Or.inr ⟨rfl, hf55, Or.inr (Or.inr ⟨by omega, by omega, by omega, by omega⟩)⟩
      · refine r_bipush dM_readsDoing_45 (by decide) ?_
        refine r_goto 58 dM_readsDoing_47 (by decide) ?_
        skip
        refine r_istore (ls' := [(4, zI (-9)), (3, zI a_37), (0, zR 33), (1, zI b), (2, zI n)]) 4 dM_readsDoing_58 (by decide) rfl ?_
        refine r_iload 4 0 dM_readsDoing_60 rfl ?_
        refine r_if_ge 67 dM_readsDoing_62 (by decide) ⟨by omega, by omega⟩ (fun c_62 => by exfalso; omega) (fun c_62 => ?_)
        refine r_iconst dM_readsDoing_65 ?_
        refine r_zret rfl (by omega) dM_readsDoing_66 ⟨_, rfl, ?_⟩
        exact Or.inr ⟨rfl, fun i j q => by rw [h_37.1 i j q, hf28 i j q], Or.inr (Or.inl ⟨by omega, by omega, by omega⟩)⟩
    · refine r_iconst dM_readsDoing_19 ?_
      refine r_zret rfl (by omega) dM_readsDoing_20 ⟨_, rfl, ?_⟩
      exact Or.inr ⟨rfl, fun _ _ _ => rfl, Or.inl ⟨by omega, hp⟩⟩

set_option maxRecDepth 20000 in
set_option maxHeartbeats 4000000 in
theorem cM_readsGuest (w : zW) (b : Int) (n : Int) (c : Int → Int) (nd : Int) (k : Int) (hb0 : 0 ≤ b) (hn0 : 0 ≤ n) (hn1 : n ≤ 60) (hbn : b + n ≤ 240) (hT : zRS w b c (3 + 3 * nd + 4 * k)) (hnd : w.1 33 13 = nd) (hn2 : 1 ≤ nd) (hn3 : nd ≤ 4) (hk : w.1 33 14 = k) (hk0 : 0 ≤ k) (hk4 : k ≤ 6) : zC mM_readsGuest 2 [zR 33, zI b, zI n] w (zrI fun a w' => (a = 1 ∧ (k < 6 ∧ 3 + 3 * nd + 4 * k < n ∧ c (3 + 3 * nd + 4 * k) = 59) ∧ (4 + 3 * nd + 4 * k < n ∧ (c (4 + 3 * nd + 4 * k) = 103 ∨ c (4 + 3 * nd + 4 * k) = 99 ∨ c (4 + 3 * nd + 4 * k) = 112)) ∧ (5 + 3 * nd + 4 * k < n ∧ 48 ≤ c (5 + 3 * nd + 4 * k) ∧ c (5 + 3 * nd + 4 * k) ≤ 57) ∧ (6 + 3 * nd + 4 * k < n ∧ 48 ≤ c (6 + 3 * nd + 4 * k) ∧ c (6 + 3 * nd + 4 * k) ≤ 47 + nd) ∧ w'.1 33 10 = 7 + 3 * nd + 4 * k ∧ w'.1 33 14 = k + 1 ∧ (∀ i j, ¬ (i = 33 ∧ (j = 10 ∨ j = 14)) → w'.1 i j = (if i = 41 ∧ j = k then zKd (c (4 + 3 * nd + 4 * k)) else if i = 42 ∧ j = k then c (5 + 3 * nd + 4 * k) - 48 else if i = 43 ∧ j = k then c (6 + 3 * nd + 4 * k) - 48 else w.1 i j))) ∨ (a = 0 ∧ (∀ i j, ¬ (i = 33 ∧ j = 10) → w'.1 i j = w.1 i j) ∧ (((k = 6 ∨ n ≤ 3 + 3 * nd + 4 * k ∨ ¬ c (3 + 3 * nd + 4 * k) = 59) ∧ w'.1 33 10 = 3 + 3 * nd + 4 * k) ∨ ((k < 6 ∧ 3 + 3 * nd + 4 * k < n ∧ c (3 + 3 * nd + 4 * k) = 59) ∧ (n ≤ 4 + 3 * nd + 4 * k ∨ ¬ (c (4 + 3 * nd + 4 * k) = 103 ∨ c (4 + 3 * nd + 4 * k) = 99 ∨ c (4 + 3 * nd + 4 * k) = 112)) ∧ w'.1 33 10 = 4 + 3 * nd + 4 * k) ∨ ((k < 6 ∧ 3 + 3 * nd + 4 * k < n ∧ c (3 + 3 * nd + 4 * k) = 59) ∧ (4 + 3 * nd + 4 * k < n ∧ (c (4 + 3 * nd + 4 * k) = 103 ∨ c (4 + 3 * nd + 4 * k) = 99 ∨ c (4 + 3 * nd + 4 * k) = 112)) ∧ (n ≤ 5 + 3 * nd + 4 * k ∨ c (5 + 3 * nd + 4 * k) < 48 ∨ 57 < c (5 + 3 * nd + 4 * k)) ∧ w'.1 33 10 = 5 + 3 * nd + 4 * k) ∨ ((k < 6 ∧ 3 + 3 * nd + 4 * k < n ∧ c (3 + 3 * nd + 4 * k) = 59) ∧ (4 + 3 * nd + 4 * k < n ∧ (c (4 + 3 * nd + 4 * k) = 103 ∨ c (4 + 3 * nd + 4 * k) = 99 ∨ c (4 + 3 * nd + 4 * k) = 112)) ∧ (5 + 3 * nd + 4 * k < n ∧ 48 ≤ c (5 + 3 * nd + 4 * k) ∧ c (5 + 3 * nd + 4 * k) ≤ 57) ∧ (n ≤ 6 + 3 * nd + 4 * k ∨ c (6 + 3 * nd + 4 * k) < 48 ∨ 47 + nd < c (6 + 3 * nd + 4 * k)) ∧ w'.1 33 10 = 6 + 3 * nd + 4 * k)))) := by
  refine zC.of (by decide +kernel) (Nat.le_of_ble_eq_true rfl) ?_
  show zM mM_readsGuest (zZm 2 _) 0 [(0, zR 33), (1, zI b), (2, zI n)] [] w
  obtain ⟨hc, hp⟩ := id hT
  refine r_aload_n 0 0 dM_readsGuest_0 rfl rfl ?_
  refine r_getI (k := 14) fX7 rfl rfl (by decide) kw_519 rfl 14 rfl dM_readsGuest_1 rfl (fun y_1 ey_1 ly_1 uy_1 => ?_)
  refine r_bipush dM_readsGuest_4 (by decide) ?_
  refine r_ic_eq 20 dM_readsGuest_6 (by decide) ⟨by omega, by omega⟩ ⟨by omega, by omega⟩ (fun c_6 => ?_) (fun c_6 => ?_)
  · refine r_iconst dM_readsGuest_20 ?_
    refine r_zret rfl (by omega) dM_readsGuest_21 ⟨_, rfl, ?_⟩
    exact Or.inr ⟨rfl, fun _ _ _ => rfl, Or.inl ⟨by omega, hp⟩⟩
  · refine r_aload_n 0 0 dM_readsGuest_9 rfl rfl ?_
    refine r_iload_n 1 1 dM_readsGuest_10 rfl rfl ?_
    refine r_iload_n 2 2 dM_readsGuest_11 rfl rfl ?_
    refine r_cVI (cM_codeAt w b n c (3 + 3 * nd + 4 * k) (by omega) (by omega) (by omega) (by omega) hT) qM_codeAt rfl kw_651 rfl rfl dM_readsGuest_12 (st0 := [zI n, zI b, zR 33]) (st := []) rfl ⟨Nat.le_of_ble_eq_true rfl, Nat.le_of_ble_eq_true rfl⟩ ⟨Nat.le_of_ble_eq_true rfl, Nat.le_of_ble_eq_true rfl⟩ (Nat.le_of_ble_eq_true rfl) (fun a_12 w_12 h_12 ok_12 => ?_)
    obtain ⟨rfl, h_12⟩ := h_12
    refine r_bipush dM_readsGuest_15 (by decide) ?_
    refine r_ic_eq 22 dM_readsGuest_17 (by decide) ⟨by omega, by omega⟩ ⟨by omega, by omega⟩ (fun c_17 => ?_) (fun c_17 => ?_)
    · refine r_aload_n 0 0 dM_readsGuest_22 rfl rfl ?_
      refine r_dup dM_readsGuest_23 rfl ?_
      refine r_getI (k := 10) fX7 rfl rfl (by decide) kw_515 rfl 10 rfl dM_readsGuest_24 rfl (fun y_24 ey_24 ly_24 uy_24 => ?_)
      refine r_iconst dM_readsGuest_27 ?_
      refine r_iadd dM_readsGuest_28 ?_
      refine r_putI (k := 10) fX7 rfl rfl (by decide) kw_515 rfl rfl (by decide +kernel) 10 rfl dM_readsGuest_29 rfl (by omega) (by omega) (fun w_29 ew_29 => ?_)
      have hT1 : zRS w_29 b c (4 + 3 * nd + 4 * k) := hT.fr (fun q => by rw [ew_29, zput_i _ _ _ _ (by decide)]) (by rw [ew_29, zput_s]; omega)
      have hf29 : ∀ i j, ¬ (i = 33 ∧ j = 10) → w_29.1 i j = w.1 i j := fun i j q => by rw [ew_29, zput_e, if_neg q]
      refine r_aload_n 0 0 dM_readsGuest_32 rfl rfl ?_
      refine r_iload_n 1 1 dM_readsGuest_33 rfl rfl ?_
      refine r_iload_n 2 2 dM_readsGuest_34 rfl rfl ?_
      refine r_cVI (cM_codeAt w_29 b n c (4 + 3 * nd + 4 * k) (by omega) (by omega) (by omega) (by omega) hT1) qM_codeAt rfl kw_651 rfl rfl dM_readsGuest_35 (st0 := [zI n, zI b, zR 33]) (st := []) rfl ⟨Nat.le_of_ble_eq_true rfl, Nat.le_of_ble_eq_true rfl⟩ ⟨Nat.le_of_ble_eq_true rfl, Nat.le_of_ble_eq_true rfl⟩ (Nat.le_of_ble_eq_true rfl) (fun a_35 w_35 h_35 ok_35 => ?_)
      obtain ⟨rfl, h_35⟩ := h_35
      refine r_istore_n (ls' := [(3, zI a_35), (0, zR 33), (1, zI b), (2, zI n)]) 3 dM_readsGuest_38 rfl (by decide) rfl ?_
      refine r_iload_n 3 0 dM_readsGuest_39 rfl rfl ?_
      refine r_bipush dM_readsGuest_40 (by decide) ?_
      have J_59 : ∀ (hk3 : (a_35 = 103 ∨ a_35 = 99 ∨ a_35 = 112) ∧ 4 + 3 * nd + 4 * k < n) (hk5 : a_35 = c (4 + 3 * nd + 4 * k)), zM mM_readsGuest (zZm 2 (zrI fun a w' => (a = 1 ∧ (k < 6 ∧ 3 + 3 * nd + 4 * k < n ∧ c (3 + 3 * nd + 4 * k) = 59) ∧ (4 + 3 * nd + 4 * k < n ∧ (c (4 + 3 * nd + 4 * k) = 103 ∨ c (4 + 3 * nd + 4 * k) = 99 ∨ c (4 + 3 * nd + 4 * k) = 112)) ∧ (5 + 3 * nd + 4 * k < n ∧ 48 ≤ c (5 + 3 * nd + 4 * k) ∧ c (5 + 3 * nd + 4 * k) ≤ 57) ∧ (6 + 3 * nd + 4 * k < n ∧ 48 ≤ c (6 + 3 * nd + 4 * k) ∧ c (6 + 3 * nd + 4 * k) ≤ 47 + nd) ∧ w'.1 33 10 = 7 + 3 * nd + 4 * k ∧ w'.1 33 14 = k + 1 ∧ (∀ i j, ¬ (i = 33 ∧ (j = 10 ∨ j = 14)) → w'.1 i j = (if i = 41 ∧ j = k then zKd (c (4 + 3 * nd + 4 * k)) else if i = 42 ∧ j = k then c (5 + 3 * nd + 4 * k) - 48 else if i = 43 ∧ j = k then c (6 + 3 * nd + 4 * k) - 48 else w.1 i j))) ∨ (a = 0 ∧ (∀ i j, ¬ (i = 33 ∧ j = 10) → w'.1 i j = w.1 i j) ∧ (((k = 6 ∨ n ≤ 3 + 3 * nd + 4 * k ∨ ¬ c (3 + 3 * nd + 4 * k) = 59) ∧ w'.1 33 10 = 3 + 3 * nd + 4 * k) ∨ ((k < 6 ∧ 3 + 3 * nd + 4 * k < n ∧ c (3 + 3 * nd + 4 * k) = 59) ∧ (n ≤ 4 + 3 * nd + 4 * k ∨ ¬ (c (4 + 3 * nd + 4 * k) = 103 ∨ c (4 + 3 * nd + 4 * k) = 99 ∨ c (4 + 3 * nd + 4 * k) = 112)) ∧ w'.1 33 10 = 4 + 3 * nd + 4 * k) ∨ ((k < 6 ∧ 3 + 3 * nd + 4 * k < n ∧ c (3 + 3 * nd + 4 * k) = 59) ∧ (4 + 3 * nd + 4 * k < n ∧ (c (4 + 3 * nd + 4 * k) = 103 ∨ c (4 + 3 * nd + 4 * k) = 99 ∨ c (4 + 3 * nd + 4 * k) = 112)) ∧ (n ≤ 5 + 3 * nd + 4 * k ∨ c (5 + 3 * nd + 4 * k) < 48 ∨ 57 < c (5 + 3 * nd + 4 * k)) ∧ w'.1 33 10 = 5 + 3 * nd + 4 * k) ∨ ((k < 6 ∧ 3 + 3 * nd + 4 * k < n ∧ c (3 + 3 * nd + 4 * k) = 59) ∧ (4 + 3 * nd + 4 * k < n ∧ (c (4 + 3 * nd + 4 * k) = 103 ∨ c (4 + 3 * nd + 4 * k) = 99 ∨ c (4 + 3 * nd + 4 * k) = 112)) ∧ (5 + 3 * nd + 4 * k < n ∧ 48 ≤ c (5 + 3 * nd + 4 * k) ∧ c (5 + 3 * nd + 4 * k) ≤ 57) ∧ (n ≤ 6 + 3 * nd + 4 * k ∨ c (6 + 3 * nd + 4 * k) < 48 ∨ 47 + nd < c (6 + 3 * nd + 4 * k)) ∧ w'.1 33 10 = 6 + 3 * nd + 4 * k))))) 59 [(3, zI a_35), (0, zR 33), (1, zI b), (2, zI n)] [] w_29 := by
        intro hk3 hk5
        refine r_aload_n 0 1 dM_readsGuest_59 rfl rfl ?_
        refine r_dup dM_readsGuest_60 rfl ?_
        refine r_getI (k := 10) fX7 rfl rfl (by decide) kw_515 rfl 10 rfl dM_readsGuest_61 rfl (fun y_61 ey_61 ly_61 uy_61 => ?_)
        rw [ew_29, zput_s] at ey_61
        refine r_iconst dM_readsGuest_64 ?_
        refine r_iadd dM_readsGuest_65 ?_
        refine r_putI (k := 10) fX7 rfl rfl (by decide) kw_515 rfl rfl (by decide +kernel) 10 rfl dM_readsGuest_66 rfl (by omega) (by omega) (fun w_66 ew_66 => ?_)
        have hT2 : zRS w_66 b c (5 + 3 * nd + 4 * k) := hT1.fr (fun q => by rw [ew_66, zput_i _ _ _ _ (by decide)]) (by rw [ew_66, zput_s]; omega)
        have hf66 : ∀ i j, ¬ (i = 33 ∧ j = 10) → w_66.1 i j = w.1 i j := fun i j q => by rw [ew_66, zput_e, if_neg q, hf29 i j q]
        refine r_aload_n 0 1 dM_readsGuest_69 rfl rfl ?_
        refine r_iload_n 1 2 dM_readsGuest_70 rfl rfl ?_
        refine r_iload_n 2 3 dM_readsGuest_71 rfl rfl ?_
        refine r_iconst dM_readsGuest_72 ?_
        refine r_bipush dM_readsGuest_73 (by decide) ?_
        refine r_cVI (cM_figure w_66 b n 0 9 c (5 + 3 * nd + 4 * k) (by omega) (by omega) (by omega) (by omega) hT2 (by omega) (by omega) (by omega) (by omega)) qM_figure rfl kw_655 rfl rfl dM_readsGuest_75 (st0 := [zI 9, zI 0, zI n, zI b, zR 33]) (st := []) rfl ⟨Nat.le_of_ble_eq_true rfl, Nat.le_of_ble_eq_true rfl⟩ ⟨Nat.le_of_ble_eq_true rfl, Nat.le_of_ble_eq_true rfl⟩ (Nat.le_of_ble_eq_true rfl) (fun a_75 w_75 h_75 ok_75 => ?_)
        refine r_istore (ls' := [(4, zI a_75), (3, zI a_35), (0, zR 33), (1, zI b), (2, zI n)]) 4 dM_readsGuest_78 (by decide) rfl ?_
        have hf75 : ∀ i j, ¬ (i = 33 ∧ j = 10) → w_75.1 i j = w.1 i j := fun i j q => by rw [h_75.1 i j q, hf66 i j q]
        have e13 := hf75 33 13 (by omega)
        refine r_iload 4 0 dM_readsGuest_80 rfl ?_
        refine r_if_ge 90 dM_readsGuest_82 (by decide) ⟨by omega, by omega⟩ (fun c_82 => ?_) (fun c_82 => ?_)
        · refine r_aload_n 0 2 dM_readsGuest_90 rfl rfl ?_
          refine r_iload_n 1 3 dM_readsGuest_91 rfl rfl ?_
          refine r_iload_n 2 4 dM_readsGuest_92 rfl rfl ?_
          refine r_iconst dM_readsGuest_93 ?_
          refine r_aload_n 0 2 dM_readsGuest_94 rfl rfl ?_
          refine r_getI (k := 13) fX7 rfl rfl (by decide) kw_518 rfl 13 rfl dM_readsGuest_95 rfl (fun y_95 ey_95 ly_95 uy_95 => ?_)
          refine r_iconst dM_readsGuest_98 ?_
          refine r_isub dM_readsGuest_99 ?_
          refine r_cVI (cM_figure w_75 b n 0 (y_95 - 1) c (6 + 3 * nd + 4 * k) (by omega) (by omega) (by omega) (by omega) (zRS.fr hT2 (fun q => h_75.1 _ _ (by omega)) (by omega)) (by omega) (by omega) (by omega) (by omega)) qM_figure rfl kw_655 rfl rfl dM_readsGuest_100 (st0 := [zI (y_95 - 1), zI 0, zI n, zI b, zR 33]) (st := []) rfl ⟨Nat.le_of_ble_eq_true rfl, Nat.le_of_ble_eq_true rfl⟩ ⟨Nat.le_of_ble_eq_true rfl, Nat.le_of_ble_eq_true rfl⟩ (Nat.le_of_ble_eq_true rfl) (fun a_100 w_100 h_100 ok_100 => ?_)
          have hf100 : ∀ i j, ¬ (i = 33 ∧ j = 10) → w_100.1 i j = w.1 i j := fun i j q => by rw [h_100.1 i j q, hf75 i j q]
          have e14 := hf100 33 14 (by omega)
          refine r_istore (ls' := [(5, zI a_100), (4, zI a_75), (3, zI a_35), (0, zR 33), (1, zI b), (2, zI n)]) 5 dM_readsGuest_103 (by decide) rfl ?_
          refine r_iload 5 0 dM_readsGuest_105 rfl ?_
          refine r_if_ge 112 dM_readsGuest_107 (by decide) ⟨by omega, by omega⟩ (fun c_107 => ?_) (fun c_107 => ?_)
          · refine r_aload_n 0 3 dM_readsGuest_112 rfl rfl ?_
            refine r_getR (k := 17) (b := 41) fX7 rfl rfl rfl (by decide) kw_522 rfl dM_readsGuest_113 ?_
            refine r_aload_n 0 3 dM_readsGuest_116 rfl rfl ?_
            refine r_getI (k := 14) fX7 rfl rfl (by decide) kw_519 rfl 14 rfl dM_readsGuest_117 rfl (fun y_117 ey_117 ly_117 uy_117 => ?_)
            refine r_iload_n 3 2 dM_readsGuest_120 rfl rfl ?_
            refine r_bipush dM_readsGuest_121 (by decide) ?_
            have J_141 : ∀ (kd : Int) (hkd : kd = zKd a_35), zM mM_readsGuest (zZm 2 (zrI fun a w' => (a = 1 ∧ (k < 6 ∧ 3 + 3 * nd + 4 * k < n ∧ c (3 + 3 * nd + 4 * k) = 59) ∧ (4 + 3 * nd + 4 * k < n ∧ (c (4 + 3 * nd + 4 * k) = 103 ∨ c (4 + 3 * nd + 4 * k) = 99 ∨ c (4 + 3 * nd + 4 * k) = 112)) ∧ (5 + 3 * nd + 4 * k < n ∧ 48 ≤ c (5 + 3 * nd + 4 * k) ∧ c (5 + 3 * nd + 4 * k) ≤ 57) ∧ (6 + 3 * nd + 4 * k < n ∧ 48 ≤ c (6 + 3 * nd + 4 * k) ∧ c (6 + 3 * nd + 4 * k) ≤ 47 + nd) ∧ w'.1 33 10 = 7 + 3 * nd + 4 * k ∧ w'.1 33 14 = k + 1 ∧ (∀ i j, ¬ (i = 33 ∧ (j = 10 ∨ j = 14)) → w'.1 i j = (if i = 41 ∧ j = k then zKd (c (4 + 3 * nd + 4 * k)) else if i = 42 ∧ j = k then c (5 + 3 * nd + 4 * k) - 48 else if i = 43 ∧ j = k then c (6 + 3 * nd + 4 * k) - 48 else w.1 i j))) ∨ (a = 0 ∧ (∀ i j, ¬ (i = 33 ∧ j = 10) → w'.1 i j = w.1 i j) ∧ (((k = 6 ∨ n ≤ 3 + 3 * nd + 4 * k ∨ ¬ c (3 + 3 * nd + 4 * k) = 59) ∧ w'.1 33 10 = 3 + 3 * nd + 4 * k) ∨ ((k < 6 ∧ 3 + 3 * nd + 4 * k < n ∧ c (3 + 3 * nd + 4 * k) = 59) ∧ (n ≤ 4 + 3 * nd + 4 * k ∨ ¬ (c (4 + 3 * nd + 4 * k) = 103 ∨ c (4 + 3 * nd + 4 * k) = 99 ∨ c (4 + 3 * nd + 4 * k) = 112)) ∧ w'.1 33 10 = 4 + 3 * nd + 4 * k) ∨ ((k < 6 ∧ 3 + 3 * nd + 4 * k < n ∧ c (3 + 3 * nd + 4 * k) = 59) ∧ (4 + 3 * nd + 4 * k < n ∧ (c (4 + 3 * nd + 4 * k) = 103 ∨ c (4 + 3 * nd + 4 * k) = 99 ∨ c (4 + 3 * nd + 4 * k) = 112)) ∧ (n ≤ 5 + 3 * nd + 4 * k ∨ c (5 + 3 * nd + 4 * k) < 48 ∨ 57 < c (5 + 3 * nd + 4 * k)) ∧ w'.1 33 10 = 5 + 3 * nd + 4 * k) ∨ ((k < 6 ∧ 3 + 3 * nd + 4 * k < n ∧ c (3 + 3 * nd + 4 * k) = 59) ∧ (4 + 3 * nd + 4 * k < n ∧ (c (4 + 3 * nd + 4 * k) = 103 ∨ c (4 + 3 * nd + 4 * k) = 99 ∨ c (4 + 3 * nd + 4 * k) = 112)) ∧ (5 + 3 * nd + 4 * k < n ∧ 48 ≤ c (5 + 3 * nd + 4 * k) ∧ c (5 + 3 * nd + 4 * k) ≤ 57) ∧ (n ≤ 6 + 3 * nd + 4 * k ∨ c (6 + 3 * nd + 4 * k) < 48 ∨ 47 + nd < c (6 + 3 * nd + 4 * k)) ∧ w'.1 33 10 = 6 + 3 * nd + 4 * k))))) 141 [(5, zI a_100), (4, zI a_75), (3, zI a_35), (0, zR 33), (1, zI b), (2, zI n)] [zI kd, zI y_117, zR 41] w_100 := by
              intro kd hkd
              refine r_iastore rfl (by decide) dM_readsGuest_141 (by omega) (by omega) rfl (by have := zKd_in a_35; omega) (by have := zKd_in a_35; omega) (fun w_141 ew_141 => ?_)
              refine r_aload_n 0 3 dM_readsGuest_142 rfl rfl ?_
              refine r_getR (k := 18) (b := 42) fX7 rfl rfl rfl (by decide) kw_523 rfl dM_readsGuest_143 ?_
              refine r_aload_n 0 3 dM_readsGuest_146 rfl rfl ?_
              refine r_getI (k := 14) fX7 rfl rfl (by decide) kw_519 rfl 14 rfl dM_readsGuest_147 rfl (fun y_147 ey_147 ly_147 uy_147 => ?_)
              rw [ew_141, zput_i (i := 41) (i' := 33) _ _ _ _ (by decide)] at ey_147
              refine r_iload 4 1 dM_readsGuest_150 rfl ?_
              refine r_iastore rfl (by decide) dM_readsGuest_152 (by omega) (by omega) rfl (by omega) (by omega) (fun w_152 ew_152 => ?_)
              refine r_aload_n 0 3 dM_readsGuest_153 rfl rfl ?_
              refine r_getR (k := 19) (b := 43) fX7 rfl rfl rfl (by decide) kw_524 rfl dM_readsGuest_154 ?_
              refine r_aload_n 0 3 dM_readsGuest_157 rfl rfl ?_
              refine r_getI (k := 14) fX7 rfl rfl (by decide) kw_519 rfl 14 rfl dM_readsGuest_158 rfl (fun y_158 ey_158 ly_158 uy_158 => ?_)
              rw [ew_152, zput_i (i := 42) (i' := 33) _ _ _ _ (by decide)] at ey_158
              rw [ew_141, zput_i (i := 41) (i' := 33) _ _ _ _ (by decide)] at ey_158
              refine r_iload 5 0 dM_readsGuest_161 rfl ?_
              refine r_iastore rfl (by decide) dM_readsGuest_163 (by omega) (by omega) rfl (by omega) (by omega) (fun w_163 ew_163 => ?_)
              refine r_aload_n 0 3 dM_readsGuest_164 rfl rfl ?_
              refine r_dup dM_readsGuest_165 rfl ?_
              refine r_getI (k := 14) fX7 rfl rfl (by decide) kw_519 rfl 14 rfl dM_readsGuest_166 rfl (fun y_166 ey_166 ly_166 uy_166 => ?_)
              rw [ew_163, zput_i (i := 43) (i' := 33) _ _ _ _ (by decide)] at ey_166
              rw [ew_152, zput_i (i := 42) (i' := 33) _ _ _ _ (by decide)] at ey_166
              rw [ew_141, zput_i (i := 41) (i' := 33) _ _ _ _ (by decide)] at ey_166
              refine r_iconst dM_readsGuest_169 ?_
              refine r_iadd dM_readsGuest_170 ?_
              refine r_putI (k := 14) fX7 rfl rfl (by decide) kw_519 rfl rfl (by decide +kernel) 14 rfl dM_readsGuest_171 rfl (by omega) (by omega) (fun w_171 ew_171 => ?_)
              refine r_iconst dM_readsGuest_174 ?_
              refine r_zret rfl (by omega) dM_readsGuest_175 ⟨_, rfl, ?_⟩
              exact Or.inl ⟨rfl, by omega, by omega, by omega, by omega, by rw [ew_171, zput_k _ _ (by decide), ew_163, zput_i _ _ _ _ (by decide), ew_152, zput_i _ _ _ _ (by decide), ew_141, zput_i _ _ _ _ (by decide)]; omega, by rw [ew_171, zput_s]; omega, fun i j q => by rw [ew_171, zput_e, if_neg (by omega), ew_163, zput_e, ew_152, zput_e, ew_141, zput_e, hf100 i j (by omega), hkd, hk5]; (repeat' split) <;> first | rfl | omega⟩
            refine r_ic_ne 130 dM_readsGuest_123 (by decide) ⟨by omega, by omega⟩ ⟨by omega, by omega⟩ (fun c_123 => ?_) (fun c_123 => ?_)
            · refine r_iload_n 3 2 dM_readsGuest_130 rfl rfl ?_
              refine r_bipush dM_readsGuest_131 (by decide) ?_
              refine r_ic_ne 140 dM_readsGuest_133 (by decide) ⟨by omega, by omega⟩ ⟨by omega, by omega⟩ (fun c_133 => ?_) (fun c_133 => ?_)
              · refine r_iconst dM_readsGuest_140 ?_
                exact J_141 2 (by unfold zKd; (repeat' split) <;> omega)
              · refine r_iconst dM_readsGuest_136 ?_
                refine r_goto 141 dM_readsGuest_137 (by decide) ?_
                exact J_141 1 (by unfold zKd; (repeat' split) <;> omega)
            · refine r_iconst dM_readsGuest_126 ?_
              refine r_goto 141 dM_readsGuest_127 (by decide) ?_
              exact J_141 0 (by unfold zKd; (repeat' split) <;> omega)
          · refine r_iconst dM_readsGuest_110 ?_
            refine r_zret rfl (by omega) dM_readsGuest_111 ⟨_, rfl, ?_⟩
            exact Or.inr ⟨rfl, hf100, Or.inr (Or.inr (Or.inr ⟨by omega, by omega, by omega, by omega, by omega⟩))⟩
        · refine r_bipush dM_readsGuest_85 (by decide) ?_
          refine r_goto 103 dM_readsGuest_87 (by decide) ?_
          skip
          refine r_istore (ls' := [(5, zI (-9)), (4, zI a_75), (3, zI a_35), (0, zR 33), (1, zI b), (2, zI n)]) 5 dM_readsGuest_103 (by decide) rfl ?_
          refine r_iload 5 0 dM_readsGuest_105 rfl ?_
          refine r_if_ge 112 dM_readsGuest_107 (by decide) ⟨by omega, by omega⟩ (fun c_107 => by exfalso; omega) (fun c_107 => ?_)
          refine r_iconst dM_readsGuest_110 ?_
          refine r_zret rfl (by omega) dM_readsGuest_111 ⟨_, rfl, ?_⟩
          exact Or.inr ⟨rfl, hf75, Or.inr (Or.inr (Or.inl ⟨by omega, by omega, by omega, by omega⟩))⟩
      refine r_ic_eq 59 dM_readsGuest_42 (by decide) ⟨by omega, by omega⟩ ⟨by omega, by omega⟩ (fun c_42 => ?_) (fun c_42 => ?_)
      · exact J_59 (by omega) (by omega)
      · refine r_iload_n 3 0 dM_readsGuest_45 rfl rfl ?_
        refine r_bipush dM_readsGuest_46 (by decide) ?_
        refine r_ic_eq 59 dM_readsGuest_48 (by decide) ⟨by omega, by omega⟩ ⟨by omega, by omega⟩ (fun c_48 => ?_) (fun c_48 => ?_)
        · exact J_59 (by omega) (by omega)
        · refine r_iload_n 3 0 dM_readsGuest_51 rfl rfl ?_
          refine r_bipush dM_readsGuest_52 (by decide) ?_
          refine r_ic_eq 59 dM_readsGuest_54 (by decide) ⟨by omega, by omega⟩ ⟨by omega, by omega⟩ (fun c_54 => ?_) (fun c_54 => ?_)
          · exact J_59 (by omega) (by omega)
          · refine r_iconst dM_readsGuest_57 ?_
            refine r_zret rfl (by omega) dM_readsGuest_58 ⟨_, rfl, ?_⟩
            exact Or.inr ⟨rfl, hf29, Or.inr (Or.inl ⟨by omega, by omega, by have := hT1.2; omega⟩)⟩
    · refine r_iconst dM_readsGuest_20 ?_
      refine r_zret rfl (by omega) dM_readsGuest_21 ⟨_, rfl, ?_⟩
      exact Or.inr ⟨rfl, fun _ _ _ => rfl, Or.inl ⟨by omega, hp⟩⟩
