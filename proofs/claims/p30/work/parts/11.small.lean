set_option maxRecDepth 20000 in
set_option maxHeartbeats 4000000 in
theorem cS_isSheet (w : zW) (k : Int) (hk : zin k) : zC mS_isSheet 0 [zR 2, zI k] w (zrI fun a w' => w = w' ∧ ((0 ≤ k ∧ k < 4 ∧ a = 1) ∨ ((k < 0 ∨ 4 ≤ k) ∧ a = 0))) := by
  refine zC.of (by decide +kernel) (Nat.le_of_ble_eq_true rfl) ?_
  show zM mS_isSheet (zZm 0 _) 0 [(0, zR 2), (1, zI k)] [] w
  refine r_iload_n 1 1 dS_isSheet_0 rfl rfl ?_
  refine r_if_lt 13 dS_isSheet_1 (by decide) ⟨by omega, by omega⟩ (fun c_1 => ?_) (fun c_1 => ?_)
  · refine r_iconst dS_isSheet_13 ?_
    refine r_zret rfl (by omega) dS_isSheet_14 ⟨_, rfl, ?_⟩
    exact ⟨rfl, by omega⟩
  · refine r_iload_n 1 1 dS_isSheet_4 rfl rfl ?_
    refine r_iconst dS_isSheet_5 ?_
    refine r_ic_ge 13 dS_isSheet_6 (by decide) ⟨by omega, by omega⟩ ⟨by omega, by omega⟩ (fun c_6 => ?_) (fun c_6 => ?_)
    · refine r_iconst dS_isSheet_13 ?_
      refine r_zret rfl (by omega) dS_isSheet_14 ⟨_, rfl, ?_⟩
      exact ⟨rfl, by omega⟩
    · refine r_iconst dS_isSheet_9 ?_
      refine r_goto 14 dS_isSheet_10 (by decide) ?_
      refine r_zret rfl (by omega) dS_isSheet_14 ⟨_, rfl, ?_⟩
      exact ⟨rfl, by omega⟩

set_option maxRecDepth 20000 in
set_option maxHeartbeats 4000000 in
theorem cS_isCell (w : zW) (k : Int) (i : Int) (hk0 : 0 ≤ k) (hk1 : k < 4) (hi : zin i) : zC mS_isCell 0 [zR 2, zI k, zI i] w (zrI fun a w' => w = w' ∧ ((0 ≤ i ∧ i < w.1 15 k ∧ w.1 15 k ≤ 60 ∧ a = 1) ∨ ((i < 0 ∨ w.1 15 k ≤ i) ∧ a = 0))) := by
  refine zC.of (by decide +kernel) (Nat.le_of_ble_eq_true rfl) ?_
  show zM mS_isCell (zZm 0 _) 0 [(0, zR 2), (1, zI k), (2, zI i)] [] w
  refine r_iload_n 2 2 dS_isCell_0 rfl rfl ?_
  refine r_if_lt 18 dS_isCell_1 (by decide) ⟨by omega, by omega⟩ (fun c_1 => ?_) (fun c_1 => ?_)
  · refine r_iconst dS_isCell_18 ?_
    refine r_zret rfl (by omega) dS_isCell_19 ⟨_, rfl, ?_⟩
    exact ⟨rfl, by omega⟩
  · refine r_iload_n 2 2 dS_isCell_4 rfl rfl ?_
    refine r_aload_n 0 0 dS_isCell_5 rfl rfl ?_
    refine r_getR (k := 3) (b := 15) fX4 rfl rfl rfl (by decide) kw_82 rfl dS_isCell_6 ?_
    refine r_iload_n 1 1 dS_isCell_9 rfl rfl ?_
    refine r_iaload rfl (by decide) dS_isCell_10 (by omega) (by omega) rfl (fun y_10 ey_10 ly_10 uy_10 => ?_)
    refine r_ic_ge 18 dS_isCell_11 (by decide) ⟨by omega, by omega⟩ ⟨by omega, by omega⟩ (fun c_11 => ?_) (fun c_11 => ?_)
    · refine r_iconst dS_isCell_18 ?_
      refine r_zret rfl (by omega) dS_isCell_19 ⟨_, rfl, ?_⟩
      exact ⟨rfl, by omega⟩
    · refine r_iconst dS_isCell_14 ?_
      refine r_goto 19 dS_isCell_15 (by decide) ?_
      refine r_zret rfl (by omega) dS_isCell_19 ⟨_, rfl, ?_⟩
      exact ⟨rfl, by omega⟩

set_option maxRecDepth 20000 in
set_option maxHeartbeats 4000000 in
theorem cS_spans (w : zW) (k : Int) (i : Int) (n : Int) (hk0 : 0 ≤ k) (hk1 : k < 4) (hi : zin i) (hn : zin n) : zC mS_spans 0 [zR 2, zI k, zI i, zI n] w (zrI fun a w' => w = w' ∧ ((0 ≤ i ∧ 0 ≤ n ∧ i + n ≤ w.1 15 k ∧ w.1 15 k ≤ 60 ∧ a = 1) ∨ ((i < 0 ∨ n < 0 ∨ w.1 15 k < i + n) ∧ a = 0))) := by
  refine zC.of (by decide +kernel) (Nat.le_of_ble_eq_true rfl) ?_
  show zM mS_spans (zZm 0 _) 0 [(0, zR 2), (1, zI k), (2, zI i), (3, zI n)] [] w
  refine r_iload_n 2 2 dS_spans_0 rfl rfl ?_
  refine r_if_lt 34 dS_spans_1 (by decide) ⟨by omega, by omega⟩ (fun c_1 => ?_) (fun c_1 => ?_)
  · refine r_iconst dS_spans_34 ?_
    refine r_zret rfl (by omega) dS_spans_35 ⟨_, rfl, ?_⟩
    exact ⟨rfl, by omega⟩
  · refine r_iload_n 2 2 dS_spans_4 rfl rfl ?_
    refine r_aload_n 0 0 dS_spans_5 rfl rfl ?_
    refine r_getR (k := 3) (b := 15) fX4 rfl rfl rfl (by decide) kw_82 rfl dS_spans_6 ?_
    refine r_iload_n 1 1 dS_spans_9 rfl rfl ?_
    refine r_iaload rfl (by decide) dS_spans_10 (by omega) (by omega) rfl (fun y_10 ey_10 ly_10 uy_10 => ?_)
    refine r_ic_gt 34 dS_spans_11 (by decide) ⟨by omega, by omega⟩ ⟨by omega, by omega⟩ (fun c_11 => ?_) (fun c_11 => ?_)
    · refine r_iconst dS_spans_34 ?_
      refine r_zret rfl (by omega) dS_spans_35 ⟨_, rfl, ?_⟩
      exact ⟨rfl, by omega⟩
    · refine r_iload_n 3 3 dS_spans_14 rfl rfl ?_
      refine r_if_lt 34 dS_spans_15 (by decide) ⟨by omega, by omega⟩ (fun c_15 => ?_) (fun c_15 => ?_)
      · refine r_iconst dS_spans_34 ?_
        refine r_zret rfl (by omega) dS_spans_35 ⟨_, rfl, ?_⟩
        exact ⟨rfl, by omega⟩
      · refine r_iload_n 3 3 dS_spans_18 rfl rfl ?_
        refine r_aload_n 0 0 dS_spans_19 rfl rfl ?_
        refine r_getR (k := 3) (b := 15) fX4 rfl rfl rfl (by decide) kw_82 rfl dS_spans_20 ?_
        refine r_iload_n 1 1 dS_spans_23 rfl rfl ?_
        refine r_iaload rfl (by decide) dS_spans_24 (by omega) (by omega) rfl (fun y_24 ey_24 ly_24 uy_24 => ?_)
        refine r_iload_n 2 2 dS_spans_25 rfl rfl ?_
        refine r_isub dS_spans_26 ?_
        refine r_ic_gt 34 dS_spans_27 (by decide) ⟨by omega, by omega⟩ ⟨by omega, by omega⟩ (fun c_27 => ?_) (fun c_27 => ?_)
        · refine r_iconst dS_spans_34 ?_
          refine r_zret rfl (by omega) dS_spans_35 ⟨_, rfl, ?_⟩
          exact ⟨rfl, by omega⟩
        · refine r_iconst dS_spans_30 ?_
          refine r_goto 35 dS_spans_31 (by decide) ?_
          refine r_zret rfl (by omega) dS_spans_35 ⟨_, rfl, ?_⟩
          exact ⟨rfl, by omega⟩

set_option maxRecDepth 20000 in
set_option maxHeartbeats 4000000 in
theorem cS_faultAsRow (w : zW) (k : Int) (lane : Int) (hk0 : 0 ≤ k) (hk1 : k < 4) (hl : zin lane) : zC mS_faultAsRow 0 [zR 2, zI k, zI lane] w (zrI fun a w' => w = w' ∧ ((w.1 13 k = 0 ∧ a = 1) ∨ (w.1 13 k = 1 ∧ w.1 14 k = lane ∧ a = 0) ∨ (w.1 13 k = 1 ∧ ¬ w.1 14 k = lane ∧ a = 2))) := by
  refine zC.of (by decide +kernel) (Nat.le_of_ble_eq_true rfl) ?_
  show zM mS_faultAsRow (zZm 0 _) 0 [(0, zR 2), (1, zI k), (2, zI lane)] [] w
  refine r_aload_n 0 0 dS_faultAsRow_0 rfl rfl ?_
  refine r_getR (k := 1) (b := 13) fX4 rfl rfl rfl (by decide) kw_78 rfl dS_faultAsRow_1 ?_
  refine r_iload_n 1 1 dS_faultAsRow_4 rfl rfl ?_
  refine r_baload rfl (by decide) dS_faultAsRow_5 (by omega) (by omega) rfl (fun y_5 ey_5 ly_5 uy_5 => ?_)
  refine r_if_ne 11 dS_faultAsRow_6 (by decide) ⟨by omega, by omega⟩ (fun c_6 => ?_) (fun c_6 => ?_)
  · refine r_aload_n 0 0 dS_faultAsRow_11 rfl rfl ?_
    refine r_getR (k := 2) (b := 14) fX4 rfl rfl rfl (by decide) kw_80 rfl dS_faultAsRow_12 ?_
    refine r_iload_n 1 1 dS_faultAsRow_15 rfl rfl ?_
    refine r_iaload rfl (by decide) dS_faultAsRow_16 (by omega) (by omega) rfl (fun y_16 ey_16 ly_16 uy_16 => ?_)
    refine r_iload_n 2 2 dS_faultAsRow_17 rfl rfl ?_
    refine r_ic_ne 25 dS_faultAsRow_18 (by decide) ⟨by omega, by omega⟩ ⟨by omega, by omega⟩ (fun c_18 => ?_) (fun c_18 => ?_)
    · refine r_iconst dS_faultAsRow_25 ?_
      refine r_iret rfl dS_faultAsRow_26 ⟨_, rfl, ?_⟩
      exact ⟨rfl, by omega⟩
    · refine r_iconst dS_faultAsRow_21 ?_
      refine r_goto 26 dS_faultAsRow_22 (by decide) ?_
      refine r_iret rfl dS_faultAsRow_26 ⟨_, rfl, ?_⟩
      exact ⟨rfl, by omega⟩
  · refine r_iconst dS_faultAsRow_9 ?_
    refine r_iret rfl dS_faultAsRow_10 ⟨_, rfl, ?_⟩
    exact ⟨rfl, by omega⟩

set_option maxRecDepth 20000 in
set_option maxHeartbeats 4000000 in
theorem cS_renew (w : zW) (k : Int) (lane : Int) (n : Int) (hk0 : 0 ≤ k) (hk1 : k < 4) (hl0 : 0 ≤ lane) (hl1 : lane ≤ 2) (hn0 : 0 ≤ n) (hn1 : n ≤ 60) : zC mS_renew 0 [zR 2, zI k, zI lane, zI n] w (zrV fun w' => ∀ i' k', w'.1 i' k' = (if i' = 13 ∧ k' = k then 1 else if i' = 14 ∧ k' = k then lane else if i' = 15 ∧ k' = k then n else if i' = 16 + k.toNat ∧ 0 ≤ k' ∧ k' < n then 0 else w.1 i' k')) := by
  refine zC.of (by decide +kernel) (Nat.le_of_ble_eq_true rfl) ?_
  show zM mS_renew (zZm 0 _) 0 [(0, zR 2), (1, zI k), (2, zI lane), (3, zI n)] [] w
  refine r_aload_n 0 0 dS_renew_0 rfl rfl ?_
  refine r_getR (k := 1) (b := 13) fX4 rfl rfl rfl (by decide) kw_78 rfl dS_renew_1 ?_
  refine r_iload_n 1 1 dS_renew_4 rfl rfl ?_
  refine r_iconst dS_renew_5 ?_
  refine r_bastore rfl (by decide) dS_renew_6 (by omega) (by omega) (by omega) rfl (by omega) (by omega) (fun w_6 ew_6 => ?_)
  refine r_aload_n 0 0 dS_renew_7 rfl rfl ?_
  refine r_getR (k := 2) (b := 14) fX4 rfl rfl rfl (by decide) kw_80 rfl dS_renew_8 ?_
  refine r_iload_n 1 1 dS_renew_11 rfl rfl ?_
  refine r_iload_n 2 2 dS_renew_12 rfl rfl ?_
  refine r_iastore rfl (by decide) dS_renew_13 (by omega) (by omega) rfl (by omega) (by omega) (fun w_13 ew_13 => ?_)
  refine r_aload_n 0 0 dS_renew_14 rfl rfl ?_
  refine r_getR (k := 3) (b := 15) fX4 rfl rfl rfl (by decide) kw_82 rfl dS_renew_15 ?_
  refine r_iload_n 1 1 dS_renew_18 rfl rfl ?_
  refine r_iload_n 3 3 dS_renew_19 rfl rfl ?_
  refine r_iastore rfl (by decide) dS_renew_20 (by omega) (by omega) rfl (by omega) (by omega) (fun w_20 ew_20 => ?_)
  refine r_iconst dS_renew_21 ?_
  refine r_istore (ls' := [(4, zI 0), (0, zR 2), (1, zI k), (2, zI lane), (3, zI n)]) 4 dS_renew_22 (by decide) rfl ?_
  have L_24 : ∀ (n_24 : Nat) (i : Int) (wl : zW) (hi0 : 0 ≤ i) (hi1 : i ≤ n) (hw : ∀ i' k', wl.1 i' k' = (if i' = 16 + k.toNat ∧ 0 ≤ k' ∧ k' < i then 0 else w_20.1 i' k')), n - i < (n_24 : Int) → zM mS_renew (zZm 0 (zrV fun w' => ∀ i' k', w'.1 i' k' = (if i' = 13 ∧ k' = k then 1 else if i' = 14 ∧ k' = k then lane else if i' = 15 ∧ k' = k then n else if i' = 16 + k.toNat ∧ 0 ≤ k' ∧ k' < n then 0 else w.1 i' k'))) 24 [(4, zI i), (0, zR 2), (1, zI k), (2, zI lane), (3, zI n)] [] wl := by
    intro n_24
    induction n_24 with
    | zero => intro i wl hi0 hi1 hw hm_24; exfalso; omega
    | succ n_24 ih_24 =>
      intro i wl hi0 hi1 hw hm_24
      refine r_iload 4 0 dS_renew_24 rfl ?_
      refine r_iload_n 3 4 dS_renew_26 rfl rfl ?_
      refine r_ic_ge 46 dS_renew_27 (by decide) ⟨by omega, by omega⟩ ⟨by omega, by omega⟩ (fun c_27 => ?_) (fun c_27 => ?_)
      · refine r_vret rfl dS_renew_46 ⟨rfl, ?_⟩
        intro i' k'
        rw [hw, ew_20, zput_e, ew_13, zput_e, ew_6, zput_e]
        (repeat' split) <;> first | rfl | omega
      · refine r_aload_n 0 1 dS_renew_30 rfl rfl ?_
        refine r_getR (k := 0) (b := 12) fX4 rfl rfl rfl (by decide) kw_76 rfl dS_renew_31 ?_
        refine r_iload_n 1 2 dS_renew_34 rfl rfl ?_
        refine r_aaload (b := (16 + k.toNat)) rfl (by decide) dS_renew_35 (by omega) (by omega) (z_row _ (by omega) (by omega)) ?_
        refine r_iload 4 0 dS_renew_36 rfl ?_
        refine r_iconst dS_renew_38 ?_
        refine r_iastore (z_rowS (j := k) (by omega) (by omega)) (by decide) dS_renew_39 (by omega) (by omega) (z_rowB (j := k) (by omega) (by omega) _) (by omega) (by omega) (fun w_39 ew_39 => ?_)
        refine r_iinc (ls' := [(4, zI (i + 1)), (0, zR 2), (1, zI k), (2, zI lane), (3, zI n)]) 4 0 dS_renew_40 rfl (by decide) rfl ?_
        refine r_goto 24 dS_renew_43 (by decide) ?_
        exact ih_24 (i + 1) w_39 (by omega) (by omega) (fun i' k' => by rw [ew_39, zput_e, hw]; (repeat' split) <;> first | rfl | omega) (by omega)
  exact L_24 100 0 w_20 (by omega) (by omega) (fun i' k' => by rw [if_neg (by omega)]) (by omega)

set_option maxRecDepth 20000 in
set_option maxHeartbeats 4000000 in
theorem cL_add (w : zW) (g : Int) (d : Int) (b : Int) (hg0 : 0 ≤ g) (hg1 : g < 6) (hd0 : 0 ≤ d) (hd1 : d < 4) (hb : b = 0 ∨ b = 1) (hs : w.1 6 3 < 8) : zC mL_add 0 [zR 6, zI g, zI d, zI b] w (zrI fun a w' => w' = zput (zput (zput (zput w 30 (w.1 6 3) g) 31 (w.1 6 3) d) 32 (w.1 6 3) b) 6 3 (w.1 6 3 + 1) ∧ a = w.1 6 3) := by
  refine zC.of (by decide +kernel) (Nat.le_of_ble_eq_true rfl) ?_
  show zM mL_add (zZm 0 _) 0 [(0, zR 6), (1, zI g), (2, zI d), (3, zI b)] [] w
  refine r_aload_n 0 0 dL_add_0 rfl rfl ?_
  refine r_getR (k := 0) (b := 30) fX1 rfl rfl rfl (by decide) kw_173 rfl dL_add_1 ?_
  refine r_aload_n 0 0 dL_add_4 rfl rfl ?_
  refine r_getI (k := 3) fX1 rfl rfl (by decide) kw_176 rfl 3 rfl dL_add_5 rfl (fun y_5 ey_5 ly_5 uy_5 => ?_)
  refine r_iload_n 1 1 dL_add_8 rfl rfl ?_
  refine r_iastore rfl (by decide) dL_add_9 (by omega) (by omega) rfl (by omega) (by omega) (fun w_9 ew_9 => ?_)
  refine r_aload_n 0 0 dL_add_10 rfl rfl ?_
  refine r_getR (k := 1) (b := 31) fX1 rfl rfl rfl (by decide) kw_174 rfl dL_add_11 ?_
  refine r_aload_n 0 0 dL_add_14 rfl rfl ?_
  refine r_getI (k := 3) fX1 rfl rfl (by decide) kw_176 rfl 3 rfl dL_add_15 rfl (fun y_15 ey_15 ly_15 uy_15 => ?_)
  rw [ew_9, zput_i (i := 30) (i' := 6) _ _ _ _ (by decide)] at ey_15
  refine r_iload_n 2 2 dL_add_18 rfl rfl ?_
  refine r_iastore rfl (by decide) dL_add_19 (by omega) (by omega) rfl (by omega) (by omega) (fun w_19 ew_19 => ?_)
  refine r_aload_n 0 0 dL_add_20 rfl rfl ?_
  refine r_getR (k := 2) (b := 32) fX1 rfl rfl rfl (by decide) kw_175 rfl dL_add_21 ?_
  refine r_aload_n 0 0 dL_add_24 rfl rfl ?_
  refine r_getI (k := 3) fX1 rfl rfl (by decide) kw_176 rfl 3 rfl dL_add_25 rfl (fun y_25 ey_25 ly_25 uy_25 => ?_)
  rw [ew_19, zput_i (i := 31) (i' := 6) _ _ _ _ (by decide)] at ey_25
  rw [ew_9, zput_i (i := 30) (i' := 6) _ _ _ _ (by decide)] at ey_25
  refine r_iload_n 3 3 dL_add_28 rfl rfl ?_
  refine r_bastore rfl (by decide) dL_add_29 (by omega) (by omega) (by omega) rfl (by omega) (by omega) (fun w_29 ew_29 => ?_)
  refine r_aload_n 0 0 dL_add_30 rfl rfl ?_
  refine r_dup dL_add_31 rfl ?_
  refine r_getI (k := 3) fX1 rfl rfl (by decide) kw_176 rfl 3 rfl dL_add_32 rfl (fun y_32 ey_32 ly_32 uy_32 => ?_)
  rw [ew_29, zput_i (i := 32) (i' := 6) _ _ _ _ (by decide)] at ey_32
  rw [ew_19, zput_i (i := 31) (i' := 6) _ _ _ _ (by decide)] at ey_32
  rw [ew_9, zput_i (i := 30) (i' := 6) _ _ _ _ (by decide)] at ey_32
  refine r_iconst dL_add_35 ?_
  refine r_iadd dL_add_36 ?_
  refine r_putI (k := 3) fX1 rfl rfl (by decide) kw_176 rfl rfl (by decide +kernel) 3 rfl dL_add_37 rfl (by omega) (by omega) (fun w_37 ew_37 => ?_)
  refine r_aload_n 0 0 dL_add_40 rfl rfl ?_
  refine r_getI (k := 3) fX1 rfl rfl (by decide) kw_176 rfl 3 rfl dL_add_41 rfl (fun y_41 ey_41 ly_41 uy_41 => ?_)
  rw [ew_37, zput_s] at ey_41
  refine r_iconst dL_add_44 ?_
  refine r_isub dL_add_45 ?_
  refine r_iret rfl dL_add_46 ⟨_, rfl, ?_⟩
  exact ⟨by rw [ew_37, ew_29, ew_19, ew_9, ey_5, ey_15, ey_25, ey_32], by omega⟩

set_option maxRecDepth 20000 in
set_option maxHeartbeats 4000000 in
theorem cL_isSo (w : zW) : zC mL_isSo 2 [zR 6, zR 1] w (zrI fun a w' => w = w' ∧ ((zSoC w = true ∧ a = 1) ∨ (zSoC w = false ∧ a = 0))) := by
  refine zC.of (by decide +kernel) (Nat.le_of_ble_eq_true rfl) ?_
  show zM mL_isSo (zZm 2 _) 0 [(0, zR 6), (1, zR 1)] [] w
  refine r_ok (fun hO => ?_)
  refine r_iconst dL_isSo_0 ?_
  refine r_istore_n (ls' := [(2, zI 0), (0, zR 6), (1, zR 1)]) 2 dL_isSo_1 rfl (by decide) rfl ?_
  have L_2 : ∀ (n_2 : Nat) (i : Int) (hi0 : 0 ≤ i) (hi1 : i ≤ w.1 6 3) (hs : zAll (fun r => decide (w.1 1 1 ≤ zPC w (w.1 30 r) (w.1 31 r)) == decide (w.1 32 r = 1)) i.toNat = true), w.1 6 3 - i < (n_2 : Int) → zM mL_isSo (zZm 2 (zrI fun a w' => w = w' ∧ ((zSoC w = true ∧ a = 1) ∨ (zSoC w = false ∧ a = 0)))) 2 [(2, zI i), (0, zR 6), (1, zR 1)] [] w := by
    intro n_2
    induction n_2 with
    | zero => intro i hi0 hi1 hs hm_2; exfalso; omega
    | succ n_2 ih_2 =>
      intro i hi0 hi1 hs hm_2
      refine r_iload_n 2 0 dL_isSo_2 rfl rfl ?_
      refine r_aload_n 0 1 dL_isSo_3 rfl rfl ?_
      refine r_getI (k := 3) fX1 rfl rfl (by decide) kw_176 rfl 3 rfl dL_isSo_4 rfl (fun y_4 ey_4 ly_4 uy_4 => ?_)
      refine r_ic_ge 43 dL_isSo_7 (by decide) ⟨by omega, by omega⟩ ⟨by omega, by omega⟩ (fun c_7 => ?_) (fun c_7 => ?_)
      · refine r_iconst dL_isSo_43 ?_
        refine r_zret rfl (by omega) dL_isSo_44 ⟨_, rfl, ?_⟩
        exact ⟨rfl, Or.inl ⟨by unfold zSoC; rw [show (w.1 6 3).toNat = i.toNat by omega]; exact hs, rfl⟩⟩
      · refine r_aload_n 1 2 dL_isSo_10 rfl rfl ?_
        refine r_aload_n 0 1 dL_isSo_11 rfl rfl ?_
        refine r_getR (k := 0) (b := 30) fX1 rfl rfl rfl (by decide) kw_173 rfl dL_isSo_12 ?_
        refine r_iload_n 2 0 dL_isSo_15 rfl rfl ?_
        refine r_iaload rfl (by decide) dL_isSo_16 (by omega) (by omega) rfl (fun y_16 ey_16 ly_16 uy_16 => ?_)
        refine r_aload_n 0 1 dL_isSo_17 rfl rfl ?_
        refine r_getR (k := 1) (b := 31) fX1 rfl rfl rfl (by decide) kw_174 rfl dL_isSo_18 ?_
        refine r_iload_n 2 0 dL_isSo_21 rfl rfl ?_
        refine r_iaload rfl (by decide) dL_isSo_22 (by omega) (by omega) rfl (fun y_22 ey_22 ly_22 uy_22 => ?_)
        refine r_cVIN (cH_isWon w y_16 y_22 (by omega) (by omega) (by omega) (by omega)) qH_isWon rfl kw_400 rfl rfl dL_isSo_23 (st0 := [zI y_22, zI y_16, zR 1]) (st := []) rfl ⟨Nat.le_of_ble_eq_true rfl, Nat.le_of_ble_eq_true rfl⟩ ⟨Nat.le_of_ble_eq_true rfl, Nat.le_of_ble_eq_true rfl⟩ (Nat.le_of_ble_eq_true rfl) (fun a_23 w_23 h_23 ok_23 => ?_)
        obtain ⟨rfl, h_23⟩ := h_23
        refine r_aload_n 0 1 dL_isSo_26 rfl rfl ?_
        refine r_getR (k := 2) (b := 32) fX1 rfl rfl rfl (by decide) kw_175 rfl dL_isSo_27 ?_
        refine r_iload_n 2 0 dL_isSo_30 rfl rfl ?_
        refine r_baload rfl (by decide) dL_isSo_31 (by omega) (by omega) rfl (fun y_31 ey_31 ly_31 uy_31 => ?_)
        refine r_ic_eq 37 dL_isSo_32 (by decide) ⟨by omega, by omega⟩ ⟨by omega, by omega⟩ (fun c_32 => ?_) (fun c_32 => ?_)
        · refine r_iinc (ls' := [(2, zI (i + 1)), (0, zR 6), (1, zR 1)]) 2 0 dL_isSo_37 rfl (by decide) rfl ?_
          refine r_goto 2 dL_isSo_40 (by decide) ?_
          exact ih_2 (i + 1) (by omega) (by omega) (by rw [zAll_s _ hi0, hs, Bool.true_and, ← ey_16, ← ey_22, ← ey_31]; rcases h_23 with ⟨q1, q2⟩ | ⟨q1, q2⟩ <;> simp only [beq_iff_eq, decide_eq_decide] <;> omega) (by omega)
        · refine r_iconst dL_isSo_35 ?_
          refine r_zret rfl (by omega) dL_isSo_36 ⟨_, rfl, ?_⟩
          exact ⟨rfl, Or.inr ⟨by unfold zSoC; refine zAll_f _ hi0 ?_ _ (by omega); rw [← ey_16, ← ey_22, ← ey_31]; rcases h_23 with ⟨q1, q2⟩ | ⟨q1, q2⟩ <;> simp only [beq_eq_false_iff_ne, ne_eq, decide_eq_decide] <;> omega, rfl⟩⟩
  exact L_2 100 0 (by omega) (by have := (hO 6 3).1; exact this) rfl (by have := (hO 6 3).2; change w.1 6 3 ≤ 8 at this; omega)

set_option maxRecDepth 20000 in
set_option maxHeartbeats 4000000 in
theorem cC_isLane (w : zW) (lane : Int) (hl : zin lane) : zC mC_isLane 0 [zI lane] w (zrI fun a w' => w = w' ∧ ((0 ≤ lane ∧ lane ≤ 2 ∧ a = 1) ∨ ((lane < 0 ∨ 2 < lane) ∧ a = 0))) := by
  refine zC.of (by decide +kernel) (Nat.le_of_ble_eq_true rfl) ?_
  show zM mC_isLane (zZm 0 _) 0 [(0, zI lane)] [] w
  refine r_iload_n 0 0 dC_isLane_0 rfl rfl ?_
  refine r_if_lt 13 dC_isLane_1 (by decide) ⟨by omega, by omega⟩ (fun c_1 => ?_) (fun c_1 => ?_)
  · refine r_iconst dC_isLane_13 ?_
    refine r_zret rfl (by omega) dC_isLane_14 ⟨_, rfl, ?_⟩
    exact ⟨rfl, by omega⟩
  · refine r_iload_n 0 0 dC_isLane_4 rfl rfl ?_
    refine r_iconst dC_isLane_5 ?_
    refine r_ic_ge 13 dC_isLane_6 (by decide) ⟨by omega, by omega⟩ ⟨by omega, by omega⟩ (fun c_6 => ?_) (fun c_6 => ?_)
    · refine r_iconst dC_isLane_13 ?_
      refine r_zret rfl (by omega) dC_isLane_14 ⟨_, rfl, ?_⟩
      exact ⟨rfl, by omega⟩
    · refine r_iconst dC_isLane_9 ?_
      refine r_goto 14 dC_isLane_10 (by decide) ?_
      refine r_zret rfl (by omega) dC_isLane_14 ⟨_, rfl, ?_⟩
      exact ⟨rfl, by omega⟩

set_option maxRecDepth 20000 in
set_option maxHeartbeats 4000000 in
theorem cC_isPairs (w : zW) (n : Int) (hl : zin n) : zC mC_isPairs 0 [zI n] w (zrI fun a w' => w = w' ∧ ((0 ≤ n ∧ n ≤ 20 ∧ a = 1) ∨ ((n < 0 ∨ 20 < n) ∧ a = 0))) := by
  refine zC.of (by decide +kernel) (Nat.le_of_ble_eq_true rfl) ?_
  show zM mC_isPairs (zZm 0 _) 0 [(0, zI n)] [] w
  refine r_iload_n 0 0 dC_isPairs_0 rfl rfl ?_
  refine r_if_lt 14 dC_isPairs_1 (by decide) ⟨by omega, by omega⟩ (fun c_1 => ?_) (fun c_1 => ?_)
  · refine r_iconst dC_isPairs_14 ?_
    refine r_zret rfl (by omega) dC_isPairs_15 ⟨_, rfl, ?_⟩
    exact ⟨rfl, by omega⟩
  · refine r_iload_n 0 0 dC_isPairs_4 rfl rfl ?_
    refine r_bipush dC_isPairs_5 (by decide) ?_
    refine r_ic_gt 14 dC_isPairs_7 (by decide) ⟨by omega, by omega⟩ ⟨by omega, by omega⟩ (fun c_7 => ?_) (fun c_7 => ?_)
    · refine r_iconst dC_isPairs_14 ?_
      refine r_zret rfl (by omega) dC_isPairs_15 ⟨_, rfl, ?_⟩
      exact ⟨rfl, by omega⟩
    · refine r_iconst dC_isPairs_10 ?_
      refine r_goto 15 dC_isPairs_11 (by decide) ?_
      refine r_zret rfl (by omega) dC_isPairs_15 ⟨_, rfl, ?_⟩
      exact ⟨rfl, by omega⟩

set_option maxRecDepth 20000 in
set_option maxHeartbeats 4000000 in
theorem cC_isStars (w : zW) (v : Int) (hl : zin v) : zC mC_isStars 0 [zI v] w (zrI fun a w' => w = w' ∧ ((0 ≤ v ∧ v ≤ 5 ∧ a = 1) ∨ ((v < 0 ∨ 5 < v) ∧ a = 0))) := by
  refine zC.of (by decide +kernel) (Nat.le_of_ble_eq_true rfl) ?_
  show zM mC_isStars (zZm 0 _) 0 [(0, zI v)] [] w
  refine r_iload_n 0 0 dC_isStars_0 rfl rfl ?_
  refine r_if_lt 13 dC_isStars_1 (by decide) ⟨by omega, by omega⟩ (fun c_1 => ?_) (fun c_1 => ?_)
  · refine r_iconst dC_isStars_13 ?_
    refine r_zret rfl (by omega) dC_isStars_14 ⟨_, rfl, ?_⟩
    exact ⟨rfl, by omega⟩
  · refine r_iload_n 0 0 dC_isStars_4 rfl rfl ?_
    refine r_iconst dC_isStars_5 ?_
    refine r_ic_gt 13 dC_isStars_6 (by decide) ⟨by omega, by omega⟩ ⟨by omega, by omega⟩ (fun c_6 => ?_) (fun c_6 => ?_)
    · refine r_iconst dC_isStars_13 ?_
      refine r_zret rfl (by omega) dC_isStars_14 ⟨_, rfl, ?_⟩
      exact ⟨rfl, by omega⟩
    · refine r_iconst dC_isStars_9 ?_
      refine r_goto 14 dC_isStars_10 (by decide) ?_
      refine r_zret rfl (by omega) dC_isStars_14 ⟨_, rfl, ?_⟩
      exact ⟨rfl, by omega⟩

set_option maxRecDepth 20000 in
set_option maxHeartbeats 4000000 in
theorem cC_firstOf (w : zW) (set : Int) : zC mC_firstOf 0 [zI set] w (zrI fun a w' => w = w' ∧ 0 ≤ a ∧ a ≤ 6 ∧ (∀ j : Int, 0 ≤ j → j < a → ziand (zshr set j) 1 = 0) ∧ (a < 6 → ¬ ziand (zshr set a) 1 = 0)) := by
  refine zC.of (by decide +kernel) (Nat.le_of_ble_eq_true rfl) ?_
  show zM mC_firstOf (zZm 0 _) 0 [(0, zI set)] [] w
  refine r_iconst dC_firstOf_0 ?_
  refine r_istore_n (ls' := [(1, zI 0), (0, zI set)]) 1 dC_firstOf_1 rfl (by decide) rfl ?_
  have L_2 : ∀ (n_2 : Nat) (i : Int) (hi0 : 0 ≤ i) (hi1 : i ≤ 6) (hs : ∀ j : Int, 0 ≤ j → j < i → ziand (zshr set j) 1 = 0), 6 - i < (n_2 : Int) → zM mC_firstOf (zZm 0 (zrI fun a w' => w = w' ∧ 0 ≤ a ∧ a ≤ 6 ∧ (∀ j : Int, 0 ≤ j → j < a → ziand (zshr set j) 1 = 0) ∧ (a < 6 → ¬ ziand (zshr set a) 1 = 0))) 2 [(1, zI i), (0, zI set)] [] w := by
    intro n_2
    induction n_2 with
    | zero => intro i hi0 hi1 hs hm_2; exfalso; omega
    | succ n_2 ih_2 =>
      intro i hi0 hi1 hs hm_2
      refine r_iload_n 1 0 dC_firstOf_2 rfl rfl ?_
      refine r_bipush dC_firstOf_3 (by decide) ?_
      refine r_ic_ge 22 dC_firstOf_5 (by decide) ⟨by omega, by omega⟩ ⟨by omega, by omega⟩ (fun c_5 => ?_) (fun c_5 => ?_)
      · refine r_iload_n 1 0 dC_firstOf_22 rfl rfl ?_
        refine r_iret rfl dC_firstOf_23 ⟨_, rfl, ?_⟩
        exact ⟨rfl, by omega, by omega, hs, by first | (intro; exact c_13) | (intro q; omega)⟩
      · refine r_iload_n 0 1 dC_firstOf_8 rfl rfl ?_
        refine r_iload_n 1 0 dC_firstOf_9 rfl rfl ?_
        refine r_ishr dC_firstOf_10 ?_
        refine r_iconst dC_firstOf_11 ?_
        refine r_iand dC_firstOf_12 ?_
        refine r_if_ne 22 dC_firstOf_13 (by decide) (zto_in _) (fun c_13 => ?_) (fun c_13 => ?_)
        · refine r_iload_n 1 0 dC_firstOf_22 rfl rfl ?_
          refine r_iret rfl dC_firstOf_23 ⟨_, rfl, ?_⟩
          exact ⟨rfl, by omega, by omega, hs, by first | (intro; exact c_13) | (intro q; omega)⟩
        · refine r_iinc (ls' := [(1, zI (i + 1)), (0, zI set)]) 1 0 dC_firstOf_16 rfl (by decide) rfl ?_
          refine r_goto 2 dC_firstOf_19 (by decide) ?_
          exact ih_2 (i + 1) (by omega) (by omega) (fun j h1 h2 => by rcases (by omega : j < i ∨ j = i) with q | q; exact hs j h1 q; rw [q]; exact c_13) (by omega)
  exact L_2 100 0 (by omega) (by omega) (fun j h1 h2 => absurd h2 (by omega)) (by omega)

set_option maxRecDepth 20000 in
set_option maxHeartbeats 4000000 in
theorem cC_cut (w : zW) (v : Int) (lane : Int) (hl : zin lane) : zC mC_cut 0 [zI v, zI lane] w (zrI fun a w' => w = w' ∧ a = zCut lane v) := by
  refine zC.of (by decide +kernel) (Nat.le_of_ble_eq_true rfl) ?_
  show zM mC_cut (zZm 0 _) 0 [(0, zI v), (1, zI lane)] [] w
  refine r_iload_n 1 1 dC_cut_0 rfl rfl ?_
  rcases (by omega : (lane = 0) ∨ (lane = 1) ∨ (¬ lane = 0 ∧ ¬ lane = 1)) with c_1 | c_1 | c_1
  · refine r_lookup 28 dC_cut_1 ⟨by omega, by omega⟩ (by decide +kernel) (by rw [c_1] <;> rfl) (by decide) ?_
    refine r_iload_n 0 0 dC_cut_28 rfl rfl ?_
    refine r_i2b dC_cut_29 ?_
    refine r_iret rfl dC_cut_30 ⟨_, rfl, ?_⟩
    exact ⟨rfl, by unfold zCut; (repeat' split) <;> first | rfl | omega⟩
  · refine r_lookup 31 dC_cut_1 ⟨by omega, by omega⟩ (by decide +kernel) (by rw [c_1] <;> rfl) (by decide) ?_
    refine r_iload_n 0 0 dC_cut_31 rfl rfl ?_
    refine r_i2s dC_cut_32 ?_
    refine r_iret rfl dC_cut_33 ⟨_, rfl, ?_⟩
    exact ⟨rfl, by unfold zCut; (repeat' split) <;> first | rfl | omega⟩
  · refine r_lookup 34 dC_cut_1 ⟨by omega, by omega⟩ (by decide +kernel) (off := 33) (by rw [show (#[(0, 27), (1, 30)] : Array (Int × Int)).toList = [(0, 27), (1, 30)] from rfl, Op.lookupswitch.offset_cons, if_neg (by omega), Op.lookupswitch.offset_cons, if_neg (by omega)]; rfl) (by decide) ?_
    refine r_iload_n 0 0 dC_cut_34 rfl rfl ?_
    refine r_iret rfl dC_cut_35 ⟨_, rfl, ?_⟩
    exact ⟨rfl, by unfold zCut; (repeat' split) <;> first | rfl | omega⟩

set_option maxRecDepth 20000 in
set_option maxHeartbeats 4000000 in
theorem cC_commonDivisor (w : zW) (x : Int) (y : Int) (hx0 : 0 ≤ x) (hx1 : x ≤ 6) (hy0 : 0 ≤ y) (hy1 : y ≤ 6) : zC mC_commonDivisor 0 [zI x, zI y] w (zrI fun a w' => w = w' ∧ a = (Nat.gcd x.toNat y.toNat : Nat)) := by
  refine zC.of (by decide +kernel) (Nat.le_of_ble_eq_true rfl) ?_
  show zM mC_commonDivisor (zZm 0 _) 0 [(0, zI x), (1, zI y)] [] w
  refine r_iload_n 0 0 dC_commonDivisor_0 rfl rfl ?_
  refine r_istore_n (ls' := [(2, zI x), (0, zI x), (1, zI y)]) 2 dC_commonDivisor_1 rfl (by decide) rfl ?_
  refine r_iload_n 1 2 dC_commonDivisor_2 rfl rfl ?_
  refine r_istore_n (ls' := [(3, zI y), (2, zI x), (0, zI x), (1, zI y)]) 3 dC_commonDivisor_3 rfl (by decide) rfl ?_
  refine r_iconst dC_commonDivisor_4 ?_
  refine r_istore (ls' := [(4, zI 0), (3, zI y), (2, zI x), (0, zI x), (1, zI y)]) 4 dC_commonDivisor_5 (by decide) rfl ?_
  have L_7 : ∀ (n_7 : Nat) (large : Int) (small : Int) (i : Int) (hi0 : 0 ≤ i) (h1 : 0 ≤ large ∧ large ≤ 6) (h2 : 0 ≤ small) (h3 : small + i ≤ 6) (hg : Nat.gcd large.toNat small.toNat = Nat.gcd x.toNat y.toNat), small < (n_7 : Int) → zM mC_commonDivisor (zZm 0 (zrI fun a w' => w = w' ∧ a = (Nat.gcd x.toNat y.toNat : Nat))) 7 [(4, zI i), (3, zI small), (2, zI large), (0, zI x), (1, zI y)] [] w := by
    intro n_7
    induction n_7 with
    | zero => intro large small i hi0 h1 h2 h3 hg hm_7; exfalso; omega
    | succ n_7 ih_7 =>
      intro large small i hi0 h1 h2 h3 hg hm_7
      refine r_iload 4 0 dC_commonDivisor_7 rfl ?_
      refine r_bipush dC_commonDivisor_9 (by decide) ?_
      refine r_ic_ge 34 dC_commonDivisor_11 (by decide) ⟨by omega, by omega⟩ ⟨by omega, by omega⟩ (fun c_11 => by exfalso; omega) (fun c_11 => ?_)
      refine r_iload_n 3 1 dC_commonDivisor_14 rfl rfl ?_
      refine r_if_eq 34 dC_commonDivisor_15 (by decide) ⟨by omega, by omega⟩ (fun c_15 => ?_) (fun c_15 => ?_)
      · refine r_iload_n 2 2 dC_commonDivisor_34 rfl rfl ?_
        refine r_iret rfl dC_commonDivisor_35 ⟨_, rfl, ?_⟩
        exact ⟨rfl, by rw [← hg, show small.toNat = 0 by omega, Nat.gcd_zero_right]; omega⟩
      · refine r_iload_n 2 2 dC_commonDivisor_18 rfl rfl ?_
        refine r_iload_n 3 1 dC_commonDivisor_19 rfl rfl ?_
        refine r_irem dC_commonDivisor_20 ⟨by omega, by omega⟩ (by omega) ⟨by omega, by omega⟩ (by omega) ?_
        refine r_nmI (fun x_21 ex_21 => ?_)
        refine r_istore (ls' := [(5, zI x_21), (4, zI i), (3, zI small), (2, zI large), (0, zI x), (1, zI y)]) 5 dC_commonDivisor_21 (by decide) rfl ?_
        refine r_iload_n 3 2 dC_commonDivisor_23 rfl rfl ?_
        refine r_istore_n (ls' := [(2, zI small), (5, zI x_21), (4, zI i), (3, zI small), (0, zI x), (1, zI y)]) 2 dC_commonDivisor_24 rfl (by decide) rfl ?_
        refine r_iload 5 1 dC_commonDivisor_25 rfl ?_
        refine r_istore_n (ls' := [(3, zI x_21), (2, zI small), (5, zI x_21), (4, zI i), (0, zI x), (1, zI y)]) 3 dC_commonDivisor_27 rfl (by decide) rfl ?_
        refine r_iinc (ls' := [(4, zI (i + 1)), (3, zI x_21), (2, zI small), (5, zI x_21), (0, zI x), (1, zI y)]) 4 3 dC_commonDivisor_28 rfl (by decide) rfl ?_
        refine r_goto 7 dC_commonDivisor_31 (by decide) ?_
        refine r_sub (ls' := [(4, zI (i + 1)), (3, zI x_21), (2, zI small), (0, zI x), (1, zI y)]) [0, 1, 2, 4, 5] rfl ?_
        exact ih_7 small x_21 (i + 1) (by omega) (by omega) (by rw [ex_21]; exact Int.emod_nonneg _ (by omega)) (by rw [ex_21]; have := Int.emod_lt_of_pos large (by omega : 0 < small); omega) (by rw [ex_21, zgcd_step h1.1 (by omega)]; exact hg) (by rw [ex_21]; have := Int.emod_lt_of_pos large (by omega : 0 < small); omega)
  exact L_7 100 x y 0 (by omega) (by omega) (by omega) (by omega) rfl (by omega)

set_option maxRecDepth 20000 in
set_option maxHeartbeats 4000000 in
theorem cC_leave (w : zW) (n : Int) : zC mC_leave 0 [zR 0, zI n] w (zrV fun w' => w' = zput w 0 6 (zTr (w.1 0 6) n)) := by
  refine zC.of (by decide +kernel) (Nat.le_of_ble_eq_true rfl) ?_
  show zM mC_leave (zZm 0 _) 0 [(0, zR 0), (1, zI n)] [] w
  refine r_aload_n 0 0 dC_leave_0 rfl rfl ?_
  refine r_bipush dC_leave_1 (by decide) ?_
  refine r_aload_n 0 0 dC_leave_3 rfl rfl ?_
  refine r_getI (k := 6) fX6 rfl rfl (by decide) kw_193 rfl 6 rfl dC_leave_4 rfl (fun y_4 ey_4 ly_4 uy_4 => ?_)
  refine r_imul dC_leave_7 ?_
  refine r_iload_n 1 1 dC_leave_8 rfl rfl ?_
  refine r_iadd dC_leave_9 ?_
  refine r_nrm ?_
  refine r_putI (k := 6) fX6 rfl rfl (by decide) kw_193 rfl rfl (by decide +kernel) 6 rfl dC_leave_10 rfl (zto_in _).1 (by have := (zto_in (Int32.ofInt ((31 * y_4) + n))).2; unfold znrm; omega) (fun w_10 ew_10 => ?_)
  refine r_vret rfl dC_leave_13 ⟨rfl, ?_⟩
  rw [ew_10, ey_4]; rfl

set_option maxRecDepth 20000 in
set_option maxHeartbeats 4000000 in
theorem cC_tellAsGuest (w : zW) (g : Int) (hg0 : 0 ≤ g) (hg1 : g < 6) : zC mC_tellAsGuest 1 [zR 0, zI g] w (zrI fun a w' => w' = zput w 0 6 (zTr (w.1 0 6) 1) ∧ a = w.1 10 g) := by
  refine zC.of (by decide +kernel) (Nat.le_of_ble_eq_true rfl) ?_
  show zM mC_tellAsGuest (zZm 1 _) 0 [(0, zR 0), (1, zI g)] [] w
  refine r_aload_n 0 0 dC_tellAsGuest_0 rfl rfl ?_
  refine r_iconst dC_tellAsGuest_1 ?_
  refine r_cVV (cC_leave w 1) qC_leave rfl kw_467 rfl rfl dC_tellAsGuest_2 (st0 := [zI 1, zR 0]) (st := []) rfl ⟨Nat.le_of_ble_eq_true rfl, Nat.le_of_ble_eq_true rfl⟩ ⟨Nat.le_of_ble_eq_true rfl, Nat.le_of_ble_eq_true rfl⟩ (Nat.le_of_ble_eq_true rfl) (fun w_2 h_2 ok_2 => ?_)
  refine r_aload_n 0 0 dC_tellAsGuest_5 rfl rfl ?_
  refine r_getR (k := 0) (b := 1) fX6 rfl rfl rfl (by decide) kw_187 rfl dC_tellAsGuest_6 ?_
  refine r_getRN (k := 7) (b := 10) fX0 rfl rfl rfl (by decide) kw_45 rfl dC_tellAsGuest_9 ?_
  refine r_iload_n 1 1 dC_tellAsGuest_12 rfl rfl ?_
  refine r_iaload rfl (by decide) dC_tellAsGuest_13 (by omega) (by omega) rfl (fun y_13 ey_13 ly_13 uy_13 => ?_)
  refine r_iret rfl dC_tellAsGuest_14 ⟨_, rfl, ?_⟩
  exact ⟨h_2, by rw [ey_13, h_2, zput_i (i := 0) _ _ _ _ (by decide)]⟩

set_option maxRecDepth 20000 in
set_option maxHeartbeats 4000000 in
theorem cC_tellAsCritic (w : zW) (g : Int) (hg0 : 0 ≤ g) (hg1 : g < 6) : zC mC_tellAsCritic 2 [zR 0, zI g] w (zrI fun a w' => w' = zput (zput w 0 6 (zTr (w.1 0 6) 2)) 0 6 (zTr (zTr (w.1 0 6) 2) 1) ∧ a = w.1 10 g + 100) := by
  refine zC.of (by decide +kernel) (Nat.le_of_ble_eq_true rfl) ?_
  show zM mC_tellAsCritic (zZm 2 _) 0 [(0, zR 0), (1, zI g)] [] w
  refine r_aload_n 0 0 dC_tellAsCritic_0 rfl rfl ?_
  refine r_iconst dC_tellAsCritic_1 ?_
  refine r_cVV (cC_leave w 2) qC_leave rfl kw_467 rfl rfl dC_tellAsCritic_2 (st0 := [zI 2, zR 0]) (st := []) rfl ⟨Nat.le_of_ble_eq_true rfl, Nat.le_of_ble_eq_true rfl⟩ ⟨Nat.le_of_ble_eq_true rfl, Nat.le_of_ble_eq_true rfl⟩ (Nat.le_of_ble_eq_true rfl) (fun w_2 h_2 ok_2 => ?_)
  refine r_aload_n 0 0 dC_tellAsCritic_5 rfl rfl ?_
  refine r_iload_n 1 1 dC_tellAsCritic_6 rfl rfl ?_
  refine r_cVI (cC_tellAsGuest w_2 g (by omega) (by omega)) qC_tellAsGuest rfl kw_475 rfl rfl dC_tellAsCritic_7 (st0 := [zI g, zR 0]) (st := []) rfl ⟨Nat.le_of_ble_eq_true rfl, Nat.le_of_ble_eq_true rfl⟩ ⟨Nat.le_of_ble_eq_true rfl, Nat.le_of_ble_eq_true rfl⟩ (Nat.le_of_ble_eq_true rfl) (fun a_7 w_7 h_7 ok_7 => ?_)
  refine r_bipush dC_tellAsCritic_10 (by decide) ?_
  refine r_iadd dC_tellAsCritic_12 ?_
  refine r_iret rfl dC_tellAsCritic_13 ⟨_, rfl, ?_⟩
  exact ⟨by rw [h_7.1, h_2, zput_s], by rw [h_7.2, h_2, zput_i (i := 0) _ _ _ _ (by decide)]⟩

set_option maxRecDepth 20000 in
set_option maxHeartbeats 4000000 in
theorem cC_tellAsPoet (w : zW) (g : Int) (hg0 : 0 ≤ g) (hg1 : g < 6) : zC mC_tellAsPoet 3 [zR 0, zI g] w (zrI fun a w' => (∃ w1 : zW, (∀ i k, i ≠ 0 → w1.1 i k = w.1 i k) ∧ (∀ k, k ≠ 6 → w1.1 0 k = w.1 0 k) ∧ w' = zput w1 0 6 (zTr (zTr (zTr (zTr (w.1 0 6) 3) 2) 1) 1)) ∧ a = 2 * w.1 10 g + 100) := by
  refine zC.of (by decide +kernel) (Nat.le_of_ble_eq_true rfl) ?_
  show zM mC_tellAsPoet (zZm 3 _) 0 [(0, zR 0), (1, zI g)] [] w
  refine r_aload_n 0 0 dC_tellAsPoet_0 rfl rfl ?_
  refine r_iconst dC_tellAsPoet_1 ?_
  refine r_cVV (cC_leave w 3) qC_leave rfl kw_467 rfl rfl dC_tellAsPoet_2 (st0 := [zI 3, zR 0]) (st := []) rfl ⟨Nat.le_of_ble_eq_true rfl, Nat.le_of_ble_eq_true rfl⟩ ⟨Nat.le_of_ble_eq_true rfl, Nat.le_of_ble_eq_true rfl⟩ (Nat.le_of_ble_eq_true rfl) (fun w_2 h_2 ok_2 => ?_)
  refine r_aload_n 0 0 dC_tellAsPoet_5 rfl rfl ?_
  refine r_iload_n 1 1 dC_tellAsPoet_6 rfl rfl ?_
  refine r_cVI (cC_tellAsCritic w_2 g (by omega) (by omega)) qC_tellAsCritic rfl kw_471 rfl rfl dC_tellAsPoet_7 (st0 := [zI g, zR 0]) (st := []) rfl ⟨Nat.le_of_ble_eq_true rfl, Nat.le_of_ble_eq_true rfl⟩ ⟨Nat.le_of_ble_eq_true rfl, Nat.le_of_ble_eq_true rfl⟩ (Nat.le_of_ble_eq_true rfl) (fun a_7 w_7 h_7 ok_7 => ?_)
  refine r_istore_n (ls' := [(2, zI a_7), (0, zR 0), (1, zI g)]) 2 dC_tellAsPoet_10 rfl (by decide) rfl ?_
  refine r_iload_n 2 0 dC_tellAsPoet_11 rfl rfl ?_
  refine r_aload_n 0 1 dC_tellAsPoet_12 rfl rfl ?_
  refine r_iload_n 1 2 dC_tellAsPoet_13 rfl rfl ?_
  refine r_cVI (cC_tellAsGuest w_7 g (by omega) (by omega)) qC_tellAsGuest rfl kw_475 rfl rfl dC_tellAsPoet_14 (st0 := [zI g, zR 0, zI a_7]) (st := [zI a_7]) rfl ⟨Nat.le_of_ble_eq_true rfl, Nat.le_of_ble_eq_true rfl⟩ ⟨Nat.le_of_ble_eq_true rfl, Nat.le_of_ble_eq_true rfl⟩ (Nat.le_of_ble_eq_true rfl) (fun a_14 w_14 h_14 ok_14 => ?_)
  refine r_iadd dC_tellAsPoet_17 ?_
  refine r_iret rfl dC_tellAsPoet_18 ⟨_, rfl, ?_⟩
  exact ⟨⟨w_7, fun i k q => by rw [h_7.1, h_2, zput_i _ _ _ _ q, zput_i _ _ _ _ q, zput_i _ _ _ _ q], fun k q => by rw [h_7.1, h_2, zput_k _ _ q, zput_k _ _ q, zput_k _ _ q], by rw [h_14.1, h_7.1, h_2, zput_s, zput_s]⟩, by have e1 : w_2.1 10 g = w.1 10 g := (by rw [h_2, zput_i (i := 0) _ _ _ _ (by decide)]); have e2 : w_7.1 10 g = w.1 10 g := (by rw [h_7.1, zput_i (i := 0) _ _ _ _ (by decide), zput_i (i := 0) _ _ _ _ (by decide), e1]); omega⟩

set_option maxRecDepth 20000 in
set_option maxHeartbeats 4000000 in
theorem cC_faulty (w : zW) (f : Int) (hf0 : 0 ≤ f) (hf1 : f ≤ 4) : zC mC_faulty 0 [zR 0, zI f] w (zrI fun a w' => w' = zput w 0 7 f ∧ a = -10 - f) := by
  refine zC.of (by decide +kernel) (Nat.le_of_ble_eq_true rfl) ?_
  show zM mC_faulty (zZm 0 _) 0 [(0, zR 0), (1, zI f)] [] w
  refine r_aload_n 0 0 dC_faulty_0 rfl rfl ?_
  refine r_iload_n 1 1 dC_faulty_1 rfl rfl ?_
  refine r_putI (k := 7) fX6 rfl rfl (by decide) kw_194 rfl rfl (by decide +kernel) 7 rfl dC_faulty_2 rfl (by omega) (by omega) (fun w_2 ew_2 => ?_)
  refine r_bipush dC_faulty_5 (by decide) ?_
  refine r_iload_n 1 1 dC_faulty_7 rfl rfl ?_
  refine r_isub dC_faulty_8 ?_
  refine r_iret rfl dC_faulty_9 ⟨_, rfl, ?_⟩
  exact ⟨ew_2, rfl⟩
