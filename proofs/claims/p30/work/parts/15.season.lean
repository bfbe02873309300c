set_option maxRecDepth 20000 in
set_option maxHeartbeats 4000000 in
theorem cO_pay (w : zW) (x : Int) (g : Int) (d : Int) (b : Int) (hg0 : 0 ≤ g) (hg1 : g < 6) (hd0 : 0 ≤ d) (hd1 : d < 4) (hx0 : 0 ≤ x) (hx1 : x ≤ 19) (hb : b = 0 ∨ b = 1) (hc : w.1 8 d ≤ w.1 4 3) (hpl : w.1 4 4 ≤ 900) : zC mO_pay 2 [zR 4, zR 1, zI x, zI g, zI d, zI b] w (zrV fun w' => (∀ i k, i ≠ 4 → w'.1 i k = w.1 i k) ∧ w'.1 4 0 = (if b = 1 ∧ 0 < w.1 4 0 ∧ w.1 1 1 ≤ zPC w g d then w.1 4 0 - 1 else w.1 4 0) ∧ w'.1 4 1 = w.1 4 1 ∧ w'.1 4 2 = (if (b = 1 ∧ 0 < w.1 4 0 ∧ w.1 1 1 ≤ zPC w g d) ∧ w.1 4 0 - 1 = 0 then x else w.1 4 2) ∧ w'.1 4 3 = w.1 4 3 - w.1 8 d ∧ w'.1 4 4 = w.1 4 4 + zPC w g d) := by
  refine zC.of (by decide +kernel) (Nat.le_of_ble_eq_true rfl) ?_
  show zM mO_pay (zZm 2 _) 0 [(0, zR 4), (1, zR 1), (2, zI x), (3, zI g), (4, zI d), (5, zI b)] [] w
  refine r_aload_n 0 0 dO_pay_0 rfl rfl ?_
  refine r_dup dO_pay_1 rfl ?_
  refine r_getI (k := 3) fX2 rfl rfl (by decide) kw_133 rfl 3 rfl dO_pay_2 rfl (fun y_2 ey_2 ly_2 uy_2 => ?_)
  refine r_aload_n 1 1 dO_pay_5 rfl rfl ?_
  refine r_getRN (k := 5) (b := 8) fX0 rfl rfl rfl (by decide) kw_39 rfl dO_pay_6 ?_
  refine r_iload 4 4 dO_pay_9 rfl ?_
  refine r_iaload rfl (by decide) dO_pay_11 (by omega) (by omega) rfl (fun y_11 ey_11 ly_11 uy_11 => ?_)
  refine r_isub dO_pay_12 ?_
  refine r_putI (k := 3) fX2 rfl rfl (by decide) kw_133 rfl rfl (by decide +kernel) 3 rfl dO_pay_13 rfl (by omega) (by omega) (fun w_13 ew_13 => ?_)
  refine r_aload_n 0 0 dO_pay_16 rfl rfl ?_
  refine r_dup dO_pay_17 rfl ?_
  refine r_getI (k := 4) fX2 rfl rfl (by decide) kw_135 rfl 4 rfl dO_pay_18 rfl (fun y_18 ey_18 ly_18 uy_18 => ?_)
  rw [ew_13, zput_k (k := 3) (k' := 4) _ _ (by decide)] at ey_18
  refine r_aload_n 1 1 dO_pay_21 rfl rfl ?_
  refine r_iload_n 3 3 dO_pay_22 rfl rfl ?_
  refine r_iload 4 4 dO_pay_23 rfl ?_
  refine r_cVIN (cH_pleasure w_13 g d (by omega) (by omega) (by omega) (by omega)) qH_pleasure rfl kw_329 rfl rfl dO_pay_25 (st0 := [zI d, zI g, zR 1, zI y_18, zR 4]) (st := [zI y_18, zR 4]) rfl ⟨Nat.le_of_ble_eq_true rfl, Nat.le_of_ble_eq_true rfl⟩ ⟨Nat.le_of_ble_eq_true rfl, Nat.le_of_ble_eq_true rfl⟩ (Nat.le_of_ble_eq_true rfl) (fun a_25 w_25 h_25 ok_25 => ?_)
  obtain ⟨rfl, h_25⟩ := h_25
  have z_25_0 : zPC w_13 g d = zPC w g d := by rw [ew_13, zPC_put (i := 4) (by decide)]
  refine r_iadd dO_pay_28 ?_
  refine r_putI (k := 4) fX2 rfl rfl (by decide) kw_135 rfl rfl (by decide +kernel) 4 rfl dO_pay_29 rfl (by omega) (by omega) (fun w_29 ew_29 => ?_)
  refine r_iload 5 5 dO_pay_32 rfl ?_
  refine r_if_eq 76 dO_pay_34 (by decide) ⟨by omega, by omega⟩ (fun c_34 => ?_) (fun c_34 => ?_)
  · refine r_vret rfl dO_pay_76 ⟨rfl, ?_⟩
    exact ⟨fun i k q => by rw [ew_29, zput_i _ _ _ _ q, ew_13, zput_i _ _ _ _ q], by rw [if_neg (show ¬ (b = 1 ∧ 0 < w.1 4 0 ∧ w.1 1 1 ≤ zPC w g d) by omega), ew_29, ew_13]; rfl, by rw [ew_29, ew_13]; rfl, by rw [if_neg (show ¬ ((b = 1 ∧ 0 < w.1 4 0 ∧ w.1 1 1 ≤ zPC w g d) ∧ w.1 4 0 - 1 = 0) by omega), ew_29, ew_13]; rfl, by rw [ew_29, ew_13, ← ey_2, ← ey_11]; rfl, by rw [ew_29, zput_s]; omega⟩
  · refine r_aload_n 0 0 dO_pay_37 rfl rfl ?_
    refine r_getI (k := 0) fX2 rfl rfl (by decide) kw_127 rfl 0 rfl dO_pay_38 rfl (fun y_38 ey_38 ly_38 uy_38 => ?_)
    rw [ew_29, zput_k (k := 4) (k' := 0) _ _ (by decide)] at ey_38
    rw [ew_13, zput_k (k := 3) (k' := 0) _ _ (by decide)] at ey_38
    refine r_if_le 76 dO_pay_41 (by decide) ⟨by omega, by omega⟩ (fun c_41 => ?_) (fun c_41 => ?_)
    · refine r_vret rfl dO_pay_76 ⟨rfl, ?_⟩
      exact ⟨fun i k q => by rw [ew_29, zput_i _ _ _ _ q, ew_13, zput_i _ _ _ _ q], by rw [if_neg (show ¬ (b = 1 ∧ 0 < w.1 4 0 ∧ w.1 1 1 ≤ zPC w g d) by omega), ew_29, ew_13]; rfl, by rw [ew_29, ew_13]; rfl, by rw [if_neg (show ¬ ((b = 1 ∧ 0 < w.1 4 0 ∧ w.1 1 1 ≤ zPC w g d) ∧ w.1 4 0 - 1 = 0) by omega), ew_29, ew_13]; rfl, by rw [ew_29, ew_13, ← ey_2, ← ey_11]; rfl, by rw [ew_29, zput_s]; omega⟩
    · refine r_aload_n 1 1 dO_pay_44 rfl rfl ?_
      refine r_iload_n 3 3 dO_pay_45 rfl rfl ?_
      refine r_iload 4 4 dO_pay_46 rfl ?_
      refine r_cVIN (cH_isWon w_29 g d (by omega) (by omega) (by omega) (by omega)) qH_isWon rfl kw_330 rfl rfl dO_pay_48 (st0 := [zI d, zI g, zR 1]) (st := []) rfl ⟨Nat.le_of_ble_eq_true rfl, Nat.le_of_ble_eq_true rfl⟩ ⟨Nat.le_of_ble_eq_true rfl, Nat.le_of_ble_eq_true rfl⟩ (Nat.le_of_ble_eq_true rfl) (fun a_48 w_48 h_48 ok_48 => ?_)
      obtain ⟨rfl, h_48⟩ := h_48
      have z_48_0 : w_29.1 1 1 = w.1 1 1 := by rw [ew_29, zput_i (i := 4) (i' := 1) _ _ _ _ (by decide), ew_13, zput_i (i := 4) (i' := 1) _ _ _ _ (by decide)]
      have z_48_1 : zPC w_29 g d = zPC w g d := by rw [ew_29, zPC_put (i := 4) (by decide), ew_13, zPC_put (i := 4) (by decide)]
      refine r_if_eq 76 dO_pay_51 (by decide) ⟨by omega, by omega⟩ (fun c_51 => ?_) (fun c_51 => ?_)
      · refine r_vret rfl dO_pay_76 ⟨rfl, ?_⟩
        exact ⟨fun i k q => by rw [ew_29, zput_i _ _ _ _ q, ew_13, zput_i _ _ _ _ q], by rw [if_neg (show ¬ (b = 1 ∧ 0 < w.1 4 0 ∧ w.1 1 1 ≤ zPC w g d) by omega), ew_29, ew_13]; rfl, by rw [ew_29, ew_13]; rfl, by rw [if_neg (show ¬ ((b = 1 ∧ 0 < w.1 4 0 ∧ w.1 1 1 ≤ zPC w g d) ∧ w.1 4 0 - 1 = 0) by omega), ew_29, ew_13]; rfl, by rw [ew_29, ew_13, ← ey_2, ← ey_11]; rfl, by rw [ew_29, zput_s]; omega⟩
      · refine r_aload_n 0 0 dO_pay_54 rfl rfl ?_
        refine r_dup dO_pay_55 rfl ?_
        refine r_getI (k := 0) fX2 rfl rfl (by decide) kw_127 rfl 0 rfl dO_pay_56 rfl (fun y_56 ey_56 ly_56 uy_56 => ?_)
        rw [ew_29, zput_k (k := 4) (k' := 0) _ _ (by decide)] at ey_56
        rw [ew_13, zput_k (k := 3) (k' := 0) _ _ (by decide)] at ey_56
        refine r_iconst dO_pay_59 ?_
        refine r_isub dO_pay_60 ?_
        refine r_putI (k := 0) fX2 rfl rfl (by decide) kw_127 rfl rfl (by decide +kernel) 0 rfl dO_pay_61 rfl (by omega) (by omega) (fun w_61 ew_61 => ?_)
        refine r_aload_n 0 0 dO_pay_64 rfl rfl ?_
        refine r_getI (k := 0) fX2 rfl rfl (by decide) kw_127 rfl 0 rfl dO_pay_65 rfl (fun y_65 ey_65 ly_65 uy_65 => ?_)
        rw [ew_61, zput_s] at ey_65
        refine r_if_ne 76 dO_pay_68 (by decide) ⟨by omega, by omega⟩ (fun c_68 => ?_) (fun c_68 => ?_)
        · refine r_vret rfl dO_pay_76 ⟨rfl, ?_⟩
          exact ⟨fun i k q => by rw [ew_61, zput_i _ _ _ _ q, ew_29, zput_i _ _ _ _ q, ew_13, zput_i _ _ _ _ q], by rw [if_pos (show b = 1 ∧ 0 < w.1 4 0 ∧ w.1 1 1 ≤ zPC w g d by omega), ew_61, zput_s]; omega, by rw [ew_61, ew_29, ew_13]; rfl, by rw [if_neg (show ¬ ((b = 1 ∧ 0 < w.1 4 0 ∧ w.1 1 1 ≤ zPC w g d) ∧ w.1 4 0 - 1 = 0) by omega), ew_61, ew_29, ew_13]; rfl, by rw [ew_61, ew_29, ew_13, ← ey_2, ← ey_11]; rfl, by rw [ew_61, ew_29, zput_k _ _ (by decide), zput_s]; omega⟩
        · refine r_aload_n 0 0 dO_pay_71 rfl rfl ?_
          refine r_iload_n 2 2 dO_pay_72 rfl rfl ?_
          refine r_putI (k := 2) fX2 rfl rfl (by decide) kw_131 rfl rfl (by decide +kernel) 2 rfl dO_pay_73 rfl (by omega) (by omega) (fun w_73 ew_73 => ?_)
          refine r_vret rfl dO_pay_76 ⟨rfl, ?_⟩
          exact ⟨fun i k q => by rw [ew_73, zput_i _ _ _ _ q, ew_61, zput_i _ _ _ _ q, ew_29, zput_i _ _ _ _ q, ew_13, zput_i _ _ _ _ q], by rw [if_pos (show b = 1 ∧ 0 < w.1 4 0 ∧ w.1 1 1 ≤ zPC w g d by omega), ew_73, zput_k _ _ (by decide), ew_61, zput_s]; omega, by rw [ew_73, ew_61, ew_29, ew_13]; rfl, by rw [if_pos (show (b = 1 ∧ 0 < w.1 4 0 ∧ w.1 1 1 ≤ zPC w g d) ∧ w.1 4 0 - 1 = 0 by omega), ew_73, zput_s], by rw [ew_73, ew_61, ew_29, ew_13, ← ey_2, ← ey_11]; rfl, by rw [ew_73, zput_k _ _ (by decide), ew_61, zput_k _ _ (by decide), ew_29, zput_s]; omega⟩

set_option maxRecDepth 20000 in
set_option maxHeartbeats 4000000 in
theorem cO_live (w : zW) (r : Nat) (f : Int) (n : Int) (insp : Int) (hS : zS r = .inl (0, 60)) (hB : ∀ k, zB r k = (-2147483648, 2147483647)) (hr : 16 ≤ r) (hf0 : 0 ≤ f) (hn0 : 0 ≤ n) (hn1 : n ≤ 20) (hf1 : f + 2 * n ≤ 60) (zi : zin insp) (hv : ∀ p : Int, 0 ≤ p → p < n → 0 ≤ w.1 r (f + 2 * p) ∧ w.1 r (f + 2 * p) < 6 ∧ 0 ≤ w.1 r (f + 2 * p + 1) ∧ w.1 r (f + 2 * p + 1) < 4) : zC mO_live 3 [zR 4, zR 1, zR r, zI f, zI n, zI insp] w (zrV fun w' => (∀ i k, i ≠ 4 → w'.1 i k = w.1 i k) ∧ zSeaC w r f insp n.toNat = (w'.1 4 0, w'.1 4 1, w'.1 4 2, w'.1 4 3, w'.1 4 4)) := by
  refine zC.of (by decide +kernel) (Nat.le_of_ble_eq_true rfl) ?_
  show zM mO_live (zZm 3 _) 0 [(0, zR 4), (1, zR 1), (2, zR r), (3, zI f), (4, zI n), (5, zI insp)] [] w
  refine r_ok (fun hO => ?_)
  refine r_aload_n 0 0 dO_live_0 rfl rfl ?_
  refine r_aload_n 1 1 dO_live_1 rfl rfl ?_
  refine r_getIN (k := 0) fX0 rfl rfl (by decide) kw_25 rfl 0 rfl dO_live_2 rfl (fun y_2 ey_2 ly_2 uy_2 => ?_)
  refine r_putI (k := 0) fX2 rfl rfl (by decide) kw_127 rfl rfl (by decide +kernel) 0 rfl dO_live_5 rfl (by omega) (by omega) (fun w_5 ew_5 => ?_)
  refine r_aload_n 0 0 dO_live_8 rfl rfl ?_
  refine r_bipush dO_live_9 (by decide) ?_
  refine r_putI (k := 1) fX2 rfl rfl (by decide) kw_129 rfl rfl (by decide +kernel) 1 rfl dO_live_11 rfl (by omega) (by omega) (fun w_11 ew_11 => ?_)
  refine r_aload_n 0 0 dO_live_14 rfl rfl ?_
  refine r_bipush dO_live_15 (by decide) ?_
  refine r_putI (k := 2) fX2 rfl rfl (by decide) kw_131 rfl rfl (by decide +kernel) 2 rfl dO_live_17 rfl (by omega) (by omega) (fun w_17 ew_17 => ?_)
  refine r_aload_n 0 0 dO_live_20 rfl rfl ?_
  refine r_bipush dO_live_21 (by decide) ?_
  refine r_putI (k := 3) fX2 rfl rfl (by decide) kw_133 rfl rfl (by decide +kernel) 3 rfl dO_live_23 rfl (by omega) (by omega) (fun w_23 ew_23 => ?_)
  refine r_aload_n 0 0 dO_live_26 rfl rfl ?_
  refine r_iconst dO_live_27 ?_
  refine r_putI (k := 4) fX2 rfl rfl (by decide) kw_135 rfl rfl (by decide +kernel) 4 rfl dO_live_28 rfl (by omega) (by omega) (fun w_28 ew_28 => ?_)
  refine r_iconst dO_live_31 ?_
  refine r_istore (ls' := [(6, zI 0), (0, zR 4), (1, zR 1), (2, zR r), (3, zI f), (4, zI n), (5, zI insp)]) 6 dO_live_32 (by decide) rfl ?_
  have L_34 : ∀ (n_34 : Nat) (x : Int) (wl : zW) (hx0 : 0 ≤ x) (hx1 : x ≤ n) (hw : ∀ i k, i ≠ 4 → wl.1 i k = w.1 i k) (hpl : wl.1 4 4 ≤ 21 * x) (hst : zSeaC w r f insp x.toNat = (wl.1 4 0, wl.1 4 1, wl.1 4 2, wl.1 4 3, wl.1 4 4)), n - x < (n_34 : Int) → zM mO_live (zZm 3 (zrV fun w' => (∀ i k, i ≠ 4 → w'.1 i k = w.1 i k) ∧ zSeaC w r f insp n.toNat = (w'.1 4 0, w'.1 4 1, w'.1 4 2, w'.1 4 3, w'.1 4 4))) 34 [(6, zI x), (0, zR 4), (1, zR 1), (2, zR r), (3, zI f), (4, zI n), (5, zI insp)] [] wl := by
    intro n_34
    induction n_34 with
    | zero => intro x wl hx0 hx1 hw hpl hst hm_34; exfalso; omega
    | succ n_34 ih_34 =>
      intro x wl hx0 hx1 hw hpl hst hm_34
      have hv9 : x < n → _ := fun q => hv x hx0 q
      refine r_iload 6 0 dO_live_34 rfl ?_
      refine r_iload 4 5 dO_live_36 rfl ?_
      refine r_ic_ge 124 dO_live_38 (by decide) ⟨by omega, by omega⟩ ⟨by omega, by omega⟩ (fun c_38 => ?_) (fun c_38 => ?_)
      · refine r_vret rfl dO_live_124 ⟨rfl, ?_⟩
        exact ⟨hw, by first | (rw [show n.toNat = x.toNat by omega]; exact hst) | (have hs9 := (zSea_stop (st0 := w.1 1 0) (strict := w.1 1 1) (cost := fun d => w.1 8 d) (pl := fun g d => zPC w g d) (row := fun j => w.1 r (f + j)) (insp := insp) (m := x.toNat) (by show ¬ (zSeaC w r f insp x.toNat).2.1 = -9; rw [hst]; show ¬ wl.1 4 1 = -9; omega) n.toNat (by omega)); exact hs9.trans hst)⟩
      · refine r_aload_n 0 1 dO_live_41 rfl rfl ?_
        refine r_getI (k := 1) fX2 rfl rfl (by decide) kw_129 rfl 1 rfl dO_live_42 rfl (fun y_42 ey_42 ly_42 uy_42 => ?_)
        refine r_bipush dO_live_45 (by decide) ?_
        refine r_ic_ne 124 dO_live_47 (by decide) ⟨by omega, by omega⟩ ⟨by omega, by omega⟩ (fun c_47 => ?_) (fun c_47 => ?_)
        · refine r_vret rfl dO_live_124 ⟨rfl, ?_⟩
          exact ⟨hw, by first | (rw [show n.toNat = x.toNat by omega]; exact hst) | (have hs9 := (zSea_stop (st0 := w.1 1 0) (strict := w.1 1 1) (cost := fun d => w.1 8 d) (pl := fun g d => zPC w g d) (row := fun j => w.1 r (f + j)) (insp := insp) (m := x.toNat) (by show ¬ (zSeaC w r f insp x.toNat).2.1 = -9; rw [hst]; show ¬ wl.1 4 1 = -9; omega) n.toNat (by omega)); exact hs9.trans hst)⟩
        · refine r_aload_n 2 3 dO_live_50 rfl rfl ?_
          refine r_iload_n 3 4 dO_live_51 rfl rfl ?_
          refine r_iconst dO_live_52 ?_
          refine r_iload 6 0 dO_live_53 rfl ?_
          refine r_imul dO_live_55 ?_
          refine r_iadd dO_live_56 ?_
          refine r_iaload hS (by decide) dO_live_57 (by omega) (by omega) (hB _) (fun y_57 ey_57 ly_57 uy_57 => ?_)
          refine r_istore (ls' := [(7, zI y_57), (6, zI x), (0, zR 4), (1, zR 1), (2, zR r), (3, zI f), (4, zI n), (5, zI insp)]) 7 dO_live_58 (by decide) rfl ?_
          refine r_aload_n 2 4 dO_live_60 rfl rfl ?_
          refine r_iload_n 3 5 dO_live_61 rfl rfl ?_
          refine r_iconst dO_live_62 ?_
          refine r_iload 6 1 dO_live_63 rfl ?_
          refine r_imul dO_live_65 ?_
          refine r_iadd dO_live_66 ?_
          refine r_iconst dO_live_67 ?_
          refine r_iadd dO_live_68 ?_
          refine r_iaload hS (by decide) dO_live_69 (by omega) (by omega) (hB _) (fun y_69 ey_69 ly_69 uy_69 => ?_)
          refine r_istore (ls' := [(8, zI y_69), (7, zI y_57), (6, zI x), (0, zR 4), (1, zR 1), (2, zR r), (3, zI f), (4, zI n), (5, zI insp)]) 8 dO_live_70 (by decide) rfl ?_
          have e57 : y_57 = w.1 r (f + 2 * x) := (by rw [ey_57, hw _ _ (by omega)])
          have e69 : y_69 = w.1 r (f + 2 * x + 1) := (by rw [ey_69, hw _ _ (by omega)])
          obtain ⟨v0, v1, v2, v3⟩ := hv x hx0 (by omega)
          rw [← e57] at v0 v1
          rw [← e69] at v2 v3
          have p9 : zPC wl y_57 y_69 = zPC w y_57 y_69 := zPC_eq (fun i k h1 h2 => hw i k (by omega)) _ _
          have pb := zPC_in ‹zOk w› y_57 y_69
          have e11 : wl.1 1 1 = w.1 1 1 := hw 1 1 (by decide)
          have e8 : wl.1 8 y_69 = w.1 8 y_69 := hw 8 _ (by decide)
          refine r_aload_n 1 4 dO_live_72 rfl rfl ?_
          refine r_getRN (k := 5) (b := 8) fX0 rfl rfl rfl (by decide) kw_39 rfl dO_live_73 ?_
          refine r_iload 8 0 dO_live_76 rfl ?_
          refine r_iaload rfl (by decide) dO_live_78 (by omega) (by omega) rfl (fun y_78 ey_78 ly_78 uy_78 => ?_)
          refine r_aload_n 0 3 dO_live_79 rfl rfl ?_
          refine r_getI (k := 3) fX2 rfl rfl (by decide) kw_133 rfl 3 rfl dO_live_80 rfl (fun y_80 ey_80 ly_80 uy_80 => ?_)
          refine r_ic_le 95 dO_live_83 (by decide) ⟨by omega, by omega⟩ ⟨by omega, by omega⟩ (fun c_83 => ?_) (fun c_83 => ?_)
          · refine r_aload_n 0 3 dO_live_95 rfl rfl ?_
            refine r_aload_n 1 4 dO_live_96 rfl rfl ?_
            refine r_iload 6 2 dO_live_97 rfl ?_
            refine r_iload 7 1 dO_live_99 rfl ?_
            refine r_iload 8 0 dO_live_101 rfl ?_
            refine r_iload 7 1 dO_live_103 rfl ?_
            refine r_iload 5 8 dO_live_105 rfl ?_
            have J_115 : ∀ (b : Int) (hb : (y_57 = insp ∧ b = 1) ∨ (¬ y_57 = insp ∧ b = 0)), zM mO_live (zZm 3 (zrV fun w' => (∀ i k, i ≠ 4 → w'.1 i k = w.1 i k) ∧ zSeaC w r f insp n.toNat = (w'.1 4 0, w'.1 4 1, w'.1 4 2, w'.1 4 3, w'.1 4 4))) 115 [(8, zI y_69), (7, zI y_57), (6, zI x), (0, zR 4), (1, zR 1), (2, zR r), (3, zI f), (4, zI n), (5, zI insp)] [zI b, zI y_69, zI y_57, zI x, zR 1, zR 4] wl := by
              intro b hb
              refine r_cVV (cO_pay wl x y_57 y_69 b (by omega) (by omega) (by omega) (by omega) (by omega) (by omega) (by omega) (by omega) (by omega)) qO_pay rfl kw_325 rfl rfl dO_live_115 (st0 := [zI b, zI y_69, zI y_57, zI x, zR 1, zR 4]) (st := []) rfl ⟨Nat.le_of_ble_eq_true rfl, Nat.le_of_ble_eq_true rfl⟩ ⟨Nat.le_of_ble_eq_true rfl, Nat.le_of_ble_eq_true rfl⟩ (Nat.le_of_ble_eq_true rfl) (fun w_115 h_115 ok_115 => ?_)
              refine r_iinc (ls' := [(6, zI (x + 1)), (8, zI y_69), (7, zI y_57), (0, zR 4), (1, zR 1), (2, zR r), (3, zI f), (4, zI n), (5, zI insp)]) 6 2 dO_live_118 rfl (by decide) rfl ?_
              refine r_goto 34 dO_live_121 (by decide) ?_
              refine r_sub (ls' := [(6, zI (x + 1)), (0, zR 4), (1, zR 1), (2, zR r), (3, zI f), (4, zI n), (5, zI insp)]) [0, 3, 4, 5, 6, 7, 8] rfl ?_
              exact ih_34 (x + 1) w_115 (by omega) (by omega) (fun i k q => by first | (rw [ew_89, zput_i _ _ _ _ q]; exact hw i k q) | (rw [h_115.1 i k q]; exact hw i k q)) (by first | (rw [ew_89, zput_k _ _ (by decide)]; omega) | (rw [h_115.2.2.2.2.2]; omega)) (by unfold zSeaC; rw [zSea_s hx0]; show zStep _ _ _ _ _ (w.1 r (f + 2 * x)) (w.1 r (f + (2 * x + 1))) (zSeaC w r f insp x.toNat) = _; rw [hst, ← Int.add_assoc, ← e57, ← e69, h_115.2.1, h_115.2.2.1, h_115.2.2.2.1, h_115.2.2.2.2.1, h_115.2.2.2.2.2, p9, e11, e8]; unfold zStep; show (if wl.1 4 1 = -9 then (if wl.1 4 3 < w.1 8 y_69 then _ else if y_57 = insp ∧ w.1 1 1 ≤ zPC w y_57 y_69 ∧ 0 < wl.1 4 0 then _ else _) else _) = _; rw [if_pos (by omega), if_neg (by omega)]; by_cases z : y_57 = insp ∧ w.1 1 1 ≤ zPC w y_57 y_69 ∧ 0 < wl.1 4 0; (rw [if_pos z, if_pos (show b = 1 ∧ 0 < wl.1 4 0 ∧ w.1 1 1 ≤ zPC w y_57 y_69 by omega), show wl.1 4 1 = -9 by omega]; by_cases z2 : wl.1 4 0 - 1 = 0; (rw [if_pos z2, if_pos ⟨by omega, z2⟩]); (rw [if_neg z2, if_neg (fun q => z2 q.2)])); (rw [if_neg z, if_neg (show ¬ (b = 1 ∧ 0 < wl.1 4 0 ∧ w.1 1 1 ≤ zPC w y_57 y_69) by omega), if_neg (show ¬ ((b = 1 ∧ 0 < wl.1 4 0 ∧ w.1 1 1 ≤ zPC w y_57 y_69) ∧ wl.1 4 0 - 1 = 0) by omega), show wl.1 4 1 = -9 by omega])) (by omega)
            refine r_ic_ne 114 dO_live_107 (by decide) ⟨by omega, by omega⟩ ⟨by omega, by omega⟩ (fun c_107 => ?_) (fun c_107 => ?_)
            · refine r_iconst dO_live_114 ?_
              exact J_115 0 (by omega)
            · refine r_iconst dO_live_110 ?_
              refine r_goto 115 dO_live_111 (by decide) ?_
              exact J_115 1 (by omega)
          · refine r_aload_n 0 3 dO_live_86 rfl rfl ?_
            refine r_iload 6 2 dO_live_87 rfl ?_
            refine r_putI (k := 1) fX2 rfl rfl (by decide) kw_129 rfl rfl (by decide +kernel) 1 rfl dO_live_89 rfl (by omega) (by omega) (fun w_89 ew_89 => ?_)
            refine r_goto 118 dO_live_92 (by decide) ?_
            refine r_iinc (ls' := [(6, zI (x + 1)), (8, zI y_69), (7, zI y_57), (0, zR 4), (1, zR 1), (2, zR r), (3, zI f), (4, zI n), (5, zI insp)]) 6 2 dO_live_118 rfl (by decide) rfl ?_
            refine r_goto 34 dO_live_121 (by decide) ?_
            refine r_sub (ls' := [(6, zI (x + 1)), (0, zR 4), (1, zR 1), (2, zR r), (3, zI f), (4, zI n), (5, zI insp)]) [0, 3, 4, 5, 6, 7, 8] rfl ?_
            exact ih_34 (x + 1) w_89 (by omega) (by omega) (fun i k q => by first | (rw [ew_89, zput_i _ _ _ _ q]; exact hw i k q) | (rw [h_115.1 i k q]; exact hw i k q)) (by first | (rw [ew_89, zput_k _ _ (by decide)]; omega) | (rw [h_115.2.2.2.2.2]; omega)) (by unfold zSeaC; rw [zSea_s hx0]; show zStep _ _ _ _ _ (w.1 r (f + 2 * x)) (w.1 r (f + (2 * x + 1))) (zSeaC w r f insp x.toNat) = _; rw [hst, ← Int.add_assoc, ← e57, ← e69, ew_89, zput_s, zput_k _ _ (by decide), zput_k _ _ (by decide), zput_k _ _ (by decide), zput_k _ _ (by decide)]; unfold zStep; show (if wl.1 4 1 = -9 then (if wl.1 4 3 < w.1 8 y_69 then _ else _) else _) = _; rw [if_pos (by omega), if_pos (by omega)]) (by omega)
  exact L_34 100 0 w_28 (by omega) (by omega) (fun i k q => by rw [ew_28, zput_i _ _ _ _ q, ew_23, zput_i _ _ _ _ q, ew_17, zput_i _ _ _ _ q, ew_11, zput_i _ _ _ _ q, ew_5, zput_i _ _ _ _ q]) (by rw [ew_28, zput_s]; decide) (by show (w.1 1 0, (-9 : Int), (-9 : Int), (12 : Int), (0 : Int)) = _; rw [ew_28, zput_s, zput_k _ _ (by decide), zput_k _ _ (by decide), zput_k _ _ (by decide), zput_k _ _ (by decide), ew_23, zput_s, zput_k _ _ (by decide), zput_k _ _ (by decide), zput_k _ _ (by decide), ew_17, zput_s, zput_k _ _ (by decide), zput_k _ _ (by decide), ew_11, zput_s, zput_k _ _ (by decide), ew_5, zput_s, ey_2]) (by omega)
