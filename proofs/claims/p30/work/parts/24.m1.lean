set_option maxRecDepth 20000 in
set_option maxHeartbeats 4000000 in
theorem cM_in (w : zW) (v : Int) (l : Int) (h : Int) (zv : zinL v) (zl : zinL l) (zh : zinL h) : zC mM_in 0 [zJ v, zJ l, zJ h] w (zrI fun a w' => w = w' ∧ ((l ≤ v ∧ v ≤ h ∧ a = 1) ∨ ((v < l ∨ h < v) ∧ a = 0))) := by
  refine zC.of (by decide +kernel) (Nat.le_of_ble_eq_true rfl) ?_
  show zM mM_in (zZm 0 _) 0 [(0, zJ v), (2, zJ l), (4, zJ h)] [] w
  refine r_lload_n 0 0 dM_in_0 rfl rfl ?_
  refine r_lload_n 2 1 dM_in_1 rfl rfl ?_
  refine r_lc_lt 17 dM_in_2 dM_in_3 (by decide) ⟨by omega, by omega⟩ ⟨by omega, by omega⟩ (fun c_2 => ?_) (fun c_2 => ?_)
  · refine r_iconst dM_in_17 ?_
    refine r_zret rfl (by omega) dM_in_18 ⟨_, rfl, ?_⟩
    exact ⟨rfl, by omega⟩
  · refine r_lload_n 0 0 dM_in_6 rfl rfl ?_
    refine r_lload 4 2 dM_in_7 rfl ?_
    refine r_lc_gt 17 dM_in_9 dM_in_10 (by decide) ⟨by omega, by omega⟩ ⟨by omega, by omega⟩ (fun c_9 => ?_) (fun c_9 => ?_)
    · refine r_iconst dM_in_17 ?_
      refine r_zret rfl (by omega) dM_in_18 ⟨_, rfl, ?_⟩
      exact ⟨rfl, by omega⟩
    · refine r_iconst dM_in_13 ?_
      refine r_goto 18 dM_in_14 (by decide) ?_
      refine r_zret rfl (by omega) dM_in_18 ⟨_, rfl, ?_⟩
      exact ⟨rfl, by omega⟩

set_option maxRecDepth 20000 in
set_option maxHeartbeats 4000000 in
theorem cM_lost (w : zW) : zC mM_lost 0 [] w (zrJ fun a w' => w = w' ∧ a = zLOST) := by
  refine zC.of (by decide +kernel) (Nat.le_of_ble_eq_true rfl) ?_
  show zM mM_lost (zZm 0 _) 0 [] [] w
  refine r_ldc2 (a := (-9223372036854775808)) dM_lost_0 kw_793 (by decide +kernel) ?_
  refine r_lret rfl dM_lost_3 ⟨_, rfl, ?_⟩
  exact ⟨rfl, rfl⟩

set_option maxRecDepth 20000 in
set_option maxHeartbeats 4000000 in
theorem cM_isIn (w : zW) (set : Int) (k : Int) : zC mM_isIn 0 [zI set, zI k] w (zrI fun a w' => w = w' ∧ ((ziand (zshr set k) 1 = 1 ∧ a = 1) ∨ ((¬ ziand (zshr set k) 1 = 1) ∧ a = 0))) := by
  refine zC.of (by decide +kernel) (Nat.le_of_ble_eq_true rfl) ?_
  show zM mM_isIn (zZm 0 _) 0 [(0, zI set), (1, zI k)] [] w
  refine r_iload_n 0 0 dM_isIn_0 rfl rfl ?_
  refine r_iload_n 1 1 dM_isIn_1 rfl rfl ?_
  refine r_ishr dM_isIn_2 ?_
  refine r_iconst dM_isIn_3 ?_
  refine r_iand dM_isIn_4 ?_
  refine r_iconst dM_isIn_5 ?_
  refine r_ic_ne 13 dM_isIn_6 (by decide) (zto_in _) ⟨by omega, by omega⟩ (fun c_6 => ?_) (fun c_6 => ?_)
  · refine r_iconst dM_isIn_13 ?_
    refine r_zret rfl (by omega) dM_isIn_14 ⟨_, rfl, ?_⟩
    exact ⟨rfl, by omega⟩
  · refine r_iconst dM_isIn_9 ?_
    refine r_goto 14 dM_isIn_10 (by decide) ?_
    refine r_zret rfl (by omega) dM_isIn_14 ⟨_, rfl, ?_⟩
    exact ⟨rfl, by omega⟩

set_option maxRecDepth 20000 in
set_option maxHeartbeats 4000000 in
theorem cM_share (w : zW) (up : Int) (dn : Int) (which : Int) (h0 : 0 ≤ up) (h1 : up ≤ 6) (h2 : 0 < dn) (h3 : dn ≤ 6) (zw : zin which) : zC mM_share 0 [zJ up, zJ dn, zI which] w (zrJ fun a w' => w = w' ∧ a = fShare up dn which) := by
  refine zC.of (by decide +kernel) (Nat.le_of_ble_eq_true rfl) ?_
  show zM mM_share (zZm 0 _) 0 [(0, zJ up), (2, zJ dn), (4, zI which)] [] w
  refine r_lload_n 0 0 dM_share_0 rfl rfl ?_
  refine r_lstore (ls' := [(5, zJ up), (0, zJ up), (2, zJ dn), (4, zI which)]) 5 dM_share_1 (by decide) rfl ?_
  refine r_lload_n 2 2 dM_share_3 rfl rfl ?_
  refine r_lstore (ls' := [(7, zJ dn), (5, zJ up), (0, zJ up), (2, zJ dn), (4, zI which)]) 7 dM_share_4 (by decide) rfl ?_
  have L_6 : ∀ (n_6 : Nat) (x : Int) (y : Int) (hx : 0 ≤ x ∧ x ≤ 6) (hy : 0 ≤ y ∧ y ≤ 6) (hg : Nat.gcd x.toNat y.toNat = Nat.gcd up.toNat dn.toNat) (hxy : 0 < x ∨ 0 < y), y < (n_6 : Int) → zM mM_share (zZm 0 (zrJ fun a w' => w = w' ∧ a = fShare up dn which)) 6 [(7, zJ y), (5, zJ x), (0, zJ up), (2, zJ dn), (4, zI which)] [] w := by
    intro n_6
    induction n_6 with
    | zero => intro x y hx hy hg hxy hm_6; exfalso; omega
    | succ n_6 ih_6 =>
      intro x y hx hy hg hxy hm_6
      have hm9 : 0 < y → 0 ≤ x % y ∧ x % y < y := fun q => ⟨Int.emod_nonneg _ (by omega), Int.emod_lt_of_pos _ q⟩
      refine r_lload 7 0 dM_share_6 rfl ?_
      refine r_lconst (v := 0) dM_share_8 rfl ?_
      refine r_lc_eq 31 dM_share_9 dM_share_10 (by decide) ⟨by omega, by omega⟩ ⟨by omega, by omega⟩ (fun c_9 => ?_) (fun c_9 => ?_)
      · have hxg : x = (Nat.gcd up.toNat dn.toNat : Nat) := (by rw [← hg, show y.toNat = 0 by omega, Nat.gcd_zero_right]; omega)
        refine r_iload 4 4 dM_share_31 rfl ?_
        refine r_if_ne 40 dM_share_33 (by decide) ⟨by omega, by omega⟩ (fun c_33 => ?_) (fun c_33 => ?_)
        · refine r_lload_n 2 3 dM_share_40 rfl rfl ?_
          refine r_lload 5 1 dM_share_41 rfl ?_
          refine r_ldiv dM_share_43 ⟨by omega, by omega⟩ (by omega) ⟨by omega, by omega⟩ (by omega) ?_
          refine r_lret rfl dM_share_44 ⟨_, rfl, ?_⟩
          exact ⟨rfl, by unfold fShare; rw [← hxg]; (repeat' split) <;> first | rfl | omega⟩
        · refine r_lload_n 0 2 dM_share_36 rfl rfl ?_
          refine r_goto 41 dM_share_37 (by decide) ?_
          refine r_lload 5 1 dM_share_41 rfl ?_
          refine r_ldiv dM_share_43 ⟨by omega, by omega⟩ (by omega) ⟨by omega, by omega⟩ (by omega) ?_
          refine r_lret rfl dM_share_44 ⟨_, rfl, ?_⟩
          exact ⟨rfl, by unfold fShare; rw [← hxg]; (repeat' split) <;> first | rfl | omega⟩
      · refine r_lload 5 1 dM_share_13 rfl ?_
        refine r_lload 7 0 dM_share_15 rfl ?_
        refine r_lrem dM_share_17 ⟨by omega, by omega⟩ (by omega) ⟨by omega, by omega⟩ (by omega) ?_
        refine r_nmJ (fun x_18 ex_18 => ?_)
        refine r_lstore (ls' := [(9, zJ x_18), (7, zJ y), (5, zJ x), (0, zJ up), (2, zJ dn), (4, zI which)]) 9 dM_share_18 (by decide) rfl ?_
        refine r_lload 7 1 dM_share_20 rfl ?_
        refine r_lstore (ls' := [(5, zJ y), (9, zJ x_18), (7, zJ y), (0, zJ up), (2, zJ dn), (4, zI which)]) 5 dM_share_22 (by decide) rfl ?_
        refine r_lload 9 1 dM_share_24 rfl ?_
        refine r_lstore (ls' := [(7, zJ x_18), (5, zJ y), (9, zJ x_18), (0, zJ up), (2, zJ dn), (4, zI which)]) 7 dM_share_26 (by decide) rfl ?_
        refine r_goto 6 dM_share_28 (by decide) ?_
        refine r_sub (ls' := [(7, zJ x_18), (5, zJ y), (0, zJ up), (2, zJ dn), (4, zI which)]) [0, 1, 3, 4, 5] rfl ?_
        exact ih_6 y x_18 (by omega) (by have := hm9 (by omega); rw [ex_18]; omega) (by rw [ex_18, zgcd_step hx.1 (by omega)]; exact hg) (by omega) (by have := hm9 (by omega); rw [ex_18]; omega)
  exact L_6 7 up dn (by omega) (by omega) rfl (by omega) (by omega)

set_option maxRecDepth 20000 in
set_option maxHeartbeats 4000000 in
theorem cM_refused (w : zW) (x : Int) : zC mM_refused 0 [zR 33, zI x] w (zrI fun a w' => w' = zput w 33 0 0 ∧ a = x) := by
  refine zC.of (by decide +kernel) (Nat.le_of_ble_eq_true rfl) ?_
  show zM mM_refused (zZm 0 _) 0 [(0, zR 33), (1, zI x)] [] w
  refine r_aload_n 0 0 dM_refused_0 rfl rfl ?_
  refine r_iconst dM_refused_1 ?_
  refine r_putI (k := 0) fX7 rfl rfl (by decide) kw_505 rfl rfl (by decide +kernel) 0 rfl dM_refused_2 rfl (by omega) (by omega) (fun w_2 ew_2 => ?_)
  refine r_iload_n 1 1 dM_refused_5 rfl rfl ?_
  refine r_iret rfl dM_refused_6 ⟨_, rfl, ?_⟩
  exact ⟨ew_2, rfl⟩

set_option maxRecDepth 20000 in
set_option maxHeartbeats 4000000 in
theorem cM_failed (w : zW) (f : Int) (hf0 : 0 ≤ f) (hf1 : f ≤ 4) : zC mM_failed 0 [zR 33, zI f] w (zrI fun a w' => w' = zput w 33 0 f ∧ a = -10 - f) := by
  refine zC.of (by decide +kernel) (Nat.le_of_ble_eq_true rfl) ?_
  show zM mM_failed (zZm 0 _) 0 [(0, zR 33), (1, zI f)] [] w
  refine r_aload_n 0 0 dM_failed_0 rfl rfl ?_
  refine r_iload_n 1 1 dM_failed_1 rfl rfl ?_
  refine r_putI (k := 0) fX7 rfl rfl (by decide) kw_505 rfl rfl (by decide +kernel) 0 rfl dM_failed_2 rfl (by omega) (by omega) (fun w_2 ew_2 => ?_)
  refine r_bipush dM_failed_5 (by decide) ?_
  refine r_iload_n 1 1 dM_failed_7 rfl rfl ?_
  refine r_isub dM_failed_8 ?_
  refine r_iret rfl dM_failed_9 ⟨_, rfl, ?_⟩
  exact ⟨ew_2, rfl⟩

set_option maxRecDepth 20000 in
set_option maxHeartbeats 4000000 in
theorem cM_failedLong (w : zW) (f : Int) (hf0 : 0 ≤ f) (hf1 : f ≤ 4) : zC mM_failedLong 1 [zR 33, zI f] w (zrJ fun a w' => w' = zput w 33 0 f ∧ a = zLOST) := by
  refine zC.of (by decide +kernel) (Nat.le_of_ble_eq_true rfl) ?_
  show zM mM_failedLong (zZm 1 _) 0 [(0, zR 33), (1, zI f)] [] w
  refine r_aload_n 0 0 dM_failedLong_0 rfl rfl ?_
  refine r_iload_n 1 1 dM_failedLong_1 rfl rfl ?_
  refine r_putI (k := 0) fX7 rfl rfl (by decide) kw_505 rfl rfl (by decide +kernel) 0 rfl dM_failedLong_2 rfl (by omega) (by omega) (fun w_2 ew_2 => ?_)
  refine r_cSJ (cM_lost w_2) qM_lost rfl kw_790 dM_failedLong_5 (st0 := []) (st := []) rfl ⟨Nat.le_of_ble_eq_true rfl, Nat.le_of_ble_eq_true rfl⟩ ⟨Nat.le_of_ble_eq_true rfl, Nat.le_of_ble_eq_true rfl⟩ (Nat.le_of_ble_eq_true rfl) (fun a_5 w_5 h_5 ok_5 => ?_)
  obtain ⟨rfl, h_5⟩ := h_5
  refine r_lret rfl dM_failedLong_8 ⟨_, rfl, ?_⟩
  exact ⟨ew_2, h_5⟩

set_option maxRecDepth 20000 in
set_option maxHeartbeats 4000000 in
theorem cM_refusedLong (w : zW) : zC mM_refusedLong 1 [zR 33] w (zrJ fun a w' => w' = zput w 33 0 0 ∧ a = zLOST) := by
  refine zC.of (by decide +kernel) (Nat.le_of_ble_eq_true rfl) ?_
  show zM mM_refusedLong (zZm 1 _) 0 [(0, zR 33)] [] w
  refine r_aload_n 0 0 dM_refusedLong_0 rfl rfl ?_
  refine r_iconst dM_refusedLong_1 ?_
  refine r_putI (k := 0) fX7 rfl rfl (by decide) kw_505 rfl rfl (by decide +kernel) 0 rfl dM_refusedLong_2 rfl (by omega) (by omega) (fun w_2 ew_2 => ?_)
  refine r_cSJ (cM_lost w_2) qM_lost rfl kw_790 dM_refusedLong_5 (st0 := []) (st := []) rfl ⟨Nat.le_of_ble_eq_true rfl, Nat.le_of_ble_eq_true rfl⟩ ⟨Nat.le_of_ble_eq_true rfl, Nat.le_of_ble_eq_true rfl⟩ (Nat.le_of_ble_eq_true rfl) (fun a_5 w_5 h_5 ok_5 => ?_)
  obtain ⟨rfl, h_5⟩ := h_5
  refine r_lret rfl dM_refusedLong_8 ⟨_, rfl, ?_⟩
  exact ⟨ew_2, h_5⟩

set_option maxRecDepth 20000 in
set_option maxHeartbeats 4000000 in
theorem cM_noGuest (w : zW) (g : Int) (zg : zin g) : zC mM_noGuest 1 [zR 33, zI g] w (zrI fun a w' => w = w' ∧ (((g < 0 ∨ w.1 33 6 ≤ g) ∧ a = 1) ∨ ((0 ≤ g ∧ g < w.1 33 6 ∧ w.1 33 6 ≤ 6) ∧ a = 0))) := by
  refine zC.of (by decide +kernel) (Nat.le_of_ble_eq_true rfl) ?_
  show zM mM_noGuest (zZm 1 _) 0 [(0, zR 33), (1, zI g)] [] w
  refine r_iload_n 1 1 dM_noGuest_0 rfl rfl ?_
  refine r_i2l dM_noGuest_1 ⟨by omega, by omega⟩ ?_
  refine r_lconst (v := 0) dM_noGuest_2 rfl ?_
  refine r_aload_n 0 0 dM_noGuest_3 rfl rfl ?_
  refine r_getI (k := 6) fX7 rfl rfl (by decide) kw_511 rfl 6 rfl dM_noGuest_4 rfl (fun y_4 ey_4 ly_4 uy_4 => ?_)
  refine r_i2l dM_noGuest_7 ⟨by omega, by omega⟩ ?_
  refine r_lconst (v := 1) dM_noGuest_8 rfl ?_
  refine r_lsub dM_noGuest_9 ?_
  refine r_cSI (cM_in w g 0 (y_4 - 1) (by omega) (by omega) (by omega)) qM_in rfl kw_628 dM_noGuest_10 (st0 := [zJ (y_4 - 1), zJ 0, zJ g]) (st := []) rfl ⟨Nat.le_of_ble_eq_true rfl, Nat.le_of_ble_eq_true rfl⟩ ⟨Nat.le_of_ble_eq_true rfl, Nat.le_of_ble_eq_true rfl⟩ (Nat.le_of_ble_eq_true rfl) (fun a_10 w_10 h_10 ok_10 => ?_)
  obtain ⟨rfl, h_10⟩ := h_10
  refine r_if_ne 20 dM_noGuest_13 (by decide) ⟨by omega, by omega⟩ (fun c_13 => ?_) (fun c_13 => ?_)
  · refine r_iconst dM_noGuest_20 ?_
    refine r_zret rfl (by omega) dM_noGuest_21 ⟨_, rfl, ?_⟩
    exact ⟨rfl, by omega⟩
  · refine r_iconst dM_noGuest_16 ?_
    refine r_goto 21 dM_noGuest_17 (by decide) ?_
    refine r_zret rfl (by omega) dM_noGuest_21 ⟨_, rfl, ?_⟩
    exact ⟨rfl, by omega⟩

set_option maxRecDepth 20000 in
set_option maxHeartbeats 4000000 in
theorem cM_noDoing (w : zW) (d : Int) (zd : zin d) : zC mM_noDoing 1 [zR 33, zI d] w (zrI fun a w' => w = w' ∧ (((d < 0 ∨ w.1 33 3 ≤ d) ∧ a = 1) ∨ ((0 ≤ d ∧ d < w.1 33 3 ∧ w.1 33 3 ≤ 4) ∧ a = 0))) := by
  refine zC.of (by decide +kernel) (Nat.le_of_ble_eq_true rfl) ?_
  show zM mM_noDoing (zZm 1 _) 0 [(0, zR 33), (1, zI d)] [] w
  refine r_iload_n 1 1 dM_noDoing_0 rfl rfl ?_
  refine r_i2l dM_noDoing_1 ⟨by omega, by omega⟩ ?_
  refine r_lconst (v := 0) dM_noDoing_2 rfl ?_
  refine r_aload_n 0 0 dM_noDoing_3 rfl rfl ?_
  refine r_getI (k := 3) fX7 rfl rfl (by decide) kw_508 rfl 3 rfl dM_noDoing_4 rfl (fun y_4 ey_4 ly_4 uy_4 => ?_)
  refine r_i2l dM_noDoing_7 ⟨by omega, by omega⟩ ?_
  refine r_lconst (v := 1) dM_noDoing_8 rfl ?_
  refine r_lsub dM_noDoing_9 ?_
  refine r_cSI (cM_in w d 0 (y_4 - 1) (by omega) (by omega) (by omega)) qM_in rfl kw_628 dM_noDoing_10 (st0 := [zJ (y_4 - 1), zJ 0, zJ d]) (st := []) rfl ⟨Nat.le_of_ble_eq_true rfl, Nat.le_of_ble_eq_true rfl⟩ ⟨Nat.le_of_ble_eq_true rfl, Nat.le_of_ble_eq_true rfl⟩ (Nat.le_of_ble_eq_true rfl) (fun a_10 w_10 h_10 ok_10 => ?_)
  obtain ⟨rfl, h_10⟩ := h_10
  refine r_if_ne 20 dM_noDoing_13 (by decide) ⟨by omega, by omega⟩ (fun c_13 => ?_) (fun c_13 => ?_)
  · refine r_iconst dM_noDoing_20 ?_
    refine r_zret rfl (by omega) dM_noDoing_21 ⟨_, rfl, ?_⟩
    exact ⟨rfl, by omega⟩
  · refine r_iconst dM_noDoing_16 ?_
    refine r_goto 21 dM_noDoing_17 (by decide) ?_
    refine r_zret rfl (by omega) dM_noDoing_21 ⟨_, rfl, ?_⟩
    exact ⟨rfl, by omega⟩

set_option maxRecDepth 20000 in
set_option maxHeartbeats 4000000 in
theorem cM_everybody (w : zW) : zC mM_everybody 0 [zR 33] w (zrI fun a w' => w = w' ∧ a = zshl 1 (w.1 33 6) - 1) := by
  refine zC.of (by decide +kernel) (Nat.le_of_ble_eq_true rfl) ?_
  show zM mM_everybody (zZm 0 _) 0 [(0, zR 33)] [] w
  refine r_iconst dM_everybody_0 ?_
  refine r_aload_n 0 0 dM_everybody_1 rfl rfl ?_
  refine r_getI (k := 6) fX7 rfl rfl (by decide) kw_511 rfl 6 rfl dM_everybody_2 rfl (fun y_2 ey_2 ly_2 uy_2 => ?_)
  refine r_ishl dM_everybody_5 ?_
  refine r_iconst dM_everybody_6 ?_
  refine r_isub dM_everybody_7 ?_
  refine r_iret rfl dM_everybody_8 ⟨_, rfl, ?_⟩
  exact ⟨rfl, by rw [← ey_2]⟩

set_option maxRecDepth 20000 in
set_option maxHeartbeats 4000000 in
theorem cM_pleasedBy (w : zW) (g : Int) (d : Int) (hg0 : 0 ≤ g) (hg1 : g < 6) (hd0 : 0 ≤ d) (hd1 : d < 4) : zC mM_pleasedBy 0 [zR 33, zI g, zI d] w (zrI fun a w' => w = w' ∧ a = zPM w g d ∧ 0 ≤ a ∧ a ≤ 21) := by
  refine zC.of (by decide +kernel) (Nat.le_of_ble_eq_true rfl) ?_
  show zM mM_pleasedBy (zZm 0 _) 0 [(0, zR 33), (1, zI g), (2, zI d)] [] w
  refine r_aload_n 0 0 dM_pleasedBy_0 rfl rfl ?_
  refine r_getR (k := 9) (b := 38) fX7 rfl rfl rfl (by decide) kw_514 rfl dM_pleasedBy_1 ?_
  refine r_iload_n 1 1 dM_pleasedBy_4 rfl rfl ?_
  refine r_iaload rfl (by decide) dM_pleasedBy_5 (by omega) (by omega) rfl (fun y_5 ey_5 ly_5 uy_5 => ?_)
  refine r_iload_n 2 2 dM_pleasedBy_6 rfl rfl ?_
  have J_15 : ∀ (b : Int) (hb : (y_5 = d ∧ b = 1) ∨ (¬ y_5 = d ∧ b = 0)), zM mM_pleasedBy (zZm 0 (zrI fun a w' => w = w' ∧ a = zPM w g d ∧ 0 ≤ a ∧ a ≤ 21)) 15 [(0, zR 33), (1, zI g), (2, zI d)] [zI b] w := by
    intro b hb
    refine r_istore_n (ls' := [(3, zI b), (0, zR 33), (1, zI g), (2, zI d)]) 3 dM_pleasedBy_15 rfl (by decide) rfl ?_
    refine r_aload_n 0 1 dM_pleasedBy_16 rfl rfl ?_
    refine r_getR (k := 4) (b := 34) fX7 rfl rfl rfl (by decide) kw_509 rfl dM_pleasedBy_17 ?_
    refine r_iload_n 2 3 dM_pleasedBy_20 rfl rfl ?_
    refine r_iaload rfl (by decide) dM_pleasedBy_21 (by omega) (by omega) rfl (fun y_21 ey_21 ly_21 uy_21 => ?_)
    refine r_aload_n 0 1 dM_pleasedBy_22 rfl rfl ?_
    refine r_getR (k := 8) (b := 37) fX7 rfl rfl rfl (by decide) kw_513 rfl dM_pleasedBy_23 ?_
    refine r_iload_n 1 2 dM_pleasedBy_26 rfl rfl ?_
    refine r_iaload rfl (by decide) dM_pleasedBy_27 (by omega) (by omega) rfl (fun y_27 ey_27 ly_27 uy_27 => ?_)
    refine r_iadd dM_pleasedBy_28 ?_
    refine r_iload_n 3 0 dM_pleasedBy_29 rfl rfl ?_
    have J_38 : ∀ (t : Int) (ht : (b = 0 ∧ t = 0) ∨ (b = 1 ∧ t = 3)), zM mM_pleasedBy (zZm 0 (zrI fun a w' => w = w' ∧ a = zPM w g d ∧ 0 ≤ a ∧ a ≤ 21)) 38 [(3, zI b), (0, zR 33), (1, zI g), (2, zI d)] [zI t, zI (y_21 + y_27)] w := by
      intro t ht
      refine r_iadd dM_pleasedBy_38 ?_
      refine r_nmI (fun x_39 ex_39 => ?_)
      refine r_istore (ls' := [(4, zI x_39), (3, zI b), (0, zR 33), (1, zI g), (2, zI d)]) 4 dM_pleasedBy_39 (by decide) rfl ?_
      refine r_aload_n 0 2 dM_pleasedBy_41 rfl rfl ?_
      refine r_getR (k := 7) (b := 36) fX7 rfl rfl rfl (by decide) kw_512 rfl dM_pleasedBy_42 ?_
      refine r_iload_n 1 3 dM_pleasedBy_45 rfl rfl ?_
      refine r_iaload rfl (by decide) dM_pleasedBy_46 (by omega) (by omega) rfl (fun y_46 ey_46 ly_46 uy_46 => ?_)
      refine r_iconst dM_pleasedBy_47 ?_
      refine r_ic_ne 66 dM_pleasedBy_48 (by decide) ⟨by omega, by omega⟩ ⟨by omega, by omega⟩ (fun c_48 => ?_) (fun c_48 => ?_)
      · refine r_aload_n 0 2 dM_pleasedBy_66 rfl rfl ?_
        refine r_getR (k := 7) (b := 36) fX7 rfl rfl rfl (by decide) kw_512 rfl dM_pleasedBy_67 ?_
        refine r_iload_n 1 3 dM_pleasedBy_70 rfl rfl ?_
        refine r_iaload rfl (by decide) dM_pleasedBy_71 (by omega) (by omega) rfl (fun y_71 ey_71 ly_71 uy_71 => ?_)
        refine r_iconst dM_pleasedBy_72 ?_
        refine r_ic_ne 83 dM_pleasedBy_73 (by decide) ⟨by omega, by omega⟩ ⟨by omega, by omega⟩ (fun c_73 => ?_) (fun c_73 => ?_)
        · refine r_iload 4 0 dM_pleasedBy_83 rfl ?_
          refine r_iret rfl dM_pleasedBy_85 ⟨_, rfl, ?_⟩
          exact ⟨rfl, by unfold zPM zPl; (repeat' split) <;> omega, by omega, by omega⟩
        · refine r_iload 4 0 dM_pleasedBy_76 rfl ?_
          refine r_iconst dM_pleasedBy_78 ?_
          refine r_idiv dM_pleasedBy_79 ⟨by omega, by omega⟩ (by omega) ⟨by omega, by omega⟩ (by omega) ?_
          refine r_goto 85 dM_pleasedBy_80 (by decide) ?_
          refine r_iret rfl dM_pleasedBy_85 ⟨_, rfl, ?_⟩
          exact ⟨rfl, by unfold zPM zPl; (repeat' split) <;> omega, by omega, by omega⟩
      · refine r_iload_n 3 1 dM_pleasedBy_51 rfl rfl ?_
        refine r_if_eq 64 dM_pleasedBy_52 (by decide) ⟨by omega, by omega⟩ (fun c_52 => ?_) (fun c_52 => ?_)
        · refine r_iconst dM_pleasedBy_64 ?_
          refine r_iret rfl dM_pleasedBy_65 ⟨_, rfl, ?_⟩
          exact ⟨rfl, by unfold zPM zPl; (repeat' split) <;> omega, by omega, by omega⟩
        · refine r_iload 4 0 dM_pleasedBy_55 rfl ?_
          refine r_iconst dM_pleasedBy_57 ?_
          refine r_idiv dM_pleasedBy_58 ⟨by omega, by omega⟩ (by omega) ⟨by omega, by omega⟩ (by omega) ?_
          refine r_iconst dM_pleasedBy_59 ?_
          refine r_iadd dM_pleasedBy_60 ?_
          refine r_goto 65 dM_pleasedBy_61 (by decide) ?_
          refine r_iret rfl dM_pleasedBy_65 ⟨_, rfl, ?_⟩
          exact ⟨rfl, by unfold zPM zPl; (repeat' split) <;> omega, by omega, by omega⟩
    refine r_if_eq 37 dM_pleasedBy_30 (by decide) ⟨by omega, by omega⟩ (fun c_30 => ?_) (fun c_30 => ?_)
    · refine r_iconst dM_pleasedBy_37 ?_
      exact J_38 0 (by omega)
    · refine r_iconst dM_pleasedBy_33 ?_
      refine r_goto 38 dM_pleasedBy_34 (by decide) ?_
      exact J_38 3 (by omega)
  refine r_ic_ne 14 dM_pleasedBy_7 (by decide) ⟨by omega, by omega⟩ ⟨by omega, by omega⟩ (fun c_7 => ?_) (fun c_7 => ?_)
  · refine r_iconst dM_pleasedBy_14 ?_
    exact J_15 0 (by omega)
  · refine r_iconst dM_pleasedBy_10 ?_
    refine r_goto 15 dM_pleasedBy_11 (by decide) ?_
    exact J_15 1 (by omega)

set_option maxRecDepth 20000 in
set_option maxHeartbeats 4000000 in
theorem cM_doesLose (w : zW) (g : Int) (d : Int) (hg0 : 0 ≤ g) (hg1 : g < 6) (hd0 : 0 ≤ d) (hd1 : d < 4) : zC mM_doesLose 1 [zR 33, zI g, zI d] w (zrI fun a w' => w = w' ∧ ((w.1 33 2 ≤ zPM w g d ∧ a = 1) ∨ (zPM w g d < w.1 33 2 ∧ a = 0))) := by
  refine zC.of (by decide +kernel) (Nat.le_of_ble_eq_true rfl) ?_
  show zM mM_doesLose (zZm 1 _) 0 [(0, zR 33), (1, zI g), (2, zI d)] [] w
  refine r_aload_n 0 0 dM_doesLose_0 rfl rfl ?_
  refine r_iload_n 1 1 dM_doesLose_1 rfl rfl ?_
  refine r_iload_n 2 2 dM_doesLose_2 rfl rfl ?_
  refine r_cVI (cM_pleasedBy w g d (by omega) (by omega) (by omega) (by omega)) qM_pleasedBy rfl kw_691 rfl rfl dM_doesLose_3 (st0 := [zI d, zI g, zR 33]) (st := []) rfl ⟨Nat.le_of_ble_eq_true rfl, Nat.le_of_ble_eq_true rfl⟩ ⟨Nat.le_of_ble_eq_true rfl, Nat.le_of_ble_eq_true rfl⟩ (Nat.le_of_ble_eq_true rfl) (fun a_3 w_3 h_3 ok_3 => ?_)
  obtain ⟨rfl, h_3⟩ := h_3
  refine r_aload_n 0 0 dM_doesLose_6 rfl rfl ?_
  refine r_getI (k := 2) fX7 rfl rfl (by decide) kw_507 rfl 2 rfl dM_doesLose_7 rfl (fun y_7 ey_7 ly_7 uy_7 => ?_)
  refine r_ic_lt 17 dM_doesLose_10 (by decide) ⟨by omega, by omega⟩ ⟨by omega, by omega⟩ (fun c_10 => ?_) (fun c_10 => ?_)
  · refine r_iconst dM_doesLose_17 ?_
    refine r_zret rfl (by omega) dM_doesLose_18 ⟨_, rfl, ?_⟩
    exact ⟨rfl, by omega⟩
  · refine r_iconst dM_doesLose_13 ?_
    refine r_goto 18 dM_doesLose_14 (by decide) ?_
    refine r_zret rfl (by omega) dM_doesLose_18 ⟨_, rfl, ?_⟩
    exact ⟨rfl, by omega⟩

set_option maxRecDepth 20000 in
set_option maxHeartbeats 4000000 in
theorem cM_losersOf (w : zW) (d : Int) (hd0 : 0 ≤ d) (hd1 : d < 4) : zC mM_losersOf 2 [zR 33, zI d] w (zrI fun a w' => w = w' ∧ a = zWMo w d) := by
  refine zC.of (by decide +kernel) (Nat.le_of_ble_eq_true rfl) ?_
  show zM mM_losersOf (zZm 2 _) 0 [(0, zR 33), (1, zI d)] [] w
  refine r_ok (fun hO => ?_)
  have hG := hO 33 6
  change 0 ≤ w.1 33 6 ∧ w.1 33 6 ≤ 6 at hG
  refine r_iconst dM_losersOf_0 ?_
  refine r_istore_n (ls' := [(2, zI 0), (0, zR 33), (1, zI d)]) 2 dM_losersOf_1 rfl (by decide) rfl ?_
  refine r_iconst dM_losersOf_2 ?_
  refine r_istore_n (ls' := [(3, zI 0), (2, zI 0), (0, zR 33), (1, zI d)]) 3 dM_losersOf_3 rfl (by decide) rfl ?_
  have L_4 : ∀ (n_4 : Nat) (set : Int) (i : Int) (hi : 0 ≤ i) (hi2 : i ≤ w.1 33 6) (hs : set = zSet (fun g => decide (w.1 33 2 ≤ zPM w g d)) i.toNat), w.1 33 6 - i < (n_4 : Int) → zM mM_losersOf (zZm 2 (zrI fun a w' => w = w' ∧ a = zWMo w d)) 4 [(3, zI i), (2, zI set), (0, zR 33), (1, zI d)] [] w := by
    intro n_4
    induction n_4 with
    | zero => intro set i hi hi2 hs hm_4; exfalso; omega
    | succ n_4 ih_4 =>
      intro set i hi hi2 hs hm_4
      refine r_iload_n 3 0 dM_losersOf_4 rfl rfl ?_
      refine r_aload_n 0 2 dM_losersOf_5 rfl rfl ?_
      refine r_getI (k := 6) fX7 rfl rfl (by decide) kw_511 rfl 6 rfl dM_losersOf_6 rfl (fun y_6 ey_6 ly_6 uy_6 => ?_)
      refine r_ic_ge 37 dM_losersOf_9 (by decide) ⟨by omega, by omega⟩ ⟨by omega, by omega⟩ (fun c_9 => ?_) (fun c_9 => ?_)
      · refine r_iload_n 2 1 dM_losersOf_37 rfl rfl ?_
        refine r_iret rfl dM_losersOf_38 ⟨_, rfl, ?_⟩
        exact ⟨rfl, by rw [hs]; unfold zWMo; congr 2; omega⟩
      · refine r_iload_n 2 1 dM_losersOf_12 rfl rfl ?_
        refine r_aload_n 0 2 dM_losersOf_13 rfl rfl ?_
        refine r_iload_n 3 0 dM_losersOf_14 rfl rfl ?_
        refine r_iload_n 1 3 dM_losersOf_15 rfl rfl ?_
        refine r_cVI (cM_doesLose w i d (by omega) (by omega) (by omega) (by omega)) qM_doesLose rfl kw_687 rfl rfl dM_losersOf_16 (st0 := [zI d, zI i, zR 33, zI set]) (st := [zI set]) rfl ⟨Nat.le_of_ble_eq_true rfl, Nat.le_of_ble_eq_true rfl⟩ ⟨Nat.le_of_ble_eq_true rfl, Nat.le_of_ble_eq_true rfl⟩ (Nat.le_of_ble_eq_true rfl) (fun a_16 w_16 h_16 ok_16 => ?_)
        obtain ⟨rfl, h_16⟩ := h_16
        refine r_if_eq 28 dM_losersOf_19 (by decide) ⟨by omega, by omega⟩ (fun c_19 => ?_) (fun c_19 => ?_)
        · refine r_iconst dM_losersOf_28 ?_
          refine r_ior dM_losersOf_29 ?_
          refine r_nmI (fun x_30 ex_30 => ?_)
          refine r_istore_n (ls' := [(2, zI x_30), (3, zI i), (0, zR 33), (1, zI d)]) 2 dM_losersOf_30 rfl (by decide) rfl ?_
          refine r_iinc (ls' := [(3, zI (i + 1)), (2, zI x_30), (0, zR 33), (1, zI d)]) 3 1 dM_losersOf_31 rfl (by decide) rfl ?_
          refine r_goto 4 dM_losersOf_34 (by decide) ?_
          exact ih_4 x_30 (i + 1) (by omega) (by omega) (by rw [zSet_s _ hi]; first | (rw [if_pos (by first | exact decide_eq_true (by omega) | assumption), ← hs]; omega) | (rw [if_neg (by first | (rw [decide_eq_true_eq]; omega) | assumption), ← hs]; have e0 := zior_0 (x := set) (by rw [hs]; exact zSet_in _ _); omega)) (by omega)
        · refine r_iconst dM_losersOf_22 ?_
          refine r_iload_n 3 0 dM_losersOf_23 rfl rfl ?_
          refine r_ishl dM_losersOf_24 ?_
          refine r_goto 29 dM_losersOf_25 (by decide) ?_
          refine r_ior dM_losersOf_29 ?_
          refine r_nmI (fun x_30 ex_30 => ?_)
          refine r_istore_n (ls' := [(2, zI x_30), (3, zI i), (0, zR 33), (1, zI d)]) 2 dM_losersOf_30 rfl (by decide) rfl ?_
          refine r_iinc (ls' := [(3, zI (i + 1)), (2, zI x_30), (0, zR 33), (1, zI d)]) 3 1 dM_losersOf_31 rfl (by decide) rfl ?_
          refine r_goto 4 dM_losersOf_34 (by decide) ?_
          exact ih_4 x_30 (i + 1) (by omega) (by omega) (by rw [zSet_s _ hi]; first | (rw [if_pos (by first | exact decide_eq_true (by omega) | assumption), ← hs]; omega) | (rw [if_neg (by first | (rw [decide_eq_true_eq]; omega) | assumption), ← hs]; have e0 := zior_0 (x := set) (by rw [hs]; exact zSet_in _ _); omega)) (by omega)
  exact L_4 7 0 0 (by omega) (by omega) (zSet_0 _).symm (by omega)

set_option maxRecDepth 20000 in
set_option maxHeartbeats 4000000 in
theorem cM_areSo (w : zW) : zC mM_areSo 2 [zR 33] w (zrI fun a w' => w = w' ∧ ((zSoM w = true ∧ a = 1) ∨ (zSoM w = false ∧ a = 0))) := by
  refine zC.of (by decide +kernel) (Nat.le_of_ble_eq_true rfl) ?_
  show zM mM_areSo (zZm 2 _) 0 [(0, zR 33)] [] w
  refine r_ok (fun hO => ?_)
  have hR := hO 33 29
  change 0 ≤ w.1 33 29 ∧ w.1 33 29 ≤ 8 at hR
  refine r_iconst dM_areSo_0 ?_
  refine r_istore_n (ls' := [(1, zI 1), (0, zR 33)]) 1 dM_areSo_1 rfl (by decide) rfl ?_
  refine r_iconst dM_areSo_2 ?_
  refine r_istore_n (ls' := [(2, zI 0), (1, zI 1), (0, zR 33)]) 2 dM_areSo_3 rfl (by decide) rfl ?_
  have L_4 : ∀ (n_4 : Nat) (are : Int) (i : Int) (hi0 : 0 ≤ i) (hi1 : i ≤ w.1 33 29) (hs : (zAll (fun r => decide (w.1 33 2 ≤ zPM w (w.1 45 r) (w.1 46 r)) == decide (w.1 47 r = 1)) i.toNat = true ∧ are = 1) ∨ (zAll (fun r => decide (w.1 33 2 ≤ zPM w (w.1 45 r) (w.1 46 r)) == decide (w.1 47 r = 1)) i.toNat = false ∧ are = 0)), w.1 33 29 - i < (n_4 : Int) → zM mM_areSo (zZm 2 (zrI fun a w' => w = w' ∧ ((zSoM w = true ∧ a = 1) ∨ (zSoM w = false ∧ a = 0)))) 4 [(2, zI i), (1, zI are), (0, zR 33)] [] w := by
    intro n_4
    induction n_4 with
    | zero => intro are i hi0 hi1 hs hm_4; exfalso; omega
    | succ n_4 ih_4 =>
      intro are i hi0 hi1 hs hm_4
      refine r_iload_n 2 0 dM_areSo_4 rfl rfl ?_
      refine r_aload_n 0 2 dM_areSo_5 rfl rfl ?_
      refine r_getI (k := 29) fX7 rfl rfl (by decide) kw_534 rfl 29 rfl dM_areSo_6 rfl (fun y_6 ey_6 ly_6 uy_6 => ?_)
      refine r_ic_ge 53 dM_areSo_9 (by decide) ⟨by omega, by omega⟩ ⟨by omega, by omega⟩ (fun c_9 => ?_) (fun c_9 => ?_)
      · refine r_iload_n 1 1 dM_areSo_53 rfl rfl ?_
        refine r_zret rfl (by omega) dM_areSo_54 ⟨_, rfl, ?_⟩
        exact ⟨rfl, by unfold zSoM; rw [show (w.1 33 29).toNat = i.toNat by omega]; exact hs⟩
      · refine r_iload_n 1 1 dM_areSo_12 rfl rfl ?_
        refine r_if_eq 45 dM_areSo_13 (by decide) ⟨by omega, by omega⟩ (fun c_13 => ?_) (fun c_13 => ?_)
        · refine r_iconst dM_areSo_45 ?_
          refine r_istore_n (ls' := [(1, zI 0), (2, zI i), (0, zR 33)]) 1 dM_areSo_46 rfl (by decide) rfl ?_
          refine r_iinc (ls' := [(2, zI (i + 1)), (1, zI 0), (0, zR 33)]) 2 1 dM_areSo_47 rfl (by decide) rfl ?_
          refine r_goto 4 dM_areSo_50 (by decide) ?_
          exact ih_4 0 (i + 1) (by omega) (by omega) (by rw [zAll_s _ hi0]; rcases hs with ⟨q1, q2⟩ | ⟨q1, q2⟩; (rw [q1, Bool.true_and]; first | omega | (rw [← ey_22, ← ey_28, ← ey_37]; rcases h_29 with ⟨z1, z2⟩ | ⟨z1, z2⟩ <;> first | (refine Or.inl ⟨?_, rfl⟩; simp only [beq_iff_eq, decide_eq_decide]; omega) | (refine Or.inr ⟨?_, rfl⟩; simp only [beq_eq_false_iff_ne, ne_eq, decide_eq_decide]; omega))); (rw [q1, Bool.false_and]; first | exact Or.inr ⟨rfl, rfl⟩ | (exfalso; omega))) (by omega)
        · refine r_aload_n 0 2 dM_areSo_16 rfl rfl ?_
          refine r_aload_n 0 2 dM_areSo_17 rfl rfl ?_
          refine r_getR (k := 30) (b := 45) fX7 rfl rfl rfl (by decide) kw_535 rfl dM_areSo_18 ?_
          refine r_iload_n 2 0 dM_areSo_21 rfl rfl ?_
          refine r_iaload rfl (by decide) dM_areSo_22 (by omega) (by omega) rfl (fun y_22 ey_22 ly_22 uy_22 => ?_)
          refine r_aload_n 0 2 dM_areSo_23 rfl rfl ?_
          refine r_getR (k := 31) (b := 46) fX7 rfl rfl rfl (by decide) kw_536 rfl dM_areSo_24 ?_
          refine r_iload_n 2 0 dM_areSo_27 rfl rfl ?_
          refine r_iaload rfl (by decide) dM_areSo_28 (by omega) (by omega) rfl (fun y_28 ey_28 ly_28 uy_28 => ?_)
          refine r_cVI (cM_doesLose w y_22 y_28 (by omega) (by omega) (by omega) (by omega)) qM_doesLose rfl kw_687 rfl rfl dM_areSo_29 (st0 := [zI y_28, zI y_22, zR 33]) (st := []) rfl ⟨Nat.le_of_ble_eq_true rfl, Nat.le_of_ble_eq_true rfl⟩ ⟨Nat.le_of_ble_eq_true rfl, Nat.le_of_ble_eq_true rfl⟩ (Nat.le_of_ble_eq_true rfl) (fun a_29 w_29 h_29 ok_29 => ?_)
          obtain ⟨rfl, h_29⟩ := h_29
          refine r_aload_n 0 2 dM_areSo_32 rfl rfl ?_
          refine r_getR (k := 32) (b := 47) fX7 rfl rfl rfl (by decide) kw_537 rfl dM_areSo_33 ?_
          refine r_iload_n 2 0 dM_areSo_36 rfl rfl ?_
          refine r_baload rfl (by decide) dM_areSo_37 (by omega) (by omega) rfl (fun y_37 ey_37 ly_37 uy_37 => ?_)
          refine r_ic_ne 45 dM_areSo_38 (by decide) ⟨by omega, by omega⟩ ⟨by omega, by omega⟩ (fun c_38 => ?_) (fun c_38 => ?_)
          · refine r_iconst dM_areSo_45 ?_
            refine r_istore_n (ls' := [(1, zI 0), (2, zI i), (0, zR 33)]) 1 dM_areSo_46 rfl (by decide) rfl ?_
            refine r_iinc (ls' := [(2, zI (i + 1)), (1, zI 0), (0, zR 33)]) 2 1 dM_areSo_47 rfl (by decide) rfl ?_
            refine r_goto 4 dM_areSo_50 (by decide) ?_
            exact ih_4 0 (i + 1) (by omega) (by omega) (by rw [zAll_s _ hi0]; rcases hs with ⟨q1, q2⟩ | ⟨q1, q2⟩; (rw [q1, Bool.true_and]; first | omega | (rw [← ey_22, ← ey_28, ← ey_37]; rcases h_29 with ⟨z1, z2⟩ | ⟨z1, z2⟩ <;> first | (refine Or.inl ⟨?_, rfl⟩; simp only [beq_iff_eq, decide_eq_decide]; omega) | (refine Or.inr ⟨?_, rfl⟩; simp only [beq_eq_false_iff_ne, ne_eq, decide_eq_decide]; omega))); (rw [q1, Bool.false_and]; first | exact Or.inr ⟨rfl, rfl⟩ | (exfalso; omega))) (by omega)
          · refine r_iconst dM_areSo_41 ?_
            refine r_goto 46 dM_areSo_42 (by decide) ?_
            refine r_istore_n (ls' := [(1, zI 1), (2, zI i), (0, zR 33)]) 1 dM_areSo_46 rfl (by decide) rfl ?_
            refine r_iinc (ls' := [(2, zI (i + 1)), (1, zI 1), (0, zR 33)]) 2 1 dM_areSo_47 rfl (by decide) rfl ?_
            refine r_goto 4 dM_areSo_50 (by decide) ?_
            exact ih_4 1 (i + 1) (by omega) (by omega) (by rw [zAll_s _ hi0]; rcases hs with ⟨q1, q2⟩ | ⟨q1, q2⟩; (rw [q1, Bool.true_and]; first | omega | (rw [← ey_22, ← ey_28, ← ey_37]; rcases h_29 with ⟨z1, z2⟩ | ⟨z1, z2⟩ <;> first | (refine Or.inl ⟨?_, rfl⟩; simp only [beq_iff_eq, decide_eq_decide]; omega) | (refine Or.inr ⟨?_, rfl⟩; simp only [beq_eq_false_iff_ne, ne_eq, decide_eq_decide]; omega))); (rw [q1, Bool.false_and]; first | exact Or.inr ⟨rfl, rfl⟩ | (exfalso; omega))) (by omega)
  exact L_4 9 1 0 (by omega) (by omega) (Or.inl ⟨rfl, rfl⟩) (by omega)

set_option maxRecDepth 20000 in
set_option maxHeartbeats 4000000 in
theorem cM_noSheet (w : zW) (k : Int) (zk : zin k) : zC mM_noSheet 1 [zI k] w (zrI fun a w' => w = w' ∧ (((k < 0 ∨ 4 ≤ k) ∧ a = 1) ∨ ((0 ≤ k ∧ k < 4) ∧ a = 0))) := by
  refine zC.of (by decide +kernel) (Nat.le_of_ble_eq_true rfl) ?_
  show zM mM_noSheet (zZm 1 _) 0 [(0, zI k)] [] w
  refine r_iload_n 0 0 dM_noSheet_0 rfl rfl ?_
  refine r_i2l dM_noSheet_1 ⟨by omega, by omega⟩ ?_
  refine r_lconst (v := 0) dM_noSheet_2 rfl ?_
  refine r_ldc2 (a := 3) dM_noSheet_3 kw_627 (by decide +kernel) ?_
  refine r_cSI (cM_in w k 0 3 (by omega) (by omega) (by omega)) qM_in rfl kw_628 dM_noSheet_6 (st0 := [zJ 3, zJ 0, zJ k]) (st := []) rfl ⟨Nat.le_of_ble_eq_true rfl, Nat.le_of_ble_eq_true rfl⟩ ⟨Nat.le_of_ble_eq_true rfl, Nat.le_of_ble_eq_true rfl⟩ (Nat.le_of_ble_eq_true rfl) (fun a_6 w_6 h_6 ok_6 => ?_)
  obtain ⟨rfl, h_6⟩ := h_6
  refine r_if_ne 16 dM_noSheet_9 (by decide) ⟨by omega, by omega⟩ (fun c_9 => ?_) (fun c_9 => ?_)
  · refine r_iconst dM_noSheet_16 ?_
    refine r_zret rfl (by omega) dM_noSheet_17 ⟨_, rfl, ?_⟩
    exact ⟨rfl, by omega⟩
  · refine r_iconst dM_noSheet_12 ?_
    refine r_goto 17 dM_noSheet_13 (by decide) ?_
    refine r_zret rfl (by omega) dM_noSheet_17 ⟨_, rfl, ?_⟩
    exact ⟨rfl, by omega⟩

set_option maxRecDepth 20000 in
set_option maxHeartbeats 4000000 in
theorem cM_isBeyond (w : zW) (i : Int) (n : Int) (all : Int) (zi : zin i) (zn : -9000000000 ≤ n ∧ n ≤ 9000000000) (za : zin all) : zC mM_isBeyond 0 [zI i, zJ n, zI all] w (zrI fun a w' => w = w' ∧ (((i < 0 ∨ n < 0 ∨ all < i + n) ∧ a = 1) ∨ ((0 ≤ i ∧ 0 ≤ n ∧ i + n ≤ all) ∧ a = 0))) := by
  refine zC.of (by decide +kernel) (Nat.le_of_ble_eq_true rfl) ?_
  show zM mM_isBeyond (zZm 0 _) 0 [(0, zI i), (1, zJ n), (3, zI all)] [] w
  refine r_iload_n 0 0 dM_isBeyond_0 rfl rfl ?_
  refine r_if_lt 20 dM_isBeyond_1 (by decide) ⟨by omega, by omega⟩ (fun c_1 => ?_) (fun c_1 => ?_)
  · refine r_iconst dM_isBeyond_20 ?_
    refine r_goto 25 dM_isBeyond_21 (by decide) ?_
    refine r_zret rfl (by omega) dM_isBeyond_25 ⟨_, rfl, ?_⟩
    exact ⟨rfl, by omega⟩
  · refine r_lload_n 1 1 dM_isBeyond_4 rfl rfl ?_
    refine r_lconst (v := 0) dM_isBeyond_5 rfl ?_
    refine r_lc_lt 20 dM_isBeyond_6 dM_isBeyond_7 (by decide) ⟨by omega, by omega⟩ ⟨by omega, by omega⟩ (fun c_6 => ?_) (fun c_6 => ?_)
    · refine r_iconst dM_isBeyond_20 ?_
      refine r_goto 25 dM_isBeyond_21 (by decide) ?_
      refine r_zret rfl (by omega) dM_isBeyond_25 ⟨_, rfl, ?_⟩
      exact ⟨rfl, by omega⟩
    · refine r_iload_n 0 0 dM_isBeyond_10 rfl rfl ?_
      refine r_i2l dM_isBeyond_11 ⟨by omega, by omega⟩ ?_
      refine r_lload_n 1 1 dM_isBeyond_12 rfl rfl ?_
      refine r_ladd dM_isBeyond_13 ?_
      refine r_iload_n 3 2 dM_isBeyond_14 rfl rfl ?_
      refine r_i2l dM_isBeyond_15 ⟨by omega, by omega⟩ ?_
      refine r_lc_le 24 dM_isBeyond_16 dM_isBeyond_17 (by decide) ⟨by omega, by omega⟩ ⟨by omega, by omega⟩ (fun c_16 => ?_) (fun c_16 => ?_)
      · refine r_iconst dM_isBeyond_24 ?_
        refine r_zret rfl (by omega) dM_isBeyond_25 ⟨_, rfl, ?_⟩
        exact ⟨rfl, by omega⟩
      · refine r_iconst dM_isBeyond_20 ?_
        refine r_goto 25 dM_isBeyond_21 (by decide) ?_
        refine r_zret rfl (by omega) dM_isBeyond_25 ⟨_, rfl, ?_⟩
        exact ⟨rfl, by omega⟩

set_option maxRecDepth 20000 in
set_option maxHeartbeats 4000000 in
theorem cM_noCell (w : zW) (k : Int) (i : Int) (hk0 : 0 ≤ k) (hk1 : k < 4) (zi : zin i) : zC mM_noCell 1 [zR 33, zI k, zI i] w (zrI fun a w' => w = w' ∧ a = (if w.1 48 k < 0 then 1 else if i < 0 ∨ w.1 48 k ≤ i then 3 else 0)) := by
  refine zC.of (by decide +kernel) (Nat.le_of_ble_eq_true rfl) ?_
  show zM mM_noCell (zZm 1 _) 0 [(0, zR 33), (1, zI k), (2, zI i)] [] w
  refine r_aload_n 0 0 dM_noCell_0 rfl rfl ?_
  refine r_getR (k := 33) (b := 48) fX7 rfl rfl rfl (by decide) kw_538 rfl dM_noCell_1 ?_
  refine r_iload_n 1 1 dM_noCell_4 rfl rfl ?_
  refine r_iaload rfl (by decide) dM_noCell_5 (by omega) (by omega) rfl (fun y_5 ey_5 ly_5 uy_5 => ?_)
  refine r_if_ge 13 dM_noCell_6 (by decide) ⟨by omega, by omega⟩ (fun c_6 => ?_) (fun c_6 => ?_)
  · refine r_iload_n 2 2 dM_noCell_13 rfl rfl ?_
    refine r_i2l dM_noCell_14 ⟨by omega, by omega⟩ ?_
    refine r_lconst (v := 0) dM_noCell_15 rfl ?_
    refine r_aload_n 0 0 dM_noCell_16 rfl rfl ?_
    refine r_getR (k := 33) (b := 48) fX7 rfl rfl rfl (by decide) kw_538 rfl dM_noCell_17 ?_
    refine r_iload_n 1 1 dM_noCell_20 rfl rfl ?_
    refine r_iaload rfl (by decide) dM_noCell_21 (by omega) (by omega) rfl (fun y_21 ey_21 ly_21 uy_21 => ?_)
    refine r_i2l dM_noCell_22 ⟨by omega, by omega⟩ ?_
    refine r_lconst (v := 1) dM_noCell_23 rfl ?_
    refine r_lsub dM_noCell_24 ?_
    refine r_cSI (cM_in w i 0 (y_21 - 1) (by omega) (by omega) (by omega)) qM_in rfl kw_628 dM_noCell_25 (st0 := [zJ (y_21 - 1), zJ 0, zJ i]) (st := []) rfl ⟨Nat.le_of_ble_eq_true rfl, Nat.le_of_ble_eq_true rfl⟩ ⟨Nat.le_of_ble_eq_true rfl, Nat.le_of_ble_eq_true rfl⟩ (Nat.le_of_ble_eq_true rfl) (fun a_25 w_25 h_25 ok_25 => ?_)
    obtain ⟨rfl, h_25⟩ := h_25
    refine r_if_eq 35 dM_noCell_28 (by decide) ⟨by omega, by omega⟩ (fun c_28 => ?_) (fun c_28 => ?_)
    · refine r_iconst dM_noCell_35 ?_
      refine r_iret rfl dM_noCell_36 ⟨_, rfl, ?_⟩
      exact ⟨rfl, by (repeat' split) <;> omega⟩
    · refine r_iconst dM_noCell_31 ?_
      refine r_goto 36 dM_noCell_32 (by decide) ?_
      refine r_iret rfl dM_noCell_36 ⟨_, rfl, ?_⟩
      exact ⟨rfl, by (repeat' split) <;> omega⟩
  · refine r_iconst dM_noCell_9 ?_
    refine r_goto 36 dM_noCell_10 (by decide) ?_
    refine r_iret rfl dM_noCell_36 ⟨_, rfl, ?_⟩
    exact ⟨rfl, by (repeat' split) <;> omega⟩

set_option maxRecDepth 20000 in
set_option maxHeartbeats 4000000 in
theorem cM_traced (w : zW) (n : Int) : zC mM_traced 0 [zR 33, zI n] w (zrV fun w' => w' = zput w 33 37 (zTr (w.1 33 37) n)) := by
  refine zC.of (by decide +kernel) (Nat.le_of_ble_eq_true rfl) ?_
  show zM mM_traced (zZm 0 _) 0 [(0, zR 33), (1, zI n)] [] w
  refine r_aload_n 0 0 dM_traced_0 rfl rfl ?_
  refine r_bipush dM_traced_1 (by decide) ?_
  refine r_aload_n 0 0 dM_traced_3 rfl rfl ?_
  refine r_getI (k := 37) fX7 rfl rfl (by decide) kw_542 rfl 37 rfl dM_traced_4 rfl (fun y_4 ey_4 ly_4 uy_4 => ?_)
  refine r_imul dM_traced_7 ?_
  refine r_iload_n 1 1 dM_traced_8 rfl rfl ?_
  refine r_iadd dM_traced_9 ?_
  refine r_nrm ?_
  refine r_putI (k := 37) fX7 rfl rfl (by decide) kw_542 rfl rfl (by decide +kernel) 37 rfl dM_traced_10 rfl (zto_in _).1 (by have := (zto_in (Int32.ofInt ((31 * y_4) + n))).2; unfold znrm; omega) (fun w_10 ew_10 => ?_)
  refine r_vret rfl dM_traced_13 ⟨rfl, ?_⟩
  rw [ew_10, ey_4]; rfl

set_option maxRecDepth 20000 in
set_option maxHeartbeats 4000000 in
theorem cM_cellsBarred (w : zW) (k : Int) (lane : Int) (i : Int) (n : Int) (hk0 : 0 ≤ k) (hk1 : k < 4) (zlane : zin lane) (zi : zin i) (zn : -9000000000 ≤ n ∧ n ≤ 9000000000) : zC mM_cellsBarred 1 [zR 33, zI k, zI lane, zI i, zJ n] w (zrI fun a w' => a = (if w.1 48 k < 0 then -11 else if ¬ w.1 49 k = lane then -12 else if n < 0 then -14 else if i < 0 ∨ w.1 48 k < i + n then -13 else 0) ∧ ((a = 0 ∧ w' = w) ∨ (a < 0 ∧ ∃ f : Int, w' = zput w 33 0 f))) := by
  refine zC.of (by decide +kernel) (Nat.le_of_ble_eq_true rfl) ?_
  show zM mM_cellsBarred (zZm 1 _) 0 [(0, zR 33), (1, zI k), (2, zI lane), (3, zI i), (4, zJ n)] [] w
  refine r_aload_n 0 0 dM_cellsBarred_0 rfl rfl ?_
  refine r_getR (k := 33) (b := 48) fX7 rfl rfl rfl (by decide) kw_538 rfl dM_cellsBarred_1 ?_
  refine r_iload_n 1 1 dM_cellsBarred_4 rfl rfl ?_
  refine r_iaload rfl (by decide) dM_cellsBarred_5 (by omega) (by omega) rfl (fun y_5 ey_5 ly_5 uy_5 => ?_)
  refine r_if_lt 25 dM_cellsBarred_6 (by decide) ⟨by omega, by omega⟩ (fun c_6 => ?_) (fun c_6 => ?_)
  · refine r_aload_n 0 0 dM_cellsBarred_25 rfl rfl ?_
    refine r_getR (k := 33) (b := 48) fX7 rfl rfl rfl (by decide) kw_538 rfl dM_cellsBarred_26 ?_
    refine r_iload_n 1 1 dM_cellsBarred_29 rfl rfl ?_
    refine r_iaload rfl (by decide) dM_cellsBarred_30 (by omega) (by omega) rfl (fun y_30 ey_30 ly_30 uy_30 => ?_)
    refine r_if_ge 40 dM_cellsBarred_31 (by decide) ⟨by omega, by omega⟩ (fun c_31 => ?_) (fun c_31 => ?_)
    · refine r_lload 4 4 dM_cellsBarred_40 rfl ?_
      refine r_lconst (v := 0) dM_cellsBarred_42 rfl ?_
      refine r_lc_ge 53 dM_cellsBarred_43 dM_cellsBarred_44 (by decide) ⟨by omega, by omega⟩ ⟨by omega, by omega⟩ (fun c_43 => ?_) (fun c_43 => ?_)
      · refine r_iload_n 3 3 dM_cellsBarred_53 rfl rfl ?_
        refine r_lload 4 4 dM_cellsBarred_54 rfl ?_
        refine r_aload_n 0 0 dM_cellsBarred_56 rfl rfl ?_
        refine r_getR (k := 33) (b := 48) fX7 rfl rfl rfl (by decide) kw_538 rfl dM_cellsBarred_57 ?_
        refine r_iload_n 1 1 dM_cellsBarred_60 rfl rfl ?_
        refine r_iaload rfl (by decide) dM_cellsBarred_61 (by omega) (by omega) rfl (fun y_61 ey_61 ly_61 uy_61 => ?_)
        refine r_cSI (cM_isBeyond w i n y_61 (by omega) (by omega) (by omega)) qM_isBeyond rfl kw_644 dM_cellsBarred_62 (st0 := [zI y_61, zJ n, zI i]) (st := []) rfl ⟨Nat.le_of_ble_eq_true rfl, Nat.le_of_ble_eq_true rfl⟩ ⟨Nat.le_of_ble_eq_true rfl, Nat.le_of_ble_eq_true rfl⟩ (Nat.le_of_ble_eq_true rfl) (fun a_62 w_62 h_62 ok_62 => ?_)
        obtain ⟨rfl, h_62⟩ := h_62
        refine r_if_eq 76 dM_cellsBarred_65 (by decide) ⟨by omega, by omega⟩ (fun c_65 => ?_) (fun c_65 => ?_)
        · refine r_iconst dM_cellsBarred_76 ?_
          refine r_iret rfl dM_cellsBarred_77 ⟨_, rfl, ?_⟩
          exact ⟨by (repeat' split) <;> omega, Or.inl ⟨rfl, rfl⟩⟩
        · refine r_aload_n 0 0 dM_cellsBarred_68 rfl rfl ?_
          refine r_iconst dM_cellsBarred_69 ?_
          refine r_cVI (cM_failed w 3 (by omega) (by omega)) qM_failed rfl kw_640 rfl rfl dM_cellsBarred_70 (st0 := [zI 3, zR 33]) (st := []) rfl ⟨Nat.le_of_ble_eq_true rfl, Nat.le_of_ble_eq_true rfl⟩ ⟨Nat.le_of_ble_eq_true rfl, Nat.le_of_ble_eq_true rfl⟩ (Nat.le_of_ble_eq_true rfl) (fun a_70 w_70 h_70 ok_70 => ?_)
          refine r_goto 77 dM_cellsBarred_73 (by decide) ?_
          refine r_iret rfl dM_cellsBarred_77 ⟨_, rfl, ?_⟩
          exact ⟨by (repeat' split) <;> omega, Or.inr ⟨by omega, _, h_70.1⟩⟩
      · refine r_aload_n 0 0 dM_cellsBarred_47 rfl rfl ?_
        refine r_iconst dM_cellsBarred_48 ?_
        refine r_cVI (cM_failed w 4 (by omega) (by omega)) qM_failed rfl kw_640 rfl rfl dM_cellsBarred_49 (st0 := [zI 4, zR 33]) (st := []) rfl ⟨Nat.le_of_ble_eq_true rfl, Nat.le_of_ble_eq_true rfl⟩ ⟨Nat.le_of_ble_eq_true rfl, Nat.le_of_ble_eq_true rfl⟩ (Nat.le_of_ble_eq_true rfl) (fun a_49 w_49 h_49 ok_49 => ?_)
        refine r_iret rfl dM_cellsBarred_52 ⟨_, rfl, ?_⟩
        exact ⟨by (repeat' split) <;> omega, Or.inr ⟨by omega, _, h_49.1⟩⟩
    · refine r_aload_n 0 0 dM_cellsBarred_34 rfl rfl ?_
      refine r_iconst dM_cellsBarred_35 ?_
      refine r_cVI (cM_failed w 1 (by omega) (by omega)) qM_failed rfl kw_640 rfl rfl dM_cellsBarred_36 (st0 := [zI 1, zR 33]) (st := []) rfl ⟨Nat.le_of_ble_eq_true rfl, Nat.le_of_ble_eq_true rfl⟩ ⟨Nat.le_of_ble_eq_true rfl, Nat.le_of_ble_eq_true rfl⟩ (Nat.le_of_ble_eq_true rfl) (fun a_36 w_36 h_36 ok_36 => ?_)
      refine r_iret rfl dM_cellsBarred_39 ⟨_, rfl, ?_⟩
      exact ⟨by (repeat' split) <;> omega, Or.inr ⟨by omega, _, h_36.1⟩⟩
  · refine r_aload_n 0 0 dM_cellsBarred_9 rfl rfl ?_
    refine r_getR (k := 34) (b := 49) fX7 rfl rfl rfl (by decide) kw_539 rfl dM_cellsBarred_10 ?_
    refine r_iload_n 1 1 dM_cellsBarred_13 rfl rfl ?_
    refine r_iaload rfl (by decide) dM_cellsBarred_14 (by omega) (by omega) rfl (fun y_14 ey_14 ly_14 uy_14 => ?_)
    refine r_iload_n 2 2 dM_cellsBarred_15 rfl rfl ?_
    refine r_ic_eq 25 dM_cellsBarred_16 (by decide) ⟨by omega, by omega⟩ ⟨by omega, by omega⟩ (fun c_16 => ?_) (fun c_16 => ?_)
    · refine r_aload_n 0 0 dM_cellsBarred_25 rfl rfl ?_
      refine r_getR (k := 33) (b := 48) fX7 rfl rfl rfl (by decide) kw_538 rfl dM_cellsBarred_26 ?_
      refine r_iload_n 1 1 dM_cellsBarred_29 rfl rfl ?_
      refine r_iaload rfl (by decide) dM_cellsBarred_30 (by omega) (by omega) rfl (fun y_30 ey_30 ly_30 uy_30 => ?_)
      refine r_if_ge 40 dM_cellsBarred_31 (by decide) ⟨by omega, by omega⟩ (fun c_31 => ?_) (fun c_31 => ?_)
      · refine r_lload 4 4 dM_cellsBarred_40 rfl ?_
        refine r_lconst (v := 0) dM_cellsBarred_42 rfl ?_
        refine r_lc_ge 53 dM_cellsBarred_43 dM_cellsBarred_44 (by decide) ⟨by omega, by omega⟩ ⟨by omega, by omega⟩ (fun c_43 => ?_) (fun c_43 => ?_)
        · refine r_iload_n 3 3 dM_cellsBarred_53 rfl rfl ?_
          refine r_lload 4 4 dM_cellsBarred_54 rfl ?_
          refine r_aload_n 0 0 dM_cellsBarred_56 rfl rfl ?_
          refine r_getR (k := 33) (b := 48) fX7 rfl rfl rfl (by decide) kw_538 rfl dM_cellsBarred_57 ?_
          refine r_iload_n 1 1 dM_cellsBarred_60 rfl rfl ?_
          refine r_iaload rfl (by decide) dM_cellsBarred_61 (by omega) (by omega) rfl (fun y_61 ey_61 ly_61 uy_61 => ?_)
          refine r_cSI (cM_isBeyond w i n y_61 (by omega) (by omega) (by omega)) qM_isBeyond rfl kw_644 dM_cellsBarred_62 (st0 := [zI y_61, zJ n, zI i]) (st := []) rfl ⟨Nat.le_of_ble_eq_true rfl, Nat.le_of_ble_eq_true rfl⟩ ⟨Nat.le_of_ble_eq_true rfl, Nat.le_of_ble_eq_true rfl⟩ (Nat.le_of_ble_eq_true rfl) (fun a_62 w_62 h_62 ok_62 => ?_)
          obtain ⟨rfl, h_62⟩ := h_62
          refine r_if_eq 76 dM_cellsBarred_65 (by decide) ⟨by omega, by omega⟩ (fun c_65 => ?_) (fun c_65 => ?_)
          · refine r_iconst dM_cellsBarred_76 ?_
            refine r_iret rfl dM_cellsBarred_77 ⟨_, rfl, ?_⟩
            exact ⟨by (repeat' split) <;> omega, Or.inl ⟨rfl, rfl⟩⟩
          · refine r_aload_n 0 0 dM_cellsBarred_68 rfl rfl ?_
            refine r_iconst dM_cellsBarred_69 ?_
            refine r_cVI (cM_failed w 3 (by omega) (by omega)) qM_failed rfl kw_640 rfl rfl dM_cellsBarred_70 (st0 := [zI 3, zR 33]) (st := []) rfl ⟨Nat.le_of_ble_eq_true rfl, Nat.le_of_ble_eq_true rfl⟩ ⟨Nat.le_of_ble_eq_true rfl, Nat.le_of_ble_eq_true rfl⟩ (Nat.le_of_ble_eq_true rfl) (fun a_70 w_70 h_70 ok_70 => ?_)
            refine r_goto 77 dM_cellsBarred_73 (by decide) ?_
            refine r_iret rfl dM_cellsBarred_77 ⟨_, rfl, ?_⟩
            exact ⟨by (repeat' split) <;> omega, Or.inr ⟨by omega, _, h_70.1⟩⟩
        · refine r_aload_n 0 0 dM_cellsBarred_47 rfl rfl ?_
          refine r_iconst dM_cellsBarred_48 ?_
          refine r_cVI (cM_failed w 4 (by omega) (by omega)) qM_failed rfl kw_640 rfl rfl dM_cellsBarred_49 (st0 := [zI 4, zR 33]) (st := []) rfl ⟨Nat.le_of_ble_eq_true rfl, Nat.le_of_ble_eq_true rfl⟩ ⟨Nat.le_of_ble_eq_true rfl, Nat.le_of_ble_eq_true rfl⟩ (Nat.le_of_ble_eq_true rfl) (fun a_49 w_49 h_49 ok_49 => ?_)
          refine r_iret rfl dM_cellsBarred_52 ⟨_, rfl, ?_⟩
          exact ⟨by (repeat' split) <;> omega, Or.inr ⟨by omega, _, h_49.1⟩⟩
      · refine r_aload_n 0 0 dM_cellsBarred_34 rfl rfl ?_
        refine r_iconst dM_cellsBarred_35 ?_
        refine r_cVI (cM_failed w 1 (by omega) (by omega)) qM_failed rfl kw_640 rfl rfl dM_cellsBarred_36 (st0 := [zI 1, zR 33]) (st := []) rfl ⟨Nat.le_of_ble_eq_true rfl, Nat.le_of_ble_eq_true rfl⟩ ⟨Nat.le_of_ble_eq_true rfl, Nat.le_of_ble_eq_true rfl⟩ (Nat.le_of_ble_eq_true rfl) (fun a_36 w_36 h_36 ok_36 => ?_)
        refine r_iret rfl dM_cellsBarred_39 ⟨_, rfl, ?_⟩
        exact ⟨by (repeat' split) <;> omega, Or.inr ⟨by omega, _, h_36.1⟩⟩
    · refine r_aload_n 0 0 dM_cellsBarred_19 rfl rfl ?_
      refine r_iconst dM_cellsBarred_20 ?_
      refine r_cVI (cM_failed w 2 (by omega) (by omega)) qM_failed rfl kw_640 rfl rfl dM_cellsBarred_21 (st0 := [zI 2, zR 33]) (st := []) rfl ⟨Nat.le_of_ble_eq_true rfl, Nat.le_of_ble_eq_true rfl⟩ ⟨Nat.le_of_ble_eq_true rfl, Nat.le_of_ble_eq_true rfl⟩ (Nat.le_of_ble_eq_true rfl) (fun a_21 w_21 h_21 ok_21 => ?_)
      refine r_iret rfl dM_cellsBarred_24 ⟨_, rfl, ?_⟩
      exact ⟨by (repeat' split) <;> omega, Or.inr ⟨by omega, _, h_21.1⟩⟩
