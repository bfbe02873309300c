set_option maxRecDepth 20000 in
set_option maxHeartbeats 4000000 in
theorem cH_isOpen (w : zW) : zC mH_isOpen 0 [zR 1] w (zrI fun a w' => w = w' ∧ ((0 < w.1 1 3 ∧ a = 1) ∨ (w.1 1 3 = 0 ∧ a = 0))) := by
  refine zC.of (by decide +kernel) (Nat.le_of_ble_eq_true rfl) ?_
  show zM mH_isOpen (zZm 0 _) 0 [(0, zR 1)] [] w
  refine r_aload_n 0 0 dH_isOpen_0 rfl rfl ?_
  refine r_getI (k := 3) fX0 rfl rfl (by decide) kw_33 rfl 3 rfl dH_isOpen_1 rfl (fun y_1 ey_1 ly_1 uy_1 => ?_)
  refine r_if_le 11 dH_isOpen_4 (by decide) ⟨by omega, by omega⟩ (fun c_4 => ?_) (fun c_4 => ?_)
  · refine r_iconst dH_isOpen_11 ?_
    refine r_zret rfl (by omega) dH_isOpen_12 ⟨_, rfl, ?_⟩
    exact ⟨rfl, by omega⟩
  · refine r_iconst dH_isOpen_7 ?_
    refine r_goto 12 dH_isOpen_8 (by decide) ?_
    refine r_zret rfl (by omega) dH_isOpen_12 ⟨_, rfl, ?_⟩
    exact ⟨rfl, by omega⟩

set_option maxRecDepth 20000 in
set_option maxHeartbeats 4000000 in
theorem cH_isGuest (w : zW) (g : Int) (hg : zin g) : zC mH_isGuest 0 [zR 1, zI g] w (zrI fun a w' => w = w' ∧ ((0 ≤ g ∧ g < w.1 1 3 ∧ w.1 1 3 ≤ 6 ∧ a = 1) ∨ ((g < 0 ∨ w.1 1 3 ≤ g) ∧ a = 0))) := by
  refine zC.of (by decide +kernel) (Nat.le_of_ble_eq_true rfl) ?_
  show zM mH_isGuest (zZm 0 _) 0 [(0, zR 1), (1, zI g)] [] w
  refine r_iload_n 1 1 dH_isGuest_0 rfl rfl ?_
  refine r_if_lt 16 dH_isGuest_1 (by decide) ⟨by omega, by omega⟩ (fun c_1 => ?_) (fun c_1 => ?_)
  · refine r_iconst dH_isGuest_16 ?_
    refine r_zret rfl (by omega) dH_isGuest_17 ⟨_, rfl, ?_⟩
    exact ⟨rfl, by omega⟩
  · refine r_iload_n 1 1 dH_isGuest_4 rfl rfl ?_
    refine r_aload_n 0 0 dH_isGuest_5 rfl rfl ?_
    refine r_getI (k := 3) fX0 rfl rfl (by decide) kw_33 rfl 3 rfl dH_isGuest_6 rfl (fun y_6 ey_6 ly_6 uy_6 => ?_)
    refine r_ic_ge 16 dH_isGuest_9 (by decide) ⟨by omega, by omega⟩ ⟨by omega, by omega⟩ (fun c_9 => ?_) (fun c_9 => ?_)
    · refine r_iconst dH_isGuest_16 ?_
      refine r_zret rfl (by omega) dH_isGuest_17 ⟨_, rfl, ?_⟩
      exact ⟨rfl, by omega⟩
    · refine r_iconst dH_isGuest_12 ?_
      refine r_goto 17 dH_isGuest_13 (by decide) ?_
      refine r_zret rfl (by omega) dH_isGuest_17 ⟨_, rfl, ?_⟩
      exact ⟨rfl, by omega⟩

set_option maxRecDepth 20000 in
set_option maxHeartbeats 4000000 in
theorem cH_isDoing (w : zW) (d : Int) (hd : zin d) : zC mH_isDoing 0 [zR 1, zI d] w (zrI fun a w' => w = w' ∧ ((0 ≤ d ∧ d < w.1 1 2 ∧ w.1 1 2 ≤ 4 ∧ a = 1) ∨ ((d < 0 ∨ w.1 1 2 ≤ d) ∧ a = 0))) := by
  refine zC.of (by decide +kernel) (Nat.le_of_ble_eq_true rfl) ?_
  show zM mH_isDoing (zZm 0 _) 0 [(0, zR 1), (1, zI d)] [] w
  refine r_iload_n 1 1 dH_isDoing_0 rfl rfl ?_
  refine r_if_lt 16 dH_isDoing_1 (by decide) ⟨by omega, by omega⟩ (fun c_1 => ?_) (fun c_1 => ?_)
  · refine r_iconst dH_isDoing_16 ?_
    refine r_zret rfl (by omega) dH_isDoing_17 ⟨_, rfl, ?_⟩
    exact ⟨rfl, by omega⟩
  · refine r_iload_n 1 1 dH_isDoing_4 rfl rfl ?_
    refine r_aload_n 0 0 dH_isDoing_5 rfl rfl ?_
    refine r_getI (k := 2) fX0 rfl rfl (by decide) kw_31 rfl 2 rfl dH_isDoing_6 rfl (fun y_6 ey_6 ly_6 uy_6 => ?_)
    refine r_ic_ge 16 dH_isDoing_9 (by decide) ⟨by omega, by omega⟩ ⟨by omega, by omega⟩ (fun c_9 => ?_) (fun c_9 => ?_)
    · refine r_iconst dH_isDoing_16 ?_
      refine r_zret rfl (by omega) dH_isDoing_17 ⟨_, rfl, ?_⟩
      exact ⟨rfl, by omega⟩
    · refine r_iconst dH_isDoing_12 ?_
      refine r_goto 17 dH_isDoing_13 (by decide) ?_
      refine r_zret rfl (by omega) dH_isDoing_17 ⟨_, rfl, ?_⟩
      exact ⟨rfl, by omega⟩

set_option maxRecDepth 20000 in
set_option maxHeartbeats 4000000 in
theorem cH_kindOf (w : zW) (x : Int) (hx : zin x) : zC mH_kindOf 0 [zI x] w (zrI fun a w' => w = w' ∧ a = (if x = 112 then 2 else if x = 99 then 1 else 0)) := by
  refine zC.of (by decide +kernel) (Nat.le_of_ble_eq_true rfl) ?_
  show zM mH_kindOf (zZm 0 _) 0 [(0, zI x)] [] w
  refine r_iload_n 0 0 dH_kindOf_0 rfl rfl ?_
  rcases (by omega : (x = 99) ∨ (x = 112) ∨ (¬ x = 99 ∧ ¬ x = 112)) with c_1 | c_1 | c_1
  · refine r_lookup 30 dH_kindOf_1 ⟨by omega, by omega⟩ (by decide +kernel) (by rw [c_1] <;> rfl) (by decide) ?_
    refine r_iconst dH_kindOf_30 ?_
    refine r_iret rfl dH_kindOf_31 ⟨_, rfl, ?_⟩
    exact ⟨rfl, by (repeat' split) <;> omega⟩
  · refine r_lookup 28 dH_kindOf_1 ⟨by omega, by omega⟩ (by decide +kernel) (by rw [c_1] <;> rfl) (by decide) ?_
    refine r_iconst dH_kindOf_28 ?_
    refine r_iret rfl dH_kindOf_29 ⟨_, rfl, ?_⟩
    exact ⟨rfl, by (repeat' split) <;> omega⟩
  · refine r_lookup 32 dH_kindOf_1 ⟨by omega, by omega⟩ (by decide +kernel) (off := 31) (by rw [show (#[(99, 29), (112, 27)] : Array (Int × Int)).toList = [(99, 29), (112, 27)] from rfl, Op.lookupswitch.offset_cons, if_neg (by omega), Op.lookupswitch.offset_cons, if_neg (by omega)]; rfl) (by decide) ?_
    refine r_iconst dH_kindOf_32 ?_
    refine r_iret rfl dH_kindOf_33 ⟨_, rfl, ?_⟩
    exact ⟨rfl, by (repeat' split) <;> omega⟩

set_option maxRecDepth 20000 in
set_option maxHeartbeats 4000000 in
theorem cH_pleasure (w : zW) (g : Int) (d : Int) (hg0 : 0 ≤ g) (hg1 : g < 6) (hd0 : 0 ≤ d) (hd1 : d < 4) : zC mH_pleasure 0 [zR 1, zI g, zI d] w (zrI fun a w' => w = w' ∧ a = zPC w g d ∧ 0 ≤ a ∧ a ≤ 21) := by
  refine zC.of (by decide +kernel) (Nat.le_of_ble_eq_true rfl) ?_
  show zM mH_pleasure (zZm 0 _) 0 [(0, zR 1), (1, zI g), (2, zI d)] [] w
  refine r_aload_n 0 0 dH_pleasure_0 rfl rfl ?_
  refine r_getR (k := 8) (b := 11) fX0 rfl rfl rfl (by decide) kw_46 rfl dH_pleasure_1 ?_
  refine r_iload_n 1 1 dH_pleasure_4 rfl rfl ?_
  refine r_iaload rfl (by decide) dH_pleasure_5 (by omega) (by omega) rfl (fun y_5 ey_5 ly_5 uy_5 => ?_)
  refine r_iload_n 2 2 dH_pleasure_6 rfl rfl ?_
  have J_15 : ∀ (b : Int) (hb : (y_5 = d ∧ b = 1) ∨ (¬ y_5 = d ∧ b = 0)), zM mH_pleasure (zZm 0 (zrI fun a w' => w = w' ∧ a = zPC w g d ∧ 0 ≤ a ∧ a ≤ 21)) 15 [(0, zR 1), (1, zI g), (2, zI d)] [zI b] w := by
    intro b hb
    refine r_istore_n (ls' := [(3, zI b), (0, zR 1), (1, zI g), (2, zI d)]) 3 dH_pleasure_15 rfl (by decide) rfl ?_
    refine r_aload_n 0 1 dH_pleasure_16 rfl rfl ?_
    refine r_getR (k := 4) (b := 7) fX0 rfl rfl rfl (by decide) kw_36 rfl dH_pleasure_17 ?_
    refine r_iload_n 2 3 dH_pleasure_20 rfl rfl ?_
    refine r_iaload rfl (by decide) dH_pleasure_21 (by omega) (by omega) rfl (fun y_21 ey_21 ly_21 uy_21 => ?_)
    refine r_aload_n 0 1 dH_pleasure_22 rfl rfl ?_
    refine r_getR (k := 7) (b := 10) fX0 rfl rfl rfl (by decide) kw_44 rfl dH_pleasure_23 ?_
    refine r_iload_n 1 2 dH_pleasure_26 rfl rfl ?_
    refine r_iaload rfl (by decide) dH_pleasure_27 (by omega) (by omega) rfl (fun y_27 ey_27 ly_27 uy_27 => ?_)
    refine r_iadd dH_pleasure_28 ?_
    refine r_iload_n 3 0 dH_pleasure_29 rfl rfl ?_
    have J_38 : ∀ (t : Int) (ht : (b = 0 ∧ t = 0) ∨ (b = 1 ∧ t = 3)), zM mH_pleasure (zZm 0 (zrI fun a w' => w = w' ∧ a = zPC w g d ∧ 0 ≤ a ∧ a ≤ 21)) 38 [(3, zI b), (0, zR 1), (1, zI g), (2, zI d)] [zI t, zI (y_21 + y_27)] w := by
      intro t ht
      refine r_iadd dH_pleasure_38 ?_
      refine r_nmI (fun x_39 ex_39 => ?_)
      refine r_istore (ls' := [(4, zI x_39), (3, zI b), (0, zR 1), (1, zI g), (2, zI d)]) 4 dH_pleasure_39 (by decide) rfl ?_
      refine r_aload_n 0 2 dH_pleasure_41 rfl rfl ?_
      refine r_getR (k := 6) (b := 9) fX0 rfl rfl rfl (by decide) kw_42 rfl dH_pleasure_42 ?_
      refine r_iload_n 1 3 dH_pleasure_45 rfl rfl ?_
      refine r_iaload rfl (by decide) dH_pleasure_46 (by omega) (by omega) rfl (fun y_46 ey_46 ly_46 uy_46 => ?_)
      rcases (by omega : (y_46 = 1) ∨ (y_46 = 2) ∨ (¬ y_46 = 1 ∧ ¬ y_46 = 2)) with c_47 | c_47 | c_47
      · refine r_lookup 87 dH_pleasure_47 ⟨by omega, by omega⟩ (by decide +kernel) (by rw [c_47] <;> rfl) (by decide) ?_
        refine r_iload 4 0 dH_pleasure_87 rfl ?_
        refine r_iconst dH_pleasure_89 ?_
        refine r_idiv dH_pleasure_90 ⟨by omega, by omega⟩ (by omega) ⟨by omega, by omega⟩ (by omega) ?_
        refine r_iret rfl dH_pleasure_91 ⟨_, rfl, ?_⟩
        exact ⟨rfl, by unfold zPC zPl; (repeat' split) <;> omega, by omega, by omega⟩
      · refine r_lookup 72 dH_pleasure_47 ⟨by omega, by omega⟩ (by decide +kernel) (by rw [c_47] <;> rfl) (by decide) ?_
        refine r_iload_n 3 1 dH_pleasure_72 rfl rfl ?_
        refine r_if_eq 85 dH_pleasure_73 (by decide) ⟨by omega, by omega⟩ (fun c_73 => ?_) (fun c_73 => ?_)
        · refine r_iconst dH_pleasure_85 ?_
          refine r_iret rfl dH_pleasure_86 ⟨_, rfl, ?_⟩
          exact ⟨rfl, by unfold zPC zPl; (repeat' split) <;> omega, by omega, by omega⟩
        · refine r_iload 4 0 dH_pleasure_76 rfl ?_
          refine r_iconst dH_pleasure_78 ?_
          refine r_idiv dH_pleasure_79 ⟨by omega, by omega⟩ (by omega) ⟨by omega, by omega⟩ (by omega) ?_
          refine r_iconst dH_pleasure_80 ?_
          refine r_iadd dH_pleasure_81 ?_
          refine r_goto 86 dH_pleasure_82 (by decide) ?_
          refine r_iret rfl dH_pleasure_86 ⟨_, rfl, ?_⟩
          exact ⟨rfl, by unfold zPC zPl; (repeat' split) <;> omega, by omega, by omega⟩
      · refine r_lookup 92 dH_pleasure_47 ⟨by omega, by omega⟩ (by decide +kernel) (off := 45) (by rw [show (#[(1, 40), (2, 25)] : Array (Int × Int)).toList = [(1, 40), (2, 25)] from rfl, Op.lookupswitch.offset_cons, if_neg (by omega), Op.lookupswitch.offset_cons, if_neg (by omega)]; rfl) (by decide) ?_
        refine r_iload 4 0 dH_pleasure_92 rfl ?_
        refine r_iret rfl dH_pleasure_94 ⟨_, rfl, ?_⟩
        exact ⟨rfl, by unfold zPC zPl; (repeat' split) <;> omega, by omega, by omega⟩
    refine r_if_eq 37 dH_pleasure_30 (by decide) ⟨by omega, by omega⟩ (fun c_30 => ?_) (fun c_30 => ?_)
    · refine r_iconst dH_pleasure_37 ?_
      exact J_38 0 (by omega)
    · refine r_iconst dH_pleasure_33 ?_
      refine r_goto 38 dH_pleasure_34 (by decide) ?_
      exact J_38 3 (by omega)
  refine r_ic_ne 14 dH_pleasure_7 (by decide) ⟨by omega, by omega⟩ ⟨by omega, by omega⟩ (fun c_7 => ?_) (fun c_7 => ?_)
  · refine r_iconst dH_pleasure_14 ?_
    exact J_15 0 (by omega)
  · refine r_iconst dH_pleasure_10 ?_
    refine r_goto 15 dH_pleasure_11 (by decide) ?_
    exact J_15 1 (by omega)

set_option maxRecDepth 20000 in
set_option maxHeartbeats 4000000 in
theorem cH_isWon (w : zW) (g : Int) (d : Int) (hg0 : 0 ≤ g) (hg1 : g < 6) (hd0 : 0 ≤ d) (hd1 : d < 4) : zC mH_isWon 1 [zR 1, zI g, zI d] w (zrI fun a w' => w = w' ∧ ((w.1 1 1 ≤ zPC w g d ∧ a = 1) ∨ (zPC w g d < w.1 1 1 ∧ a = 0))) := by
  refine zC.of (by decide +kernel) (Nat.le_of_ble_eq_true rfl) ?_
  show zM mH_isWon (zZm 1 _) 0 [(0, zR 1), (1, zI g), (2, zI d)] [] w
  refine r_aload_n 0 0 dH_isWon_0 rfl rfl ?_
  refine r_iload_n 1 1 dH_isWon_1 rfl rfl ?_
  refine r_iload_n 2 2 dH_isWon_2 rfl rfl ?_
  refine r_cVI (cH_pleasure w g d (by omega) (by omega) (by omega) (by omega)) qH_pleasure rfl kw_286 rfl rfl dH_isWon_3 (st0 := [zI d, zI g, zR 1]) (st := []) rfl ⟨Nat.le_of_ble_eq_true rfl, Nat.le_of_ble_eq_true rfl⟩ ⟨Nat.le_of_ble_eq_true rfl, Nat.le_of_ble_eq_true rfl⟩ (Nat.le_of_ble_eq_true rfl) (fun a_3 w_3 h_3 ok_3 => ?_)
  obtain ⟨rfl, h_3⟩ := h_3
  refine r_aload_n 0 0 dH_isWon_6 rfl rfl ?_
  refine r_getI (k := 1) fX0 rfl rfl (by decide) kw_28 rfl 1 rfl dH_isWon_7 rfl (fun y_7 ey_7 ly_7 uy_7 => ?_)
  refine r_ic_lt 17 dH_isWon_10 (by decide) ⟨by omega, by omega⟩ ⟨by omega, by omega⟩ (fun c_10 => ?_) (fun c_10 => ?_)
  · refine r_iconst dH_isWon_17 ?_
    refine r_zret rfl (by omega) dH_isWon_18 ⟨_, rfl, ?_⟩
    exact ⟨rfl, by omega⟩
  · refine r_iconst dH_isWon_13 ?_
    refine r_goto 18 dH_isWon_14 (by decide) ?_
    refine r_zret rfl (by omega) dH_isWon_18 ⟨_, rfl, ?_⟩
    exact ⟨rfl, by omega⟩

set_option maxRecDepth 20000 in
set_option maxHeartbeats 4000000 in
theorem cH_wonBy (w : zW) (d : Int) (hd0 : 0 ≤ d) (hd1 : d < 4) : zC mH_wonBy 2 [zR 1, zI d] w (zrI fun a w' => w = w' ∧ a = zWC w d) := by
  refine zC.of (by decide +kernel) (Nat.le_of_ble_eq_true rfl) ?_
  show zM mH_wonBy (zZm 2 _) 0 [(0, zR 1), (1, zI d)] [] w
  refine r_ok (fun hO => ?_)
  refine r_iconst dH_wonBy_0 ?_
  refine r_istore_n (ls' := [(2, zI 0), (0, zR 1), (1, zI d)]) 2 dH_wonBy_1 rfl (by decide) rfl ?_
  refine r_iconst dH_wonBy_2 ?_
  refine r_istore_n (ls' := [(3, zI 0), (2, zI 0), (0, zR 1), (1, zI d)]) 3 dH_wonBy_3 rfl (by decide) rfl ?_
  have L_4 : ∀ (n_4 : Nat) (set : Int) (i : Int) (hi : 0 ≤ i) (hi2 : i ≤ w.1 1 3) (hs : set = zSet (fun g => decide (w.1 1 1 ≤ zPC w g d)) i.toNat), w.1 1 3 - i < (n_4 : Int) → zM mH_wonBy (zZm 2 (zrI fun a w' => w = w' ∧ a = zWC w d)) 4 [(3, zI i), (2, zI set), (0, zR 1), (1, zI d)] [] w := by
    intro n_4
    induction n_4 with
    | zero => intro set i hi hi2 hs hm_4; exfalso; omega
    | succ n_4 ih_4 =>
      intro set i hi hi2 hs hm_4
      refine r_iload_n 3 0 dH_wonBy_4 rfl rfl ?_
      refine r_aload_n 0 2 dH_wonBy_5 rfl rfl ?_
      refine r_getI (k := 3) fX0 rfl rfl (by decide) kw_33 rfl 3 rfl dH_wonBy_6 rfl (fun y_6 ey_6 ly_6 uy_6 => ?_)
      refine r_ic_ge 33 dH_wonBy_9 (by decide) ⟨by omega, by omega⟩ ⟨by omega, by omega⟩ (fun c_9 => ?_) (fun c_9 => ?_)
      · refine r_iload_n 2 1 dH_wonBy_33 rfl rfl ?_
        refine r_iret rfl dH_wonBy_34 ⟨_, rfl, ?_⟩
        exact ⟨rfl, by rw [hs]; unfold zWC; congr 2; omega⟩
      · refine r_aload_n 0 2 dH_wonBy_12 rfl rfl ?_
        refine r_iload_n 3 0 dH_wonBy_13 rfl rfl ?_
        refine r_iload_n 1 3 dH_wonBy_14 rfl rfl ?_
        refine r_cVI (cH_isWon w i d (by omega) (by omega) (by omega) (by omega)) qH_isWon rfl kw_282 rfl rfl dH_wonBy_15 (st0 := [zI d, zI i, zR 1]) (st := []) rfl ⟨Nat.le_of_ble_eq_true rfl, Nat.le_of_ble_eq_true rfl⟩ ⟨Nat.le_of_ble_eq_true rfl, Nat.le_of_ble_eq_true rfl⟩ (Nat.le_of_ble_eq_true rfl) (fun a_15 w_15 h_15 ok_15 => ?_)
        obtain ⟨rfl, h_15⟩ := h_15
        refine r_if_eq 27 dH_wonBy_18 (by decide) ⟨by omega, by omega⟩ (fun c_18 => ?_) (fun c_18 => ?_)
        · refine r_iinc (ls' := [(3, zI (i + 1)), (2, zI set), (0, zR 1), (1, zI d)]) 3 0 dH_wonBy_27 rfl (by decide) rfl ?_
          refine r_goto 4 dH_wonBy_30 (by decide) ?_
          exact ih_4 set (i + 1) (by omega) (by omega) (by rw [zSet_s _ hi]; first | (rw [if_pos (by simpa using (by omega : w.1 1 1 ≤ zPC w i d))]; rw [← hs]; assumption) | (rw [if_neg (by simpa using (by omega : zPC w i d < w.1 1 1))]; exact hs)) (by omega)
        · refine r_iload_n 2 1 dH_wonBy_21 rfl rfl ?_
          refine r_iconst dH_wonBy_22 ?_
          refine r_iload_n 3 0 dH_wonBy_23 rfl rfl ?_
          refine r_ishl dH_wonBy_24 ?_
          refine r_ior dH_wonBy_25 ?_
          refine r_nmI (fun x_26 ex_26 => ?_)
          refine r_istore_n (ls' := [(2, zI x_26), (3, zI i), (0, zR 1), (1, zI d)]) 2 dH_wonBy_26 rfl (by decide) rfl ?_
          refine r_iinc (ls' := [(3, zI (i + 1)), (2, zI x_26), (0, zR 1), (1, zI d)]) 3 1 dH_wonBy_27 rfl (by decide) rfl ?_
          refine r_goto 4 dH_wonBy_30 (by decide) ?_
          exact ih_4 x_26 (i + 1) (by omega) (by omega) (by rw [zSet_s _ hi]; first | (rw [if_pos (by simpa using (by omega : w.1 1 1 ≤ zPC w i d))]; rw [← hs]; assumption) | (rw [if_neg (by simpa using (by omega : zPC w i d < w.1 1 1))]; exact hs)) (by omega)
  exact L_4 100 0 0 (by omega) (by have := hO 1 3; exact this.1) (zSet_0 _).symm (by have := (hO 1 3).2; change w.1 1 3 ≤ 6 at this; omega)
