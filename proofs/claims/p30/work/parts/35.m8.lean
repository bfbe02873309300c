set_option maxRecDepth 20000 in
set_option maxHeartbeats 4000000 in
theorem cM_ask (w : zW) (set : Int) (zset : zin set) : zC mM_ask 3 [zR 33, zI set] w (zrI fun a w' => w = w' ∧ a = (if w.1 33 6 = 0 then -3 else if set < 0 ∨ zshl 1 (w.1 33 6) ≤ set then -2 else (zAsk (fun d => ziand set (zWMo w d)) (fun d => w.1 35 d) 99 (w.1 33 3).toNat).1)) := by
  refine zC.of (by decide +kernel) (Nat.le_of_ble_eq_true rfl) ?_
  show zM mM_ask (zZm 3 _) 0 [(0, zR 33), (1, zI set)] [] w
  refine r_ok (fun hO => ?_)
  have hDs := hO 33 3
  change 0 ≤ w.1 33 3 ∧ w.1 33 3 ≤ 4 at hDs
  have hG := hO 33 6
  change 0 ≤ w.1 33 6 ∧ w.1 33 6 ≤ 6 at hG
  have hsh := zshl1_in hG.1 hG.2
  refine r_aload_n 0 0 dM_ask_0 rfl rfl ?_
  refine r_getI (k := 6) fX7 rfl rfl (by decide) kw_511 rfl 6 rfl dM_ask_1 rfl (fun y_1 ey_1 ly_1 uy_1 => ?_)
  refine r_if_ne 10 dM_ask_4 (by decide) ⟨by omega, by omega⟩ (fun c_4 => ?_) (fun c_4 => ?_)
  · refine r_iload_n 1 1 dM_ask_10 rfl rfl ?_
    refine r_i2l dM_ask_11 ⟨by omega, by omega⟩ ?_
    refine r_lconst (v := 0) dM_ask_12 rfl ?_
    refine r_aload_n 0 0 dM_ask_13 rfl rfl ?_
    refine r_cVI (cM_everybody w) qM_everybody rfl kw_735 rfl rfl dM_ask_14 (st0 := [zR 33, zJ 0, zJ set]) (st := [zJ 0, zJ set]) rfl ⟨Nat.le_of_ble_eq_true rfl, Nat.le_of_ble_eq_true rfl⟩ ⟨Nat.le_of_ble_eq_true rfl, Nat.le_of_ble_eq_true rfl⟩ (Nat.le_of_ble_eq_true rfl) (fun a_14 w_14 h_14 ok_14 => ?_)
    obtain ⟨rfl, h_14⟩ := h_14
    refine r_i2l dM_ask_17 ⟨by omega, by omega⟩ ?_
    refine r_cSI (cM_in w set 0 a_14 (by omega) (by omega) (by omega)) qM_in rfl kw_628 dM_ask_18 (st0 := [zJ a_14, zJ 0, zJ set]) (st := []) rfl ⟨Nat.le_of_ble_eq_true rfl, Nat.le_of_ble_eq_true rfl⟩ ⟨Nat.le_of_ble_eq_true rfl, Nat.le_of_ble_eq_true rfl⟩ (Nat.le_of_ble_eq_true rfl) (fun a_18 w_18 h_18 ok_18 => ?_)
    obtain ⟨rfl, h_18⟩ := h_18
    skip
    refine r_if_ne 27 dM_ask_21 (by decide) ⟨by omega, by omega⟩ (fun c_21 => ?_) (fun c_21 => ?_)
    · refine r_bipush dM_ask_27 (by decide) ?_
      refine r_istore_n (ls' := [(2, zI (-9)), (0, zR 33), (1, zI set)]) 2 dM_ask_29 rfl (by decide) rfl ?_
      refine r_bipush dM_ask_30 (by decide) ?_
      refine r_istore_n (ls' := [(3, zI 99), (2, zI (-9)), (0, zR 33), (1, zI set)]) 3 dM_ask_32 rfl (by decide) rfl ?_
      refine r_iconst dM_ask_33 ?_
      refine r_istore (ls' := [(4, zI 0), (3, zI 99), (2, zI (-9)), (0, zR 33), (1, zI set)]) 4 dM_ask_34 (by decide) rfl ?_
      have L_36 : ∀ (n_36 : Nat) (best : Int) (least : Int) (i : Int) (hi0 : 0 ≤ i) (hi1 : i ≤ w.1 33 3) (hl : 0 ≤ least ∧ least ≤ 99) (hz : zAsk (fun d => ziand set (zWMo w d)) (fun d => w.1 35 d) 99 i.toNat = (best, least)), w.1 33 3 - i < (n_36 : Int) → zM mM_ask (zZm 3 (zrI fun a w' => w = w' ∧ a = (if w.1 33 6 = 0 then -3 else if set < 0 ∨ zshl 1 (w.1 33 6) ≤ set then -2 else (zAsk (fun d => ziand set (zWMo w d)) (fun d => w.1 35 d) 99 (w.1 33 3).toNat).1))) 36 [(4, zI i), (3, zI least), (2, zI best), (0, zR 33), (1, zI set)] [] w := by
        intro n_36
        induction n_36 with
        | zero => intro best least i hi0 hi1 hl hz hm_36; exfalso; omega
        | succ n_36 ih_36 =>
          intro best least i hi0 hi1 hl hz hm_36
          refine r_iload 4 0 dM_ask_36 rfl ?_
          refine r_aload_n 0 3 dM_ask_38 rfl rfl ?_
          refine r_getI (k := 3) fX7 rfl rfl (by decide) kw_508 rfl 3 rfl dM_ask_39 rfl (fun y_39 ey_39 ly_39 uy_39 => ?_)
          refine r_ic_ge 142 dM_ask_42 (by decide) ⟨by omega, by omega⟩ ⟨by omega, by omega⟩ (fun c_42 => ?_) (fun c_42 => ?_)
          · refine r_iload_n 2 2 dM_ask_142 rfl rfl ?_
            refine r_iret rfl dM_ask_143 ⟨_, rfl, ?_⟩
            exact ⟨rfl, by rw [if_neg (by omega), if_neg (by omega), show (w.1 33 3).toNat = i.toNat by omega, hz]⟩
          · refine r_iconst dM_ask_45 ?_
            refine r_istore (ls' := [(5, zI 0), (4, zI i), (3, zI least), (2, zI best), (0, zR 33), (1, zI set)]) 5 dM_ask_46 (by decide) rfl ?_
            have L_48 : ∀ (n_48 : Nat) (bs : Int) (ls : Int) (g : Int) (hg0 : 0 ≤ g) (hg1 : g ≤ w.1 33 6) (hl2 : 0 ≤ ls ∧ ls ≤ 99) (hin : zInn (fun g => ziand (zshr set g) 1 = 1 ∧ w.1 33 2 ≤ zPM w g i) (w.1 35 i) i best least g bs ls), w.1 33 6 - g < (n_48 : Int) → zM mM_ask (zZm 3 (zrI fun a w' => w = w' ∧ a = (if w.1 33 6 = 0 then -3 else if set < 0 ∨ zshl 1 (w.1 33 6) ≤ set then -2 else (zAsk (fun d => ziand set (zWMo w d)) (fun d => w.1 35 d) 99 (w.1 33 3).toNat).1))) 48 [(5, zI g), (4, zI i), (3, zI ls), (2, zI bs), (0, zR 33), (1, zI set)] [] w := by
              intro n_48
              induction n_48 with
              | zero => intro bs ls g hg0 hg1 hl2 hin hm_48; exfalso; omega
              | succ n_48 ih_48 =>
                intro bs ls g hg0 hg1 hl2 hin hm_48
                refine r_iload 5 0 dM_ask_48 rfl ?_
                refine r_aload_n 0 4 dM_ask_50 rfl rfl ?_
                refine r_getI (k := 6) fX7 rfl rfl (by decide) kw_511 rfl 6 rfl dM_ask_51 rfl (fun y_51 ey_51 ly_51 uy_51 => ?_)
                refine r_ic_ge 136 dM_ask_54 (by decide) ⟨by omega, by omega⟩ ⟨by omega, by omega⟩ (fun c_54 => ?_) (fun c_54 => ?_)
                · refine r_iinc (ls' := [(4, zI (i + 1)), (5, zI g), (3, zI ls), (2, zI bs), (0, zR 33), (1, zI set)]) 4 1 dM_ask_136 rfl (by decide) rfl ?_
                  refine r_goto 36 dM_ask_139 (by decide) ?_
                  refine r_sub (ls' := [(4, zI (i + 1)), (3, zI ls), (2, zI bs), (0, zR 33), (1, zI set)]) [0, 2, 3, 4, 5] rfl ?_
                  exact ih_36 bs ls (i + 1) (by omega) (by omega) (by omega) (by rw [zAsk_s _ _ _ hi0, hz]; have hq := zInn.fin (w := w) (set := set) (cost := w.1 35 i) (i := i) (best := best) (least := least) (bs := bs) (ls := ls) hG (by omega) (by omega) (by rw [show w.1 33 6 = g by omega]; exact hin); exact hq.symm) (by omega)
                · refine r_iload_n 1 5 dM_ask_57 rfl rfl ?_
                  refine r_iload 5 0 dM_ask_58 rfl ?_
                  refine r_cSI (cM_isIn w set g) qM_isIn rfl kw_739 dM_ask_60 (st0 := [zI g, zI set]) (st := []) rfl ⟨Nat.le_of_ble_eq_true rfl, Nat.le_of_ble_eq_true rfl⟩ ⟨Nat.le_of_ble_eq_true rfl, Nat.le_of_ble_eq_true rfl⟩ (Nat.le_of_ble_eq_true rfl) (fun a_60 w_60 h_60 ok_60 => ?_)
                  obtain ⟨rfl, h_60⟩ := h_60
                  have J_93 : ∀ (t : Int) (ht : (((ziand (zshr set g) 1 = 1 ∧ w.1 33 2 ≤ zPM w g i) ∧ w.1 35 i < ls) ∧ t = 1) ∨ (¬ ((ziand (zshr set g) 1 = 1 ∧ w.1 33 2 ≤ zPM w g i) ∧ w.1 35 i < ls) ∧ t = 0)), zM mM_ask (zZm 3 (zrI fun a w' => w = w' ∧ a = (if w.1 33 6 = 0 then -3 else if set < 0 ∨ zshl 1 (w.1 33 6) ≤ set then -2 else (zAsk (fun d => ziand set (zWMo w d)) (fun d => w.1 35 d) 99 (w.1 33 3).toNat).1))) 93 [(5, zI g), (4, zI i), (3, zI ls), (2, zI bs), (0, zR 33), (1, zI set)] [zI t] w := by
                    intro t ht
                    refine r_istore (ls' := [(6, zI t), (5, zI g), (4, zI i), (3, zI ls), (2, zI bs), (0, zR 33), (1, zI set)]) 6 dM_ask_93 (by decide) rfl ?_
                    refine r_iload 6 0 dM_ask_95 rfl ?_
                    have J_112 : ∀ (nb : Int) (hnb : (t = 1 ∧ nb = 10 * g + i) ∨ (t = 0 ∧ nb = bs)), zM mM_ask (zZm 3 (zrI fun a w' => w = w' ∧ a = (if w.1 33 6 = 0 then -3 else if set < 0 ∨ zshl 1 (w.1 33 6) ≤ set then -2 else (zAsk (fun d => ziand set (zWMo w d)) (fun d => w.1 35 d) 99 (w.1 33 3).toNat).1))) 112 [(6, zI t), (5, zI g), (4, zI i), (3, zI ls), (2, zI bs), (0, zR 33), (1, zI set)] [zI nb] w := by
                      intro nb hnb
                      refine r_istore_n (ls' := [(2, zI nb), (6, zI t), (5, zI g), (4, zI i), (3, zI ls), (0, zR 33), (1, zI set)]) 2 dM_ask_112 rfl (by decide) rfl ?_
                      refine r_iload 6 1 dM_ask_113 rfl ?_
                      have J_129 : ∀ (nl : Int) (hnl : (t = 1 ∧ nl = w.1 35 i) ∨ (t = 0 ∧ nl = ls)) (hnl2 : 0 ≤ nl ∧ nl ≤ 99), zM mM_ask (zZm 3 (zrI fun a w' => w = w' ∧ a = (if w.1 33 6 = 0 then -3 else if set < 0 ∨ zshl 1 (w.1 33 6) ≤ set then -2 else (zAsk (fun d => ziand set (zWMo w d)) (fun d => w.1 35 d) 99 (w.1 33 3).toNat).1))) 129 [(2, zI nb), (6, zI t), (5, zI g), (4, zI i), (3, zI ls), (0, zR 33), (1, zI set)] [zI nl] w := by
                        intro nl hnl hnl2
                        refine r_istore_n (ls' := [(3, zI nl), (2, zI nb), (6, zI t), (5, zI g), (4, zI i), (0, zR 33), (1, zI set)]) 3 dM_ask_129 rfl (by decide) rfl ?_
                        refine r_iinc (ls' := [(5, zI (g + 1)), (3, zI nl), (2, zI nb), (6, zI t), (4, zI i), (0, zR 33), (1, zI set)]) 5 3 dM_ask_130 rfl (by decide) rfl ?_
                        refine r_goto 48 dM_ask_133 (by decide) ?_
                        refine r_sub (ls' := [(5, zI (g + 1)), (4, zI i), (3, zI nl), (2, zI nb), (0, zR 33), (1, zI set)]) [0, 4, 1, 2, 5, 6] rfl ?_
                        exact ih_48 nb nl (g + 1) (by omega) (by omega) (by omega) (hin.step hg0 (by show (((ziand (zshr set g) 1 = 1 ∧ w.1 33 2 ≤ zPM w g i) ∧ w.1 35 i < ls) ∧ _) ∨ (¬ ((ziand (zshr set g) 1 = 1 ∧ w.1 33 2 ≤ zPM w g i) ∧ w.1 35 i < ls) ∧ _); omega)) (by omega)
                      refine r_if_eq 128 dM_ask_115 (by decide) ⟨by omega, by omega⟩ (fun c_115 => ?_) (fun c_115 => ?_)
                      · refine r_iload_n 3 4 dM_ask_128 rfl rfl ?_
                        exact J_129 ls (by omega) (by omega)
                      · refine r_aload_n 0 5 dM_ask_118 rfl rfl ?_
                        refine r_getR (k := 5) (b := 35) fX7 rfl rfl rfl (by decide) kw_510 rfl dM_ask_119 ?_
                        refine r_iload 4 3 dM_ask_122 rfl ?_
                        refine r_iaload rfl (by decide) dM_ask_124 (by omega) (by omega) rfl (fun y_124 ey_124 ly_124 uy_124 => ?_)
                        refine r_goto 129 dM_ask_125 (by decide) ?_
                        exact J_129 y_124 (by omega) (by omega)
                    refine r_if_eq 111 dM_ask_97 (by decide) ⟨by omega, by omega⟩ (fun c_97 => ?_) (fun c_97 => ?_)
                    · refine r_iload_n 2 4 dM_ask_111 rfl rfl ?_
                      exact J_112 bs (by omega)
                    · refine r_bipush dM_ask_100 (by decide) ?_
                      refine r_iload 5 1 dM_ask_102 rfl ?_
                      refine r_imul dM_ask_104 ?_
                      refine r_iload 4 2 dM_ask_105 rfl ?_
                      refine r_iadd dM_ask_107 ?_
                      refine r_goto 112 dM_ask_108 (by decide) ?_
                      exact J_112 ((10 * g) + i) (by omega)
                  refine r_if_eq 92 dM_ask_63 (by decide) ⟨by omega, by omega⟩ (fun c_63 => ?_) (fun c_63 => ?_)
                  · refine r_iconst dM_ask_92 ?_
                    exact J_93 0 (by omega)
                  · refine r_aload_n 0 4 dM_ask_66 rfl rfl ?_
                    refine r_iload 5 0 dM_ask_67 rfl ?_
                    refine r_iload 4 1 dM_ask_69 rfl ?_
                    refine r_cVI (cM_doesLose w g i (by omega) (by omega) (by omega) (by omega)) qM_doesLose rfl kw_687 rfl rfl dM_ask_71 (st0 := [zI i, zI g, zR 33]) (st := []) rfl ⟨Nat.le_of_ble_eq_true rfl, Nat.le_of_ble_eq_true rfl⟩ ⟨Nat.le_of_ble_eq_true rfl, Nat.le_of_ble_eq_true rfl⟩ (Nat.le_of_ble_eq_true rfl) (fun a_71 w_71 h_71 ok_71 => ?_)
                    obtain ⟨rfl, h_71⟩ := h_71
                    refine r_if_eq 92 dM_ask_74 (by decide) ⟨by omega, by omega⟩ (fun c_74 => ?_) (fun c_74 => ?_)
                    · refine r_iconst dM_ask_92 ?_
                      exact J_93 0 (by omega)
                    · refine r_aload_n 0 4 dM_ask_77 rfl rfl ?_
                      refine r_getR (k := 5) (b := 35) fX7 rfl rfl rfl (by decide) kw_510 rfl dM_ask_78 ?_
                      refine r_iload 4 1 dM_ask_81 rfl ?_
                      refine r_iaload rfl (by decide) dM_ask_83 (by omega) (by omega) rfl (fun y_83 ey_83 ly_83 uy_83 => ?_)
                      refine r_iload_n 3 2 dM_ask_84 rfl rfl ?_
                      refine r_ic_ge 92 dM_ask_85 (by decide) ⟨by omega, by omega⟩ ⟨by omega, by omega⟩ (fun c_85 => ?_) (fun c_85 => ?_)
                      · refine r_iconst dM_ask_92 ?_
                        exact J_93 0 (by omega)
                      · refine r_iconst dM_ask_88 ?_
                        refine r_goto 93 dM_ask_89 (by decide) ?_
                        exact J_93 1 (by omega)
            exact L_48 7 best least 0 (by omega) (by omega) (by omega) (Or.inl ⟨Or.inr (fun j j0 j1 => absurd j1 (by omega)), rfl, rfl⟩) (by omega)
      exact L_36 7 (-9) 99 0 (by omega) (by omega) (by omega) rfl (by omega)
    · refine r_bipush dM_ask_24 (by decide) ?_
      refine r_iret rfl dM_ask_26 ⟨_, rfl, ?_⟩
      exact ⟨rfl, by rw [if_neg (by omega), if_pos (by omega)]⟩
  · refine r_bipush dM_ask_7 (by decide) ?_
    refine r_iret rfl dM_ask_9 ⟨_, rfl, ?_⟩
    exact ⟨rfl, by rw [if_pos (by omega)]⟩

set_option maxRecDepth 20000 in
set_option maxHeartbeats 4000000 in
theorem cM_layRow (w : zW) (code : Int) (hc0 : 0 ≤ code) (hc1 : code ≤ 4096) (hgd : w.1 33 6 = 0 ∨ 1 ≤ w.1 33 3) : zC mM_layRow 2 [zR 33, zI code] w (zrV fun w' => (∀ i k, ¬ (i = 33 ∧ 26 ≤ k ∧ k ≤ 28) → i ≠ 44 → w'.1 i k = w.1 i k)) := by
  refine zC.of (by decide +kernel) (Nat.le_of_ble_eq_true rfl) ?_
  show zM mM_layRow (zZm 2 _) 0 [(0, zR 33), (1, zI code)] [] w
  refine r_ok (fun hO => ?_)
  have hDs := hO 33 3
  change 0 ≤ w.1 33 3 ∧ w.1 33 3 ≤ 4 at hDs
  have hG := hO 33 6
  change 0 ≤ w.1 33 6 ∧ w.1 33 6 ≤ 6 at hG
  refine r_iload_n 1 1 dM_layRow_0 rfl rfl ?_
  refine r_istore_n (ls' := [(2, zI code), (0, zR 33), (1, zI code)]) 2 dM_layRow_1 rfl (by decide) rfl ?_
  refine r_aload_n 0 1 dM_layRow_2 rfl rfl ?_
  refine r_iconst dM_layRow_3 ?_
  refine r_putI (k := 26) fX7 rfl rfl (by decide) kw_531 rfl rfl (by decide +kernel) 26 rfl dM_layRow_4 rfl (by omega) (by omega) (fun w_4 ew_4 => ?_)
  refine r_aload_n 0 1 dM_layRow_7 rfl rfl ?_
  refine r_iconst dM_layRow_8 ?_
  refine r_putI (k := 27) fX7 rfl rfl (by decide) kw_532 rfl rfl (by decide +kernel) 27 rfl dM_layRow_9 rfl (by omega) (by omega) (fun w_9 ew_9 => ?_)
  refine r_aload_n 0 1 dM_layRow_12 rfl rfl ?_
  refine r_iconst dM_layRow_13 ?_
  refine r_putI (k := 28) fX7 rfl rfl (by decide) kw_533 rfl rfl (by decide +kernel) 28 rfl dM_layRow_14 rfl (by omega) (by omega) (fun w_14 ew_14 => ?_)
  refine r_aload_n 0 1 dM_layRow_17 rfl rfl ?_
  refine r_getI (k := 6) fX7 rfl rfl (by decide) kw_511 rfl 6 rfl dM_layRow_18 rfl (fun y_18 ey_18 ly_18 uy_18 => ?_)
  rw [ew_14, zput_k (k := 28) (k' := 6) _ _ (by decide)] at ey_18
  rw [ew_9, zput_k (k := 27) (k' := 6) _ _ (by decide)] at ey_18
  rw [ew_4, zput_k (k := 26) (k' := 6) _ _ (by decide)] at ey_18
  refine r_iconst dM_layRow_21 ?_
  refine r_isub dM_layRow_22 ?_
  refine r_nmI (fun x_23 ex_23 => ?_)
  refine r_istore_n (ls' := [(3, zI x_23), (2, zI code), (0, zR 33), (1, zI code)]) 3 dM_layRow_23 rfl (by decide) rfl ?_
  have L_24 : ∀ (n_24 : Nat) (r : Int) (g : Int) (wl : zW) (hr0 : 0 ≤ r) (hr1 : r ≤ 4096) (hg0 : -1 ≤ g) (hg1 : g < w.1 33 6) (hb : 0 ≤ wl.1 33 26 ∧ wl.1 33 26 ≤ 3 * (w.1 33 6 - 1 - (g)) ∧ 0 ≤ wl.1 33 27 ∧ wl.1 33 27 ≤ w.1 33 6 - 1 - (g) ∧ 0 ≤ wl.1 33 28 ∧ wl.1 33 28 ≤ 21 * (w.1 33 6 - 1 - (g))) (hw : (∀ i k, ¬ (i = 33 ∧ 26 ≤ k ∧ k ≤ 28) → i ≠ 44 → wl.1 i k = w.1 i k)), g + 1 < (n_24 : Int) → zM mM_layRow (zZm 2 (zrV fun w' => (∀ i k, ¬ (i = 33 ∧ 26 ≤ k ∧ k ≤ 28) → i ≠ 44 → w'.1 i k = w.1 i k))) 24 [(3, zI g), (2, zI r), (0, zR 33), (1, zI code)] [] wl := by
    intro n_24
    induction n_24 with
    | zero => intro r g wl hr0 hr1 hg0 hg1 hb hw hm_24; exfalso; omega
    | succ n_24 ih_24 =>
      intro r g wl hr0 hr1 hg0 hg1 hb hw hm_24
      have g3 : wl.1 33 3 = w.1 33 3 := hw 33 3 (by omega) (by omega)
      have hm9 : ∀ y : Int, 0 < y → 0 ≤ r % y ∧ r % y < y ∧ 0 ≤ r / y ∧ r / y ≤ r := fun y hy => ⟨Int.emod_nonneg _ (by omega), Int.emod_lt_of_pos _ hy, Int.ediv_nonneg hr0 (by omega), Int.ediv_le_self y hr0⟩
      refine r_iload_n 3 0 dM_layRow_24 rfl rfl ?_
      refine r_if_lt 113 dM_layRow_25 (by decide) ⟨by omega, by omega⟩ (fun c_25 => ?_) (fun c_25 => ?_)
      · refine r_vret rfl dM_layRow_113 ⟨rfl, ?_⟩
        exact hw
      · refine r_iload_n 2 1 dM_layRow_28 rfl rfl ?_
        refine r_aload_n 0 2 dM_layRow_29 rfl rfl ?_
        refine r_getI (k := 3) fX7 rfl rfl (by decide) kw_508 rfl 3 rfl dM_layRow_30 rfl (fun y_30 ey_30 ly_30 uy_30 => ?_)
        have hm30 := hm9 y_30 (by omega)
        refine r_irem dM_layRow_33 ⟨by omega, by omega⟩ (by omega) ⟨by omega, by omega⟩ (by omega) ?_
        refine r_nmI (fun x_34 ex_34 => ?_)
        refine r_istore (ls' := [(4, zI x_34), (3, zI g), (2, zI r), (0, zR 33), (1, zI code)]) 4 dM_layRow_34 (by decide) rfl ?_
        refine r_iload_n 2 2 dM_layRow_36 rfl rfl ?_
        refine r_aload_n 0 3 dM_layRow_37 rfl rfl ?_
        refine r_getI (k := 3) fX7 rfl rfl (by decide) kw_508 rfl 3 rfl dM_layRow_38 rfl (fun y_38 ey_38 ly_38 uy_38 => ?_)
        have hm38 := hm9 y_38 (by omega)
        refine r_idiv dM_layRow_41 ⟨by omega, by omega⟩ (by omega) ⟨by omega, by omega⟩ (by omega) ?_
        refine r_nmI (fun x_42 ex_42 => ?_)
        refine r_istore_n (ls' := [(2, zI x_42), (4, zI x_34), (3, zI g), (0, zR 33), (1, zI code)]) 2 dM_layRow_42 rfl (by decide) rfl ?_
        refine r_aload_n 0 3 dM_layRow_43 rfl rfl ?_
        refine r_getR (k := 25) (b := 44) fX7 rfl rfl rfl (by decide) kw_530 rfl dM_layRow_44 ?_
        refine r_iload_n 3 2 dM_layRow_47 rfl rfl ?_
        refine r_iload 4 1 dM_layRow_48 rfl ?_
        refine r_iastore rfl (by decide) dM_layRow_50 (by omega) (by omega) rfl (by omega) (by omega) (fun w_50 ew_50 => ?_)
        refine r_aload_n 0 3 dM_layRow_51 rfl rfl ?_
        refine r_dup dM_layRow_52 rfl ?_
        refine r_getI (k := 26) fX7 rfl rfl (by decide) kw_531 rfl 26 rfl dM_layRow_53 rfl (fun y_53 ey_53 ly_53 uy_53 => ?_)
        rw [ew_50, zput_i (i := 44) (i' := 33) _ _ _ _ (by decide)] at ey_53
        refine r_aload_n 0 3 dM_layRow_56 rfl rfl ?_
        refine r_getR (k := 5) (b := 35) fX7 rfl rfl rfl (by decide) kw_510 rfl dM_layRow_57 ?_
        refine r_iload 4 1 dM_layRow_60 rfl ?_
        refine r_iaload rfl (by decide) dM_layRow_62 (by omega) (by omega) rfl (fun y_62 ey_62 ly_62 uy_62 => ?_)
        rw [ew_50, zput_i (i := 44) (i' := 35) _ _ _ _ (by decide)] at ey_62
        refine r_iadd dM_layRow_63 ?_
        refine r_putI (k := 26) fX7 rfl rfl (by decide) kw_531 rfl rfl (by decide +kernel) 26 rfl dM_layRow_64 rfl (by omega) (by omega) (fun w_64 ew_64 => ?_)
        refine r_aload_n 0 3 dM_layRow_67 rfl rfl ?_
        refine r_dup dM_layRow_68 rfl ?_
        refine r_getI (k := 27) fX7 rfl rfl (by decide) kw_532 rfl 27 rfl dM_layRow_69 rfl (fun y_69 ey_69 ly_69 uy_69 => ?_)
        rw [ew_64, zput_k (k := 26) (k' := 27) _ _ (by decide)] at ey_69
        rw [ew_50, zput_i (i := 44) (i' := 33) _ _ _ _ (by decide)] at ey_69
        refine r_aload_n 0 3 dM_layRow_72 rfl rfl ?_
        refine r_iload_n 3 2 dM_layRow_73 rfl rfl ?_
        refine r_iload 4 1 dM_layRow_74 rfl ?_
        refine r_cVI (cM_doesLose w_64 g x_34 (by omega) (by omega) (by omega) (by omega)) qM_doesLose rfl kw_687 rfl rfl dM_layRow_76 (st0 := [zI x_34, zI g, zR 33, zI y_69, zR 33]) (st := [zI y_69, zR 33]) rfl ⟨Nat.le_of_ble_eq_true rfl, Nat.le_of_ble_eq_true rfl⟩ ⟨Nat.le_of_ble_eq_true rfl, Nat.le_of_ble_eq_true rfl⟩ (Nat.le_of_ble_eq_true rfl) (fun a_76 w_76 h_76 ok_76 => ?_)
        obtain ⟨rfl, h_76⟩ := h_76
        have z_76_0 : w_64.1 33 2 = wl.1 33 2 := by rw [ew_64, zput_k (k := 26) (k' := 2) _ _ (by decide), ew_50, zput_i (i := 44) (i' := 33) _ _ _ _ (by decide)]
        have z_76_1 : zPM w_64 g x_34 = zPM wl g x_34 := by rw [ew_64, zPM_put (i := 33) (by decide), ew_50, zPM_put (i := 44) (by decide)]
        have J_87 : ∀ (t : Int) (ht : t = 0 ∨ t = 1), zM mM_layRow (zZm 2 (zrV fun w' => (∀ i k, ¬ (i = 33 ∧ 26 ≤ k ∧ k ≤ 28) → i ≠ 44 → w'.1 i k = w.1 i k))) 87 [(2, zI x_42), (4, zI x_34), (3, zI g), (0, zR 33), (1, zI code)] [zI t, zI y_69, zR 33] w_64 := by
          intro t ht
          refine r_iadd dM_layRow_87 ?_
          refine r_putI (k := 27) fX7 rfl rfl (by decide) kw_532 rfl rfl (by decide +kernel) 27 rfl dM_layRow_88 rfl (by omega) (by omega) (fun w_88 ew_88 => ?_)
          refine r_aload_n 0 3 dM_layRow_91 rfl rfl ?_
          refine r_dup dM_layRow_92 rfl ?_
          refine r_getI (k := 28) fX7 rfl rfl (by decide) kw_533 rfl 28 rfl dM_layRow_93 rfl (fun y_93 ey_93 ly_93 uy_93 => ?_)
          rw [ew_88, zput_k (k := 27) (k' := 28) _ _ (by decide)] at ey_93
          rw [ew_64, zput_k (k := 26) (k' := 28) _ _ (by decide)] at ey_93
          rw [ew_50, zput_i (i := 44) (i' := 33) _ _ _ _ (by decide)] at ey_93
          refine r_aload_n 0 3 dM_layRow_96 rfl rfl ?_
          refine r_iload_n 3 2 dM_layRow_97 rfl rfl ?_
          refine r_iload 4 1 dM_layRow_98 rfl ?_
          refine r_cVI (cM_pleasedBy w_88 g x_34 (by omega) (by omega) (by omega) (by omega)) qM_pleasedBy rfl kw_691 rfl rfl dM_layRow_100 (st0 := [zI x_34, zI g, zR 33, zI y_93, zR 33]) (st := [zI y_93, zR 33]) rfl ⟨Nat.le_of_ble_eq_true rfl, Nat.le_of_ble_eq_true rfl⟩ ⟨Nat.le_of_ble_eq_true rfl, Nat.le_of_ble_eq_true rfl⟩ (Nat.le_of_ble_eq_true rfl) (fun a_100 w_100 h_100 ok_100 => ?_)
          obtain ⟨rfl, h_100⟩ := h_100
          have z_100_0 : zPM w_88 g x_34 = zPM wl g x_34 := by rw [ew_88, zPM_put (i := 33) (by decide), ew_64, zPM_put (i := 33) (by decide), ew_50, zPM_put (i := 44) (by decide)]
          refine r_iadd dM_layRow_103 ?_
          refine r_putI (k := 28) fX7 rfl rfl (by decide) kw_533 rfl rfl (by decide +kernel) 28 rfl dM_layRow_104 rfl (by omega) (by omega) (fun w_104 ew_104 => ?_)
          refine r_iinc (ls' := [(3, zI (g + (-1))), (2, zI x_42), (4, zI x_34), (0, zR 33), (1, zI code)]) 3 2 dM_layRow_107 rfl (by decide) rfl ?_
          refine r_goto 24 dM_layRow_110 (by decide) ?_
          refine r_sub (ls' := [(3, zI (g + (-1))), (2, zI x_42), (0, zR 33), (1, zI code)]) [0, 1, 3, 4] rfl ?_
          exact ih_24 x_42 (g + (-1)) w_104 (by omega) (by omega) (by omega) (by omega) (by rw [show w_104.1 33 26 = y_53 + y_62 by rw [ew_104, zput_k _ _ (by decide), ew_88, zput_k _ _ (by decide), ew_64, zput_s], show w_104.1 33 27 = y_69 + t by rw [ew_104, zput_k _ _ (by decide), ew_88, zput_s], show w_104.1 33 28 = y_93 + a_100 by rw [ew_104, zput_s]]; omega) (fun i' k' q1 q2 => by rw [ew_104, zput_e, if_neg (by omega), ew_88, zput_e, if_neg (by omega), ew_64, zput_e, if_neg (by omega), ew_50, zput_i _ _ _ _ q2]; exact hw i' k' q1 q2) (by omega)
        refine r_if_eq 86 dM_layRow_79 (by decide) ⟨by omega, by omega⟩ (fun c_79 => ?_) (fun c_79 => ?_)
        · refine r_iconst dM_layRow_86 ?_
          exact J_87 0 (by omega)
        · refine r_iconst dM_layRow_82 ?_
          refine r_goto 87 dM_layRow_83 (by decide) ?_
          exact J_87 1 (by omega)
  exact L_24 7 code x_23 w_14 (by omega) (by omega) (by omega) (by omega) (by rw [show w_14.1 33 26 = 0 by rw [ew_14, zput_k _ _ (by decide), ew_9, zput_k _ _ (by decide), ew_4, zput_s], show w_14.1 33 27 = 0 by rw [ew_14, zput_k _ _ (by decide), ew_9, zput_s], show w_14.1 33 28 = 0 by rw [ew_14, zput_s]]; omega) (fun i' k' q1 q2 => by rw [ew_14, zput_e, if_neg (by omega), ew_9, zput_e, if_neg (by omega), ew_4, zput_e, if_neg (by omega)]) (by omega)

set_option maxRecDepth 20000 in
set_option maxHeartbeats 4000000 in
theorem cM_fewest (w : zW) (g : Int) (zg : zin g) (hgd : w.1 33 6 = 0 ∨ 1 ≤ w.1 33 3) : zC mM_fewest 3 [zR 33, zI g] w (zrI fun a w' => zEq w w' ∧ ((g < -1 ∧ a = -1) ∨ (-1 ≤ g ∧ w.1 33 6 = 0 ∧ a = -3) ∨ (-1 ≤ g ∧ 0 < w.1 33 6))) := by
  refine zC.of (by decide +kernel) (Nat.le_of_ble_eq_true rfl) ?_
  show zM mM_fewest (zZm 3 _) 0 [(0, zR 33), (1, zI g)] [] w
  refine r_ok (fun hO => ?_)
  have hDs := hO 33 3
  change 0 ≤ w.1 33 3 ∧ w.1 33 3 ≤ 4 at hDs
  have hG := hO 33 6
  change 0 ≤ w.1 33 6 ∧ w.1 33 6 ≤ 6 at hG
  refine r_iload_n 1 1 dM_fewest_0 rfl rfl ?_
  refine r_iconst dM_fewest_1 ?_
  refine r_ic_ge 7 dM_fewest_2 (by decide) ⟨by omega, by omega⟩ ⟨by omega, by omega⟩ (fun c_2 => ?_) (fun c_2 => ?_)
  · refine r_aload_n 0 0 dM_fewest_7 rfl rfl ?_
    refine r_getI (k := 6) fX7 rfl rfl (by decide) kw_511 rfl 6 rfl dM_fewest_8 rfl (fun y_8 ey_8 ly_8 uy_8 => ?_)
    refine r_if_ne 17 dM_fewest_11 (by decide) ⟨by omega, by omega⟩ (fun c_11 => ?_) (fun c_11 => ?_)
    · refine r_iconst dM_fewest_17 ?_
      refine r_istore_n (ls' := [(2, zI 1), (0, zR 33), (1, zI g)]) 2 dM_fewest_18 rfl (by decide) rfl ?_
      refine r_iconst dM_fewest_19 ?_
      refine r_istore_n (ls' := [(3, zI 0), (2, zI 1), (0, zR 33), (1, zI g)]) 3 dM_fewest_20 rfl (by decide) rfl ?_
      have L_21 : ∀ (n_21 : Nat) (p : Int) (x : Int) (hx0 : 0 ≤ x) (hx1 : x ≤ w.1 33 6) (hp0 : 0 ≤ p) (hp1 : p ≤ zp4 x), w.1 33 6 - x < (n_21 : Int) → zM mM_fewest (zZm 3 (zrI fun a w' => zEq w w' ∧ ((g < -1 ∧ a = -1) ∨ (-1 ≤ g ∧ w.1 33 6 = 0 ∧ a = -3) ∨ (-1 ≤ g ∧ 0 < w.1 33 6)))) 21 [(3, zI x), (2, zI p), (0, zR 33), (1, zI g)] [] w := by
        intro n_21
        induction n_21 with
        | zero => intro p x hx0 hx1 hp0 hp1 hm_21; exfalso; omega
        | succ n_21 ih_21 =>
          intro p x hx0 hx1 hp0 hp1 hm_21
          have hp4 := zp4_in hx0 (by omega : x ≤ 6)
          have hps : x < 6 → _ := fun q => zp4_s hx0 q hp0 hp1 hDs.1 hDs.2
          refine r_iload_n 3 0 dM_fewest_21 rfl rfl ?_
          refine r_aload_n 0 2 dM_fewest_22 rfl rfl ?_
          refine r_getI (k := 6) fX7 rfl rfl (by decide) kw_511 rfl 6 rfl dM_fewest_23 rfl (fun y_23 ey_23 ly_23 uy_23 => ?_)
          refine r_ic_ge 42 dM_fewest_26 (by decide) ⟨by omega, by omega⟩ ⟨by omega, by omega⟩ (fun c_26 => ?_) (fun c_26 => ?_)
          · refine r_bipush dM_fewest_42 (by decide) ?_
            refine r_istore_n (ls' := [(3, zI (-9)), (2, zI p), (0, zR 33), (1, zI g)]) 3 dM_fewest_44 rfl (by decide) rfl ?_
            refine r_iconst dM_fewest_45 ?_
            refine r_istore (ls' := [(4, zI 0), (3, zI (-9)), (2, zI p), (0, zR 33), (1, zI g)]) 4 dM_fewest_46 (by decide) rfl ?_
            refine r_iconst dM_fewest_48 ?_
            refine r_istore (ls' := [(5, zI 0), (4, zI 0), (3, zI (-9)), (2, zI p), (0, zR 33), (1, zI g)]) 5 dM_fewest_49 (by decide) rfl ?_
            refine r_iconst dM_fewest_51 ?_
            refine r_istore (ls' := [(6, zI 0), (5, zI 0), (4, zI 0), (3, zI (-9)), (2, zI p), (0, zR 33), (1, zI g)]) 6 dM_fewest_52 (by decide) rfl ?_
            have L_54 : ∀ (n_54 : Nat) (best : Int) (lost : Int) (pls : Int) (c : Int) (wl : zW) (hc0 : 0 ≤ c) (hc1 : c ≤ p) (hb0 : -9 ≤ best) (hb1 : best ≤ 4096) (hl : 0 ≤ lost ∧ lost ≤ 6) (hpl : 0 ≤ pls ∧ pls ≤ 200) (hw : (∀ i k, ¬ (i = 33 ∧ 26 ≤ k ∧ k ≤ 28) → i ≠ 44 → wl.1 i k = w.1 i k)), p - c < (n_54 : Int) → zM mM_fewest (zZm 3 (zrI fun a w' => zEq w w' ∧ ((g < -1 ∧ a = -1) ∨ (-1 ≤ g ∧ w.1 33 6 = 0 ∧ a = -3) ∨ (-1 ≤ g ∧ 0 < w.1 33 6)))) 54 [(6, zI c), (5, zI pls), (4, zI lost), (3, zI best), (2, zI p), (0, zR 33), (1, zI g)] [] wl := by
              intro n_54
              induction n_54 with
              | zero => intro best lost pls c wl hc0 hc1 hb0 hb1 hl hpl hw hm_54; exfalso; omega
              | succ n_54 ih_54 =>
                intro best lost pls c wl hc0 hc1 hb0 hb1 hl hpl hw hm_54
                have g3 : wl.1 33 3 = w.1 33 3 := hw 33 3 (by omega) (by omega)
                have g6 : wl.1 33 6 = w.1 33 6 := hw 33 6 (by omega) (by omega)
                refine r_iload 6 0 dM_fewest_54 rfl ?_
                refine r_iload_n 2 4 dM_fewest_56 rfl rfl ?_
                refine r_ic_ge 139 dM_fewest_57 (by decide) ⟨by omega, by omega⟩ ⟨by omega, by omega⟩ (fun c_57 => ?_) (fun c_57 => ?_)
                · refine r_iload_n 3 3 dM_fewest_139 rfl rfl ?_
                  refine r_if_lt 151 dM_fewest_140 (by decide) ⟨by omega, by omega⟩ (fun c_140 => ?_) (fun c_140 => ?_)
                  · refine r_bipush dM_fewest_151 (by decide) ?_
                    refine r_iret rfl dM_fewest_153 ⟨_, rfl, ?_⟩
                    exact ⟨zkF hw, by omega⟩
                  · refine r_iload_n 1 6 dM_fewest_143 rfl rfl ?_
                    refine r_aload_n 0 5 dM_fewest_144 rfl rfl ?_
                    refine r_getI (k := 6) fX7 rfl rfl (by decide) kw_511 rfl 6 rfl dM_fewest_145 rfl (fun y_145 ey_145 ly_145 uy_145 => ?_)
                    refine r_ic_lt 154 dM_fewest_148 (by decide) ⟨by omega, by omega⟩ ⟨by omega, by omega⟩ (fun c_148 => ?_) (fun c_148 => ?_)
                    · refine r_aload_n 0 5 dM_fewest_154 rfl rfl ?_
                      refine r_iload_n 3 3 dM_fewest_155 rfl rfl ?_
                      refine r_cVV (cM_layRow wl best (by omega) (by omega) (by omega)) qM_layRow rfl kw_750 rfl rfl dM_fewest_156 (st0 := [zI best, zR 33]) (st := []) rfl ⟨Nat.le_of_ble_eq_true rfl, Nat.le_of_ble_eq_true rfl⟩ ⟨Nat.le_of_ble_eq_true rfl, Nat.le_of_ble_eq_true rfl⟩ (Nat.le_of_ble_eq_true rfl) (fun w_156 h_156 ok_156 => ?_)
                      refine r_iload_n 1 6 dM_fewest_159 rfl rfl ?_
                      refine r_if_ge 170 dM_fewest_160 (by decide) ⟨by omega, by omega⟩ (fun c_160 => ?_) (fun c_160 => ?_)
                      · refine r_aload_n 0 5 dM_fewest_170 rfl rfl ?_
                        refine r_getR (k := 25) (b := 44) fX7 rfl rfl rfl (by decide) kw_530 rfl dM_fewest_171 ?_
                        refine r_iload_n 1 6 dM_fewest_174 rfl rfl ?_
                        refine r_iaload rfl (by decide) dM_fewest_175 (by omega) (by omega) rfl (fun y_175 ey_175 ly_175 uy_175 => ?_)
                        refine r_iret rfl dM_fewest_176 ⟨_, rfl, ?_⟩
                        exact ⟨zkF (fun i' k' q1 q2 => by rw [h_156 i' k' q1 q2]; exact hw i' k' q1 q2), by omega⟩
                      · refine r_aload_n 0 5 dM_fewest_163 rfl rfl ?_
                        refine r_getI (k := 27) fX7 rfl rfl (by decide) kw_532 rfl 27 rfl dM_fewest_164 rfl (fun y_164 ey_164 ly_164 uy_164 => ?_)
                        refine r_goto 176 dM_fewest_167 (by decide) ?_
                        refine r_iret rfl dM_fewest_176 ⟨_, rfl, ?_⟩
                        exact ⟨zkF (fun i' k' q1 q2 => by rw [h_156 i' k' q1 q2]; exact hw i' k' q1 q2), by omega⟩
                    · refine r_bipush dM_fewest_151 (by decide) ?_
                      refine r_iret rfl dM_fewest_153 ⟨_, rfl, ?_⟩
                      exact ⟨zkF hw, by omega⟩
                · refine r_aload_n 0 5 dM_fewest_60 rfl rfl ?_
                  refine r_iload 6 0 dM_fewest_61 rfl ?_
                  refine r_cVV (cM_layRow wl c (by omega) (by omega) (by omega)) qM_layRow rfl kw_750 rfl rfl dM_fewest_63 (st0 := [zI c, zR 33]) (st := []) rfl ⟨Nat.le_of_ble_eq_true rfl, Nat.le_of_ble_eq_true rfl⟩ ⟨Nat.le_of_ble_eq_true rfl, Nat.le_of_ble_eq_true rfl⟩ (Nat.le_of_ble_eq_true rfl) (fun w_63 h_63 ok_63 => ?_)
                  refine r_iload_n 3 3 dM_fewest_66 rfl rfl ?_
                  have J_102 : ∀ (b : Int) (hb : b = 0 ∨ b = 1), zM mM_fewest (zZm 3 (zrI fun a w' => zEq w w' ∧ ((g < -1 ∧ a = -1) ∨ (-1 ≤ g ∧ w.1 33 6 = 0 ∧ a = -3) ∨ (-1 ≤ g ∧ 0 < w.1 33 6)))) 102 [(6, zI c), (5, zI pls), (4, zI lost), (3, zI best), (2, zI p), (0, zR 33), (1, zI g)] [zI b] w_63 := by
                    intro b hb
                    refine r_istore (ls' := [(7, zI b), (6, zI c), (5, zI pls), (4, zI lost), (3, zI best), (2, zI p), (0, zR 33), (1, zI g)]) 7 dM_fewest_102 (by decide) rfl ?_
                    refine r_aload_n 0 6 dM_fewest_104 rfl rfl ?_
                    refine r_getI (k := 26) fX7 rfl rfl (by decide) kw_531 rfl 26 rfl dM_fewest_105 rfl (fun y_105 ey_105 ly_105 uy_105 => ?_)
                    refine r_bipush dM_fewest_108 (by decide) ?_
                    refine r_ic_gt 133 dM_fewest_110 (by decide) ⟨by omega, by omega⟩ ⟨by omega, by omega⟩ (fun c_110 => ?_) (fun c_110 => ?_)
                    · refine r_iinc (ls' := [(6, zI (c + 1)), (7, zI b), (5, zI pls), (4, zI lost), (3, zI best), (2, zI p), (0, zR 33), (1, zI g)]) 6 1 dM_fewest_133 rfl (by decide) rfl ?_
                      refine r_goto 54 dM_fewest_136 (by decide) ?_
                      refine r_sub (ls' := [(6, zI (c + 1)), (5, zI pls), (4, zI lost), (3, zI best), (2, zI p), (0, zR 33), (1, zI g)]) [0, 2, 3, 4, 5, 6, 7] rfl ?_
                      exact ih_54 best lost pls (c + 1) w_63 (by omega) (by omega) (by omega) (by omega) (by omega) (by omega) (fun i' k' q1 q2 => by rw [h_63 i' k' q1 q2]; exact hw i' k' q1 q2) (by omega)
                    · refine r_iload 7 0 dM_fewest_113 rfl ?_
                      refine r_if_eq 133 dM_fewest_115 (by decide) ⟨by omega, by omega⟩ (fun c_115 => ?_) (fun c_115 => ?_)
                      · refine r_iinc (ls' := [(6, zI (c + 1)), (7, zI b), (5, zI pls), (4, zI lost), (3, zI best), (2, zI p), (0, zR 33), (1, zI g)]) 6 1 dM_fewest_133 rfl (by decide) rfl ?_
                        refine r_goto 54 dM_fewest_136 (by decide) ?_
                        refine r_sub (ls' := [(6, zI (c + 1)), (5, zI pls), (4, zI lost), (3, zI best), (2, zI p), (0, zR 33), (1, zI g)]) [0, 2, 3, 4, 5, 6, 7] rfl ?_
                        exact ih_54 best lost pls (c + 1) w_63 (by omega) (by omega) (by omega) (by omega) (by omega) (by omega) (fun i' k' q1 q2 => by rw [h_63 i' k' q1 q2]; exact hw i' k' q1 q2) (by omega)
                      · refine r_iload 6 1 dM_fewest_118 rfl ?_
                        refine r_istore_n (ls' := [(3, zI c), (7, zI b), (6, zI c), (5, zI pls), (4, zI lost), (2, zI p), (0, zR 33), (1, zI g)]) 3 dM_fewest_120 rfl (by decide) rfl ?_
                        refine r_aload_n 0 6 dM_fewest_121 rfl rfl ?_
                        refine r_getI (k := 27) fX7 rfl rfl (by decide) kw_532 rfl 27 rfl dM_fewest_122 rfl (fun y_122 ey_122 ly_122 uy_122 => ?_)
                        refine r_istore (ls' := [(4, zI y_122), (3, zI c), (7, zI b), (6, zI c), (5, zI pls), (2, zI p), (0, zR 33), (1, zI g)]) 4 dM_fewest_125 (by decide) rfl ?_
                        refine r_aload_n 0 6 dM_fewest_127 rfl rfl ?_
                        refine r_getI (k := 28) fX7 rfl rfl (by decide) kw_533 rfl 28 rfl dM_fewest_128 rfl (fun y_128 ey_128 ly_128 uy_128 => ?_)
                        refine r_istore (ls' := [(5, zI y_128), (4, zI y_122), (3, zI c), (7, zI b), (6, zI c), (2, zI p), (0, zR 33), (1, zI g)]) 5 dM_fewest_131 (by decide) rfl ?_
                        refine r_iinc (ls' := [(6, zI (c + 1)), (5, zI y_128), (4, zI y_122), (3, zI c), (7, zI b), (2, zI p), (0, zR 33), (1, zI g)]) 6 4 dM_fewest_133 rfl (by decide) rfl ?_
                        refine r_goto 54 dM_fewest_136 (by decide) ?_
                        refine r_sub (ls' := [(6, zI (c + 1)), (5, zI y_128), (4, zI y_122), (3, zI c), (2, zI p), (0, zR 33), (1, zI g)]) [0, 1, 2, 3, 5, 6, 7] rfl ?_
                        exact ih_54 c y_122 y_128 (c + 1) w_63 (by omega) (by omega) (by omega) (by omega) (by omega) (by omega) (fun i' k' q1 q2 => by rw [h_63 i' k' q1 q2]; exact hw i' k' q1 q2) (by omega)
                  refine r_if_lt 97 dM_fewest_67 (by decide) ⟨by omega, by omega⟩ (fun c_67 => ?_) (fun c_67 => ?_)
                  · refine r_iconst dM_fewest_97 ?_
                    refine r_goto 102 dM_fewest_98 (by decide) ?_
                    exact J_102 1 (by omega)
                  · refine r_aload_n 0 5 dM_fewest_70 rfl rfl ?_
                    refine r_getI (k := 27) fX7 rfl rfl (by decide) kw_532 rfl 27 rfl dM_fewest_71 rfl (fun y_71 ey_71 ly_71 uy_71 => ?_)
                    refine r_iload 4 2 dM_fewest_74 rfl ?_
                    refine r_ic_lt 97 dM_fewest_76 (by decide) ⟨by omega, by omega⟩ ⟨by omega, by omega⟩ (fun c_76 => ?_) (fun c_76 => ?_)
                    · refine r_iconst dM_fewest_97 ?_
                      refine r_goto 102 dM_fewest_98 (by decide) ?_
                      exact J_102 1 (by omega)
                    · refine r_aload_n 0 5 dM_fewest_79 rfl rfl ?_
                      refine r_getI (k := 27) fX7 rfl rfl (by decide) kw_532 rfl 27 rfl dM_fewest_80 rfl (fun y_80 ey_80 ly_80 uy_80 => ?_)
                      refine r_iload 4 2 dM_fewest_83 rfl ?_
                      refine r_ic_ne 101 dM_fewest_85 (by decide) ⟨by omega, by omega⟩ ⟨by omega, by omega⟩ (fun c_85 => ?_) (fun c_85 => ?_)
                      · refine r_iconst dM_fewest_101 ?_
                        exact J_102 0 (by omega)
                      · refine r_aload_n 0 5 dM_fewest_88 rfl rfl ?_
                        refine r_getI (k := 28) fX7 rfl rfl (by decide) kw_533 rfl 28 rfl dM_fewest_89 rfl (fun y_89 ey_89 ly_89 uy_89 => ?_)
                        refine r_iload 5 1 dM_fewest_92 rfl ?_
                        refine r_ic_le 101 dM_fewest_94 (by decide) ⟨by omega, by omega⟩ ⟨by omega, by omega⟩ (fun c_94 => ?_) (fun c_94 => ?_)
                        · refine r_iconst dM_fewest_101 ?_
                          exact J_102 0 (by omega)
                        · refine r_iconst dM_fewest_97 ?_
                          refine r_goto 102 dM_fewest_98 (by decide) ?_
                          exact J_102 1 (by omega)
            exact L_54 4097 (-9) 0 0 0 w (by omega) (by omega) (by omega) (by omega) (by omega) (by omega) (fun _ _ _ _ => rfl) (by omega)
          · refine r_iload_n 2 1 dM_fewest_29 rfl rfl ?_
            refine r_aload_n 0 2 dM_fewest_30 rfl rfl ?_
            refine r_getI (k := 3) fX7 rfl rfl (by decide) kw_508 rfl 3 rfl dM_fewest_31 rfl (fun y_31 ey_31 ly_31 uy_31 => ?_)
            refine r_imul dM_fewest_34 ?_
            refine r_nmI (fun x_35 ex_35 => ?_)
            refine r_istore_n (ls' := [(2, zI x_35), (3, zI x), (0, zR 33), (1, zI g)]) 2 dM_fewest_35 rfl (by decide) rfl ?_
            refine r_iinc (ls' := [(3, zI (x + 1)), (2, zI x_35), (0, zR 33), (1, zI g)]) 3 1 dM_fewest_36 rfl (by decide) rfl ?_
            refine r_goto 21 dM_fewest_39 (by decide) ?_
            exact ih_21 x_35 (x + 1) (by omega) (by omega) (by rw [ex_35, show y_31 = w.1 33 3 by omega]; exact (hps (by omega)).1) (by rw [ex_35, show y_31 = w.1 33 3 by omega]; exact (hps (by omega)).2) (by omega)
      exact L_21 7 1 0 (by omega) (by omega) (by omega) (by decide) (by omega)
    · refine r_bipush dM_fewest_14 (by decide) ?_
      refine r_iret rfl dM_fewest_16 ⟨_, rfl, ?_⟩
      exact ⟨zEq.refl w, by omega⟩
  · refine r_iconst dM_fewest_5 ?_
    refine r_iret rfl dM_fewest_6 ⟨_, rfl, ?_⟩
    exact ⟨zEq.refl w, by omega⟩
