set_option maxRecDepth 20000 in
set_option maxHeartbeats 4000000 in
theorem cM_season (w : zW) (g : Int) (k : Int) (lane : Int) (i : Int) (n : Int) (what : Int) (zg : zin g) (zk : zin k) (zlane : zin lane) (zi : zin i) (zn : zin n) (zwhat : zin what) : zC mM_season 4 [zR 33, zI g, zI k, zI lane, zI i, zI n, zI what] w (zrI fun a w' => a = (if g < 0 ∨ w.1 33 6 ≤ g ∨ k < 0 ∨ 4 ≤ k then -1 else if lane < 0 ∨ 2 < lane ∨ n < 0 ∨ 20 < n ∨ what < 0 ∨ 4 < what then -2 else if ¬ fPairs (w.1 33 6) (w.1 33 3) (w.1 48 k) (w.1 49 k) lane i n (fun j => w.1 50 (60 * k + i + j)) = 0 then fPairs (w.1 33 6) (w.1 33 3) (w.1 48 k) (w.1 49 k) lane i n (fun j => w.1 50 (60 * k + i + j)) else if what = 1 then (zSeaM w (60 * k + i) g n.toNat).2.1 else if ¬ (zSeaM w (60 * k + i) g n.toNat).2.1 = -9 then -100 - (zSeaM w (60 * k + i) g n.toNat).2.1 else if what = 0 then (zSeaM w (60 * k + i) g n.toNat).1 else if what = 2 then (zSeaM w (60 * k + i) g n.toNat).2.2.1 else if what = 3 then (zSeaM w (60 * k + i) g n.toNat).2.2.2.1 else (zSeaM w (60 * k + i) g n.toNat).2.2.2.2) ∧ zEq w w') := by
  refine zC.of (by decide +kernel) (Nat.le_of_ble_eq_true rfl) ?_
  show zM mM_season (zZm 4 _) 0 [(0, zR 33), (1, zI g), (2, zI k), (3, zI lane), (4, zI i), (5, zI n), (6, zI what)] [] w
  refine r_ok (fun hO => ?_)
  have hL := hO 48 k
  change -1 ≤ w.1 48 k ∧ w.1 48 k ≤ 60 at hL
  have hG := hO 33 6
  change 0 ≤ w.1 33 6 ∧ w.1 33 6 ≤ 6 at hG
  have hDs := hO 33 3
  change 0 ≤ w.1 33 3 ∧ w.1 33 3 ≤ 4 at hDs
  have hSt := hO 33 1
  change 0 ≤ w.1 33 1 ∧ w.1 33 1 ≤ 5 at hSt
  refine r_aload_n 0 0 dM_season_0 rfl rfl ?_
  refine r_iload_n 1 1 dM_season_1 rfl rfl ?_
  refine r_cVI (cM_noGuest w g (by omega)) qM_noGuest rfl kw_671 rfl rfl dM_season_2 (st0 := [zI g, zR 33]) (st := []) rfl ⟨Nat.le_of_ble_eq_true rfl, Nat.le_of_ble_eq_true rfl⟩ ⟨Nat.le_of_ble_eq_true rfl, Nat.le_of_ble_eq_true rfl⟩ (Nat.le_of_ble_eq_true rfl) (fun a_2 w_2 h_2 ok_2 => ?_)
  obtain ⟨rfl, h_2⟩ := h_2
  refine r_if_ne 15 dM_season_5 (by decide) ⟨by omega, by omega⟩ (fun c_5 => ?_) (fun c_5 => ?_)
  · refine r_aload_n 0 0 dM_season_15 rfl rfl ?_
    refine r_iconst dM_season_16 ?_
    refine r_cVI (cM_refused w (-1)) qM_refused rfl kw_631 rfl rfl dM_season_17 (st0 := [zI (-1), zR 33]) (st := []) rfl ⟨Nat.le_of_ble_eq_true rfl, Nat.le_of_ble_eq_true rfl⟩ ⟨Nat.le_of_ble_eq_true rfl, Nat.le_of_ble_eq_true rfl⟩ (Nat.le_of_ble_eq_true rfl) (fun a_17 w_17 h_17 ok_17 => ?_)
    refine r_iret rfl dM_season_20 ⟨_, rfl, ?_⟩
    exact ⟨by rw [if_pos (by omega)]; omega, (show zEq w w_17 from by rw [h_17.1]; exact (zEq.refl w).put (by decide))⟩
  · refine r_iload_n 2 2 dM_season_8 rfl rfl ?_
    refine r_cSI (cM_noSheet w k (by omega)) qM_noSheet rfl kw_624 dM_season_9 (st0 := [zI k]) (st := []) rfl ⟨Nat.le_of_ble_eq_true rfl, Nat.le_of_ble_eq_true rfl⟩ ⟨Nat.le_of_ble_eq_true rfl, Nat.le_of_ble_eq_true rfl⟩ (Nat.le_of_ble_eq_true rfl) (fun a_9 w_9 h_9 ok_9 => ?_)
    obtain ⟨rfl, h_9⟩ := h_9
    refine r_if_eq 21 dM_season_12 (by decide) ⟨by omega, by omega⟩ (fun c_12 => ?_) (fun c_12 => ?_)
    · refine r_iload_n 3 3 dM_season_21 rfl rfl ?_
      refine r_i2l dM_season_22 ⟨by omega, by omega⟩ ?_
      refine r_lconst (v := 0) dM_season_23 rfl ?_
      refine r_ldc2 (a := 2) dM_season_24 kw_635 (by decide +kernel) ?_
      refine r_cSI (cM_in w lane 0 2 (by omega) (by omega) (by omega)) qM_in rfl kw_628 dM_season_27 (st0 := [zJ 2, zJ 0, zJ lane]) (st := []) rfl ⟨Nat.le_of_ble_eq_true rfl, Nat.le_of_ble_eq_true rfl⟩ ⟨Nat.le_of_ble_eq_true rfl, Nat.le_of_ble_eq_true rfl⟩ (Nat.le_of_ble_eq_true rfl) (fun a_27 w_27 h_27 ok_27 => ?_)
      obtain ⟨rfl, h_27⟩ := h_27
      refine r_if_eq 59 dM_season_30 (by decide) ⟨by omega, by omega⟩ (fun c_30 => ?_) (fun c_30 => ?_)
      · refine r_aload_n 0 0 dM_season_59 rfl rfl ?_
        refine r_bipush dM_season_60 (by decide) ?_
        refine r_cVI (cM_refused w (-2)) qM_refused rfl kw_631 rfl rfl dM_season_62 (st0 := [zI (-2), zR 33]) (st := []) rfl ⟨Nat.le_of_ble_eq_true rfl, Nat.le_of_ble_eq_true rfl⟩ ⟨Nat.le_of_ble_eq_true rfl, Nat.le_of_ble_eq_true rfl⟩ (Nat.le_of_ble_eq_true rfl) (fun a_62 w_62 h_62 ok_62 => ?_)
        refine r_iret rfl dM_season_65 ⟨_, rfl, ?_⟩
        exact ⟨by rw [if_neg (by omega), if_pos (by omega)]; omega, (show zEq w w_62 from by rw [h_62.1]; exact (zEq.refl w).put (by decide))⟩
      · refine r_iload 5 5 dM_season_33 rfl ?_
        refine r_i2l dM_season_35 ⟨by omega, by omega⟩ ?_
        refine r_lconst (v := 0) dM_season_36 rfl ?_
        refine r_ldc2 (a := 20) dM_season_37 kw_713 (by decide +kernel) ?_
        refine r_cSI (cM_in w n 0 20 (by omega) (by omega) (by omega)) qM_in rfl kw_628 dM_season_40 (st0 := [zJ 20, zJ 0, zJ n]) (st := []) rfl ⟨Nat.le_of_ble_eq_true rfl, Nat.le_of_ble_eq_true rfl⟩ ⟨Nat.le_of_ble_eq_true rfl, Nat.le_of_ble_eq_true rfl⟩ (Nat.le_of_ble_eq_true rfl) (fun a_40 w_40 h_40 ok_40 => ?_)
        obtain ⟨rfl, h_40⟩ := h_40
        refine r_if_eq 59 dM_season_43 (by decide) ⟨by omega, by omega⟩ (fun c_43 => ?_) (fun c_43 => ?_)
        · refine r_aload_n 0 0 dM_season_59 rfl rfl ?_
          refine r_bipush dM_season_60 (by decide) ?_
          refine r_cVI (cM_refused w (-2)) qM_refused rfl kw_631 rfl rfl dM_season_62 (st0 := [zI (-2), zR 33]) (st := []) rfl ⟨Nat.le_of_ble_eq_true rfl, Nat.le_of_ble_eq_true rfl⟩ ⟨Nat.le_of_ble_eq_true rfl, Nat.le_of_ble_eq_true rfl⟩ (Nat.le_of_ble_eq_true rfl) (fun a_62 w_62 h_62 ok_62 => ?_)
          refine r_iret rfl dM_season_65 ⟨_, rfl, ?_⟩
          exact ⟨by rw [if_neg (by omega), if_pos (by omega)]; omega, (show zEq w w_62 from by rw [h_62.1]; exact (zEq.refl w).put (by decide))⟩
        · refine r_iload 6 6 dM_season_46 rfl ?_
          refine r_i2l dM_season_48 ⟨by omega, by omega⟩ ?_
          refine r_lconst (v := 0) dM_season_49 rfl ?_
          refine r_ldc2 (a := 4) dM_season_50 kw_714 (by decide +kernel) ?_
          refine r_cSI (cM_in w what 0 4 (by omega) (by omega) (by omega)) qM_in rfl kw_628 dM_season_53 (st0 := [zJ 4, zJ 0, zJ what]) (st := []) rfl ⟨Nat.le_of_ble_eq_true rfl, Nat.le_of_ble_eq_true rfl⟩ ⟨Nat.le_of_ble_eq_true rfl, Nat.le_of_ble_eq_true rfl⟩ (Nat.le_of_ble_eq_true rfl) (fun a_53 w_53 h_53 ok_53 => ?_)
          obtain ⟨rfl, h_53⟩ := h_53
          refine r_if_ne 66 dM_season_56 (by decide) ⟨by omega, by omega⟩ (fun c_56 => ?_) (fun c_56 => ?_)
          · refine r_aload_n 0 0 dM_season_66 rfl rfl ?_
            refine r_iload_n 2 2 dM_season_67 rfl rfl ?_
            refine r_iload_n 3 3 dM_season_68 rfl rfl ?_
            refine r_iload 4 4 dM_season_69 rfl ?_
            refine r_iload 5 5 dM_season_71 rfl ?_
            refine r_cVI (cM_pairsBarred w k lane i n (by omega) (by omega) (by omega) (by omega) (by omega) (by omega)) qM_pairsBarred rfl kw_715 rfl rfl dM_season_73 (st0 := [zI n, zI i, zI lane, zI k, zR 33]) (st := []) rfl ⟨Nat.le_of_ble_eq_true rfl, Nat.le_of_ble_eq_true rfl⟩ ⟨Nat.le_of_ble_eq_true rfl, Nat.le_of_ble_eq_true rfl⟩ (Nat.le_of_ble_eq_true rfl) (fun a_73 w_73 h_73 ok_73 => ?_)
            have hF0 : zF2 w w_73 := h_73.2.1.two
            have hpi : -13 ≤ a_73 ∧ a_73 ≤ 0 := (by rw [h_73.1]; exact fPairs_in)
            refine r_istore (ls' := [(7, zI a_73), (0, zR 33), (1, zI g), (2, zI k), (3, zI lane), (4, zI i), (5, zI n), (6, zI what)]) 7 dM_season_76 (by decide) rfl ?_
            refine r_iload 7 0 dM_season_78 rfl ?_
            refine r_if_ge 86 dM_season_80 (by decide) ⟨by omega, by omega⟩ (fun c_80 => ?_) (fun c_80 => ?_)
            · rcases h_73.2.2 with q | ⟨_, i0, i1, hv⟩
              exact absurd q (by omega)
              refine r_aload_n 0 1 dM_season_86 rfl rfl ?_
              refine r_iload_n 1 2 dM_season_87 rfl rfl ?_
              refine r_bipush dM_season_88 (by decide) ?_
              refine r_iload_n 2 3 dM_season_90 rfl rfl ?_
              refine r_imul dM_season_91 ?_
              refine r_iload 4 5 dM_season_92 rfl ?_
              refine r_iadd dM_season_94 ?_
              refine r_iload 5 6 dM_season_95 rfl ?_
              refine r_cVV (cM_goSeason w_73 g ((60 * k) + i) n (by omega) (by omega) (by omega) (by omega) (by omega) (fun p p0 p1 => by have q := hv p p0 p1; rw [h_73.2.1 _ _ (by omega), h_73.2.1 _ _ (by omega)]; omega)) qM_goSeason rfl kw_719 rfl rfl dM_season_97 (st0 := [zI n, zI ((60 * k) + i), zI g, zR 33]) (st := []) rfl ⟨Nat.le_of_ble_eq_true rfl, Nat.le_of_ble_eq_true rfl⟩ ⟨Nat.le_of_ble_eq_true rfl, Nat.le_of_ble_eq_true rfl⟩ (Nat.le_of_ble_eq_true rfl) (fun w_97 h_97 ok_97 => ?_)
              have hfr : zF2 w_73 w_97 := fun i' k' q => h_97.1 i' k' (by omega)
              have hst := h_97.2
              rw [zSeaM_eq hF0] at hst
              have hw9 : w_97.1 33 20 = -9 ∨ 0 ≤ w_97.1 33 20 := (by have q := zSeaM_w9 w (60 * k + i) g n.toNat; rw [hst] at q; exact q)
              refine r_iload 6 7 dM_season_100 rfl ?_
              refine r_iconst dM_season_102 ?_
              refine r_ic_ne 111 dM_season_103 (by decide) ⟨by omega, by omega⟩ ⟨by omega, by omega⟩ (fun c_103 => ?_) (fun c_103 => ?_)
              · refine r_aload_n 0 1 dM_season_111 rfl rfl ?_
                refine r_getI (k := 20) fX7 rfl rfl (by decide) kw_525 rfl 20 rfl dM_season_112 rfl (fun y_112 ey_112 ly_112 uy_112 => ?_)
                refine r_if_lt 126 dM_season_115 (by decide) ⟨by omega, by omega⟩ (fun c_115 => ?_) (fun c_115 => ?_)
                · refine r_iload 6 7 dM_season_126 rfl ?_
                  rcases (by omega : (what = 0) ∨ (what = 1) ∨ (what = 2) ∨ (what = 3) ∨ (what < 0 ∨ 3 < what)) with c_128 | c_128 | c_128 | c_128 | c_128 | c_128
                  · refine r_tableIn 160 dM_season_128 ⟨by omega, by omega⟩ (by omega) (by omega) (by rw [c_128] <;> rfl) (by decide) ?_
                    refine r_aload_n 0 1 dM_season_160 rfl rfl ?_
                    refine r_getI (k := 22) fX7 rfl rfl (by decide) kw_527 rfl 22 rfl dM_season_161 rfl (fun y_161 ey_161 ly_161 uy_161 => ?_)
                    refine r_iret rfl dM_season_164 ⟨_, rfl, ?_⟩
                    exact ⟨by have hp9 := h_73.1; rw [if_neg (show ¬ (g < 0 ∨ w.1 33 6 ≤ g ∨ k < 0 ∨ 4 ≤ k) by omega), if_neg (show ¬ (lane < 0 ∨ 2 < lane ∨ n < 0 ∨ 20 < n ∨ what < 0 ∨ 4 < what) by omega), if_neg (show ¬ ¬ _ = (0 : Int) by omega), hst]; rw [if_neg (by omega)]; show _ = if ¬ w_97.1 33 20 = -9 then _ else if what = 0 then w_97.1 33 22 else _; rw [if_neg (by omega), if_pos (by omega)]; omega, (hF0.trans hfr).eq⟩
                  · refine r_tableIn 175 dM_season_128 ⟨by omega, by omega⟩ (by omega) (by omega) (by rw [c_128] <;> rfl) (by decide) ?_
                    refine r_aload_n 0 1 dM_season_175 rfl rfl ?_
                    refine r_getI (k := 24) fX7 rfl rfl (by decide) kw_529 rfl 24 rfl dM_season_176 rfl (fun y_176 ey_176 ly_176 uy_176 => ?_)
                    refine r_iret rfl dM_season_179 ⟨_, rfl, ?_⟩
                    exact ⟨by have hp9 := h_73.1; rw [if_neg (show ¬ (g < 0 ∨ w.1 33 6 ≤ g ∨ k < 0 ∨ 4 ≤ k) by omega), if_neg (show ¬ (lane < 0 ∨ 2 < lane ∨ n < 0 ∨ 20 < n ∨ what < 0 ∨ 4 < what) by omega), if_neg (show ¬ ¬ _ = (0 : Int) by omega), hst]; rw [if_neg (by omega)]; show _ = if ¬ w_97.1 33 20 = -9 then _ else if what = 0 then _ else if what = 2 then _ else if what = 3 then _ else w_97.1 33 24; rw [if_neg (by omega), if_neg (by omega), if_neg (by omega), if_neg (by omega)]; omega, (hF0.trans hfr).eq⟩
                  · refine r_tableIn 165 dM_season_128 ⟨by omega, by omega⟩ (by omega) (by omega) (by rw [c_128] <;> rfl) (by decide) ?_
                    refine r_aload_n 0 1 dM_season_165 rfl rfl ?_
                    refine r_getI (k := 23) fX7 rfl rfl (by decide) kw_528 rfl 23 rfl dM_season_166 rfl (fun y_166 ey_166 ly_166 uy_166 => ?_)
                    refine r_iret rfl dM_season_169 ⟨_, rfl, ?_⟩
                    exact ⟨by have hp9 := h_73.1; rw [if_neg (show ¬ (g < 0 ∨ w.1 33 6 ≤ g ∨ k < 0 ∨ 4 ≤ k) by omega), if_neg (show ¬ (lane < 0 ∨ 2 < lane ∨ n < 0 ∨ 20 < n ∨ what < 0 ∨ 4 < what) by omega), if_neg (show ¬ ¬ _ = (0 : Int) by omega), hst]; rw [if_neg (by omega)]; show _ = if ¬ w_97.1 33 20 = -9 then _ else if what = 0 then _ else if what = 2 then w_97.1 33 23 else _; rw [if_neg (by omega), if_neg (by omega), if_pos (by omega)]; omega, (hF0.trans hfr).eq⟩
                  · refine r_tableIn 170 dM_season_128 ⟨by omega, by omega⟩ (by omega) (by omega) (by rw [c_128] <;> rfl) (by decide) ?_
                    refine r_aload_n 0 1 dM_season_170 rfl rfl ?_
                    refine r_getI (k := 21) fX7 rfl rfl (by decide) kw_526 rfl 21 rfl dM_season_171 rfl (fun y_171 ey_171 ly_171 uy_171 => ?_)
                    refine r_iret rfl dM_season_174 ⟨_, rfl, ?_⟩
                    exact ⟨by have hp9 := h_73.1; rw [if_neg (show ¬ (g < 0 ∨ w.1 33 6 ≤ g ∨ k < 0 ∨ 4 ≤ k) by omega), if_neg (show ¬ (lane < 0 ∨ 2 < lane ∨ n < 0 ∨ 20 < n ∨ what < 0 ∨ 4 < what) by omega), if_neg (show ¬ ¬ _ = (0 : Int) by omega), hst]; rw [if_neg (by omega)]; show _ = if ¬ w_97.1 33 20 = -9 then _ else if what = 0 then _ else if what = 2 then _ else if what = 3 then w_97.1 33 21 else _; rw [if_neg (by omega), if_neg (by omega), if_neg (by omega), if_pos (by omega)]; omega, (hF0.trans hfr).eq⟩
                  · refine r_tableOut 175 dM_season_128 ⟨by omega, by omega⟩ (by omega) (by decide) ?_
                    refine r_aload_n 0 1 dM_season_175 rfl rfl ?_
                    refine r_getI (k := 24) fX7 rfl rfl (by decide) kw_529 rfl 24 rfl dM_season_176 rfl (fun y_176 ey_176 ly_176 uy_176 => ?_)
                    refine r_iret rfl dM_season_179 ⟨_, rfl, ?_⟩
                    exact ⟨by have hp9 := h_73.1; rw [if_neg (show ¬ (g < 0 ∨ w.1 33 6 ≤ g ∨ k < 0 ∨ 4 ≤ k) by omega), if_neg (show ¬ (lane < 0 ∨ 2 < lane ∨ n < 0 ∨ 20 < n ∨ what < 0 ∨ 4 < what) by omega), if_neg (show ¬ ¬ _ = (0 : Int) by omega), hst]; rw [if_neg (by omega)]; show _ = if ¬ w_97.1 33 20 = -9 then _ else if what = 0 then _ else if what = 2 then _ else if what = 3 then _ else w_97.1 33 24; rw [if_neg (by omega), if_neg (by omega), if_neg (by omega), if_neg (by omega)]; omega, (hF0.trans hfr).eq⟩
                  · refine r_tableOut 175 dM_season_128 ⟨by omega, by omega⟩ (by omega) (by decide) ?_
                    refine r_aload_n 0 1 dM_season_175 rfl rfl ?_
                    refine r_getI (k := 24) fX7 rfl rfl (by decide) kw_529 rfl 24 rfl dM_season_176 rfl (fun y_176 ey_176 ly_176 uy_176 => ?_)
                    refine r_iret rfl dM_season_179 ⟨_, rfl, ?_⟩
                    exact ⟨by have hp9 := h_73.1; rw [if_neg (show ¬ (g < 0 ∨ w.1 33 6 ≤ g ∨ k < 0 ∨ 4 ≤ k) by omega), if_neg (show ¬ (lane < 0 ∨ 2 < lane ∨ n < 0 ∨ 20 < n ∨ what < 0 ∨ 4 < what) by omega), if_neg (show ¬ ¬ _ = (0 : Int) by omega), hst]; rw [if_neg (by omega)]; show _ = if ¬ w_97.1 33 20 = -9 then _ else if what = 0 then _ else if what = 2 then _ else if what = 3 then _ else w_97.1 33 24; rw [if_neg (by omega), if_neg (by omega), if_neg (by omega), if_neg (by omega)]; omega, (hF0.trans hfr).eq⟩
                · refine r_bipush dM_season_118 (by decide) ?_
                  refine r_aload_n 0 1 dM_season_120 rfl rfl ?_
                  refine r_getI (k := 20) fX7 rfl rfl (by decide) kw_525 rfl 20 rfl dM_season_121 rfl (fun y_121 ey_121 ly_121 uy_121 => ?_)
                  refine r_isub dM_season_124 ?_
                  refine r_iret rfl dM_season_125 ⟨_, rfl, ?_⟩
                  exact ⟨by have hp9 := h_73.1; rw [if_neg (show ¬ (g < 0 ∨ w.1 33 6 ≤ g ∨ k < 0 ∨ 4 ≤ k) by omega), if_neg (show ¬ (lane < 0 ∨ 2 < lane ∨ n < 0 ∨ 20 < n ∨ what < 0 ∨ 4 < what) by omega), if_neg (show ¬ ¬ _ = (0 : Int) by omega), hst]; rw [if_neg (by omega)]; show _ = if ¬ w_97.1 33 20 = -9 then -100 - w_97.1 33 20 else _; rw [if_pos (by omega)]; omega, (hF0.trans hfr).eq⟩
              · refine r_aload_n 0 1 dM_season_106 rfl rfl ?_
                refine r_getI (k := 20) fX7 rfl rfl (by decide) kw_525 rfl 20 rfl dM_season_107 rfl (fun y_107 ey_107 ly_107 uy_107 => ?_)
                refine r_iret rfl dM_season_110 ⟨_, rfl, ?_⟩
                exact ⟨by have hp9 := h_73.1; rw [if_neg (show ¬ (g < 0 ∨ w.1 33 6 ≤ g ∨ k < 0 ∨ 4 ≤ k) by omega), if_neg (show ¬ (lane < 0 ∨ 2 < lane ∨ n < 0 ∨ 20 < n ∨ what < 0 ∨ 4 < what) by omega), if_neg (show ¬ ¬ _ = (0 : Int) by omega), hst]; rw [if_pos (by omega)]; show _ = w_97.1 33 20; omega, (hF0.trans hfr).eq⟩
            · refine r_iload 7 0 dM_season_83 rfl ?_
              refine r_iret rfl dM_season_85 ⟨_, rfl, ?_⟩
              exact ⟨by have hp9 := h_73.1; rw [if_neg (show ¬ (g < 0 ∨ w.1 33 6 ≤ g ∨ k < 0 ∨ 4 ≤ k) by omega), if_neg (show ¬ (lane < 0 ∨ 2 < lane ∨ n < 0 ∨ 20 < n ∨ what < 0 ∨ 4 < what) by omega), if_pos (show ¬ _ = (0 : Int) by omega)]; exact hp9, hF0.eq⟩
          · refine r_aload_n 0 0 dM_season_59 rfl rfl ?_
            refine r_bipush dM_season_60 (by decide) ?_
            refine r_cVI (cM_refused w (-2)) qM_refused rfl kw_631 rfl rfl dM_season_62 (st0 := [zI (-2), zR 33]) (st := []) rfl ⟨Nat.le_of_ble_eq_true rfl, Nat.le_of_ble_eq_true rfl⟩ ⟨Nat.le_of_ble_eq_true rfl, Nat.le_of_ble_eq_true rfl⟩ (Nat.le_of_ble_eq_true rfl) (fun a_62 w_62 h_62 ok_62 => ?_)
            refine r_iret rfl dM_season_65 ⟨_, rfl, ?_⟩
            exact ⟨by rw [if_neg (by omega), if_pos (by omega)]; omega, (show zEq w w_62 from by rw [h_62.1]; exact (zEq.refl w).put (by decide))⟩
    · refine r_aload_n 0 0 dM_season_15 rfl rfl ?_
      refine r_iconst dM_season_16 ?_
      refine r_cVI (cM_refused w (-1)) qM_refused rfl kw_631 rfl rfl dM_season_17 (st0 := [zI (-1), zR 33]) (st := []) rfl ⟨Nat.le_of_ble_eq_true rfl, Nat.le_of_ble_eq_true rfl⟩ ⟨Nat.le_of_ble_eq_true rfl, Nat.le_of_ble_eq_true rfl⟩ (Nat.le_of_ble_eq_true rfl) (fun a_17 w_17 h_17 ok_17 => ?_)
      refine r_iret rfl dM_season_20 ⟨_, rfl, ?_⟩
      exact ⟨by rw [if_pos (by omega)]; omega, (show zEq w w_17 from by rw [h_17.1]; exact (zEq.refl w).put (by decide))⟩

set_option maxRecDepth 20000 in
set_option maxHeartbeats 4000000 in
theorem cM_endingWith (w : zW) (f : Int) (n : Int) (low : Int) (high : Int) (hf0 : 0 ≤ f) (hn0 : 0 ≤ n) (hn1 : n ≤ 20) (hf1 : f + 2 * n ≤ 240) (hv : ∀ p : Int, 0 ≤ p → p < n → 0 ≤ w.1 50 (f + 2 * p) ∧ w.1 50 (f + 2 * p) < 6 ∧ 0 ≤ w.1 50 (f + 2 * p + 1) ∧ w.1 50 (f + 2 * p + 1) < 4) (zlow : zin low) (zhigh : zin high) : zC mM_endingWith 4 [zR 33, zI f, zI n, zI low, zI high] w (zrI fun a w' => a = zSet (fun g => decide (low ≤ (zSeaM w f g n.toNat).1 ∧ (zSeaM w f g n.toNat).1 ≤ high)) (w.1 33 6).toNat ∧ zF2 w w' ∧ (0 < w.1 33 6 → w'.1 33 20 = (zSeaM w f 0 n.toNat).2.1)) := by
  refine zC.of (by decide +kernel) (Nat.le_of_ble_eq_true rfl) ?_
  show zM mM_endingWith (zZm 4 _) 0 [(0, zR 33), (1, zI f), (2, zI n), (3, zI low), (4, zI high)] [] w
  refine r_ok (fun hO => ?_)
  have hG := hO 33 6
  change 0 ≤ w.1 33 6 ∧ w.1 33 6 ≤ 6 at hG
  refine r_iconst dM_endingWith_0 ?_
  refine r_istore (ls' := [(5, zI 0), (0, zR 33), (1, zI f), (2, zI n), (3, zI low), (4, zI high)]) 5 dM_endingWith_1 (by decide) rfl ?_
  refine r_iconst dM_endingWith_3 ?_
  refine r_istore (ls' := [(6, zI 0), (5, zI 0), (0, zR 33), (1, zI f), (2, zI n), (3, zI low), (4, zI high)]) 6 dM_endingWith_4 (by decide) rfl ?_
  have L_6 : ∀ (n_6 : Nat) (set : Int) (g : Int) (wl : zW) (hg0 : 0 ≤ g) (hg1 : g ≤ w.1 33 6) (hw : zF2 w wl) (hn9 : 0 < g → wl.1 33 20 = (zSeaM w f 0 n.toNat).2.1) (hs : set = zSet (fun g => decide (low ≤ (zSeaM w f g n.toNat).1 ∧ (zSeaM w f g n.toNat).1 ≤ high)) g.toNat), w.1 33 6 - g < (n_6 : Int) → zM mM_endingWith (zZm 4 (zrI fun a w' => a = zSet (fun g => decide (low ≤ (zSeaM w f g n.toNat).1 ∧ (zSeaM w f g n.toNat).1 ≤ high)) (w.1 33 6).toNat ∧ zF2 w w' ∧ (0 < w.1 33 6 → w'.1 33 20 = (zSeaM w f 0 n.toNat).2.1))) 6 [(6, zI g), (5, zI set), (0, zR 33), (1, zI f), (2, zI n), (3, zI low), (4, zI high)] [] wl := by
    intro n_6
    induction n_6 with
    | zero => intro set g wl hg0 hg1 hw hn9 hs hm_6; exfalso; omega
    | succ n_6 ih_6 =>
      intro set g wl hg0 hg1 hw hn9 hs hm_6
      have e13 : wl.1 33 6 = w.1 33 6 := hw 33 6 (by omega)
      refine r_iload 6 0 dM_endingWith_6 rfl ?_
      refine r_aload_n 0 2 dM_endingWith_8 rfl rfl ?_
      refine r_getI (k := 6) fX7 rfl rfl (by decide) kw_511 rfl 6 rfl dM_endingWith_9 rfl (fun y_9 ey_9 ly_9 uy_9 => ?_)
      refine r_ic_ge 58 dM_endingWith_12 (by decide) ⟨by omega, by omega⟩ ⟨by omega, by omega⟩ (fun c_12 => ?_) (fun c_12 => ?_)
      · refine r_iload 5 1 dM_endingWith_58 rfl ?_
        refine r_iret rfl dM_endingWith_60 ⟨_, rfl, ?_⟩
        exact ⟨by rw [hs, show (w.1 33 6).toNat = g.toNat by omega], hw, fun q => hn9 (by omega)⟩
      · refine r_aload_n 0 2 dM_endingWith_15 rfl rfl ?_
        refine r_iload 6 0 dM_endingWith_16 rfl ?_
        refine r_iload_n 1 3 dM_endingWith_18 rfl rfl ?_
        refine r_iload_n 2 4 dM_endingWith_19 rfl rfl ?_
        refine r_cVV (cM_goSeason wl g f n (by omega) (by omega) (by omega) (by omega) (by omega) (fun p p0 p1 => by have q := hv p p0 p1; rw [hw _ _ (by omega), hw _ _ (by omega)]; exact q)) qM_goSeason rfl kw_719 rfl rfl dM_endingWith_20 (st0 := [zI n, zI f, zI g, zR 33]) (st := []) rfl ⟨Nat.le_of_ble_eq_true rfl, Nat.le_of_ble_eq_true rfl⟩ ⟨Nat.le_of_ble_eq_true rfl, Nat.le_of_ble_eq_true rfl⟩ (Nat.le_of_ble_eq_true rfl) (fun w_20 h_20 ok_20 => ?_)
        have hfr : zF2 wl w_20 := fun i' k' q => h_20.1 i' k' (by omega)
        have hst := h_20.2
        rw [zSeaM_eq hw] at hst
        refine r_iload 5 1 dM_endingWith_23 rfl ?_
        refine r_aload_n 0 2 dM_endingWith_25 rfl rfl ?_
        refine r_getI (k := 22) fX7 rfl rfl (by decide) kw_527 rfl 22 rfl dM_endingWith_26 rfl (fun y_26 ey_26 ly_26 uy_26 => ?_)
        refine r_i2l dM_endingWith_29 ⟨by omega, by omega⟩ ?_
        refine r_iload_n 3 5 dM_endingWith_30 rfl rfl ?_
        refine r_i2l dM_endingWith_31 ⟨by omega, by omega⟩ ?_
        refine r_iload 4 6 dM_endingWith_32 rfl ?_
        refine r_i2l dM_endingWith_34 ⟨by omega, by omega⟩ ?_
        refine r_cSI (cM_in w_20 y_26 low high (by omega) (by omega) (by omega)) qM_in rfl kw_628 dM_endingWith_35 (st0 := [zJ high, zJ low, zJ y_26, zI set]) (st := [zI set]) rfl ⟨Nat.le_of_ble_eq_true rfl, Nat.le_of_ble_eq_true rfl⟩ ⟨Nat.le_of_ble_eq_true rfl, Nat.le_of_ble_eq_true rfl⟩ (Nat.le_of_ble_eq_true rfl) (fun a_35 w_35 h_35 ok_35 => ?_)
        obtain ⟨rfl, h_35⟩ := h_35
        refine r_if_eq 48 dM_endingWith_38 (by decide) ⟨by omega, by omega⟩ (fun c_38 => ?_) (fun c_38 => ?_)
        · refine r_iconst dM_endingWith_48 ?_
          refine r_ior dM_endingWith_49 ?_
          refine r_nmI (fun x_50 ex_50 => ?_)
          refine r_istore (ls' := [(5, zI x_50), (6, zI g), (0, zR 33), (1, zI f), (2, zI n), (3, zI low), (4, zI high)]) 5 dM_endingWith_50 (by decide) rfl ?_
          refine r_iinc (ls' := [(6, zI (g + 1)), (5, zI x_50), (0, zR 33), (1, zI f), (2, zI n), (3, zI low), (4, zI high)]) 6 1 dM_endingWith_52 rfl (by decide) rfl ?_
          refine r_goto 6 dM_endingWith_55 (by decide) ?_
          exact ih_6 x_50 (g + 1) w_20 (by omega) (by omega) (hw.trans hfr) (fun _ => by rw [zSeaM_wr w f 0 g, hst]) (by rw [zSet_s _ hg0, hst]; show _ = if decide (low ≤ w_20.1 33 22 ∧ w_20.1 33 22 ≤ high) = true then _ else _; have e0 := zior_0 (x := set) (by rw [hs]; exact zSet_in _ _); first | (rw [if_pos (decide_eq_true (by omega)), ← hs]; omega) | (rw [if_neg (by rw [decide_eq_true_eq]; omega), ← hs]; omega)) (by omega)
        · refine r_iconst dM_endingWith_41 ?_
          refine r_iload 6 0 dM_endingWith_42 rfl ?_
          refine r_ishl dM_endingWith_44 ?_
          refine r_goto 49 dM_endingWith_45 (by decide) ?_
          refine r_ior dM_endingWith_49 ?_
          refine r_nmI (fun x_50 ex_50 => ?_)
          refine r_istore (ls' := [(5, zI x_50), (6, zI g), (0, zR 33), (1, zI f), (2, zI n), (3, zI low), (4, zI high)]) 5 dM_endingWith_50 (by decide) rfl ?_
          refine r_iinc (ls' := [(6, zI (g + 1)), (5, zI x_50), (0, zR 33), (1, zI f), (2, zI n), (3, zI low), (4, zI high)]) 6 1 dM_endingWith_52 rfl (by decide) rfl ?_
          refine r_goto 6 dM_endingWith_55 (by decide) ?_
          exact ih_6 x_50 (g + 1) w_20 (by omega) (by omega) (hw.trans hfr) (fun _ => by rw [zSeaM_wr w f 0 g, hst]) (by rw [zSet_s _ hg0, hst]; show _ = if decide (low ≤ w_20.1 33 22 ∧ w_20.1 33 22 ≤ high) = true then _ else _; have e0 := zior_0 (x := set) (by rw [hs]; exact zSet_in _ _); first | (rw [if_pos (decide_eq_true (by omega)), ← hs]; omega) | (rw [if_neg (by rw [decide_eq_true_eq]; omega), ← hs]; omega)) (by omega)
  exact L_6 7 0 0 w (by omega) (by omega) (zF2.refl w) (fun q => absurd q (by decide)) rfl (by omega)

set_option maxRecDepth 20000 in
set_option maxHeartbeats 4000000 in
theorem cM_may (w : zW) (k : Int) (lane : Int) (i : Int) (n : Int) (v : Int) (zk : zin k) (zlane : zin lane) (zi : zin i) (zn : zin n) (zv : zin v) : zC mM_may 5 [zR 33, zI k, zI lane, zI i, zI n, zI v] w (zrI fun a w' => a = (if ¬ (if k < 0 ∨ 4 ≤ k then -1 else if lane < 0 ∨ 2 < lane ∨ n < 0 ∨ 20 < n ∨ v < 0 ∨ 5 < v then -2 else if w.1 33 6 = 0 then -3 else fPairs (w.1 33 6) (w.1 33 3) (w.1 48 k) (w.1 49 k) lane i n (fun j => w.1 50 (60 * k + i + j))) = 0 then (if k < 0 ∨ 4 ≤ k then -1 else if lane < 0 ∨ 2 < lane ∨ n < 0 ∨ 20 < n ∨ v < 0 ∨ 5 < v then -2 else if w.1 33 6 = 0 then -3 else fPairs (w.1 33 6) (w.1 33 3) (w.1 48 k) (w.1 49 k) lane i n (fun j => w.1 50 (60 * k + i + j))) else if ¬ (zSeaM w (60 * k + i) 0 n.toNat).2.1 = -9 then -100 - (zSeaM w (60 * k + i) 0 n.toNat).2.1 else zSet (fun g => decide ((zSeaM w (60 * k + i) g n.toNat).1 = v)) (w.1 33 6).toNat) ∧ zEq w w') := by
  refine zC.of (by decide +kernel) (Nat.le_of_ble_eq_true rfl) ?_
  show zM mM_may (zZm 5 _) 0 [(0, zR 33), (1, zI k), (2, zI lane), (3, zI i), (4, zI n), (5, zI v)] [] w
  refine r_ok (fun hO => ?_)
  have hL := hO 48 k
  change -1 ≤ w.1 48 k ∧ w.1 48 k ≤ 60 at hL
  have hG := hO 33 6
  change 0 ≤ w.1 33 6 ∧ w.1 33 6 ≤ 6 at hG
  have hDs := hO 33 3
  change 0 ≤ w.1 33 3 ∧ w.1 33 3 ≤ 4 at hDs
  have hSt := hO 33 1
  change 0 ≤ w.1 33 1 ∧ w.1 33 1 ≤ 5 at hSt
  refine r_iload_n 1 1 dM_may_0 rfl rfl ?_
  refine r_cSI (cM_noSheet w k (by omega)) qM_noSheet rfl kw_624 dM_may_1 (st0 := [zI k]) (st := []) rfl ⟨Nat.le_of_ble_eq_true rfl, Nat.le_of_ble_eq_true rfl⟩ ⟨Nat.le_of_ble_eq_true rfl, Nat.le_of_ble_eq_true rfl⟩ (Nat.le_of_ble_eq_true rfl) (fun a_1 w_1 h_1 ok_1 => ?_)
  obtain ⟨rfl, h_1⟩ := h_1
  refine r_if_eq 13 dM_may_4 (by decide) ⟨by omega, by omega⟩ (fun c_4 => ?_) (fun c_4 => ?_)
  · refine r_iload_n 2 2 dM_may_13 rfl rfl ?_
    refine r_i2l dM_may_14 ⟨by omega, by omega⟩ ?_
    refine r_lconst (v := 0) dM_may_15 rfl ?_
    refine r_ldc2 (a := 2) dM_may_16 kw_635 (by decide +kernel) ?_
    refine r_cSI (cM_in w lane 0 2 (by omega) (by omega) (by omega)) qM_in rfl kw_628 dM_may_19 (st0 := [zJ 2, zJ 0, zJ lane]) (st := []) rfl ⟨Nat.le_of_ble_eq_true rfl, Nat.le_of_ble_eq_true rfl⟩ ⟨Nat.le_of_ble_eq_true rfl, Nat.le_of_ble_eq_true rfl⟩ (Nat.le_of_ble_eq_true rfl) (fun a_19 w_19 h_19 ok_19 => ?_)
    obtain ⟨rfl, h_19⟩ := h_19
    refine r_if_eq 51 dM_may_22 (by decide) ⟨by omega, by omega⟩ (fun c_22 => ?_) (fun c_22 => ?_)
    · refine r_aload_n 0 0 dM_may_51 rfl rfl ?_
      refine r_bipush dM_may_52 (by decide) ?_
      refine r_cVI (cM_refused w (-2)) qM_refused rfl kw_631 rfl rfl dM_may_54 (st0 := [zI (-2), zR 33]) (st := []) rfl ⟨Nat.le_of_ble_eq_true rfl, Nat.le_of_ble_eq_true rfl⟩ ⟨Nat.le_of_ble_eq_true rfl, Nat.le_of_ble_eq_true rfl⟩ (Nat.le_of_ble_eq_true rfl) (fun a_54 w_54 h_54 ok_54 => ?_)
      refine r_iret rfl dM_may_57 ⟨_, rfl, ?_⟩
      exact ⟨by rw [if_neg (show ¬ (k < 0 ∨ 4 ≤ k) by omega), if_pos (show lane < 0 ∨ 2 < lane ∨ n < 0 ∨ 20 < n ∨ v < 0 ∨ 5 < v by omega), if_pos (by decide)]; omega, (show zEq w w_54 from by rw [h_54.1]; exact (zEq.refl w).put (by decide))⟩
    · refine r_iload 4 4 dM_may_25 rfl ?_
      refine r_i2l dM_may_27 ⟨by omega, by omega⟩ ?_
      refine r_lconst (v := 0) dM_may_28 rfl ?_
      refine r_ldc2 (a := 20) dM_may_29 kw_713 (by decide +kernel) ?_
      refine r_cSI (cM_in w n 0 20 (by omega) (by omega) (by omega)) qM_in rfl kw_628 dM_may_32 (st0 := [zJ 20, zJ 0, zJ n]) (st := []) rfl ⟨Nat.le_of_ble_eq_true rfl, Nat.le_of_ble_eq_true rfl⟩ ⟨Nat.le_of_ble_eq_true rfl, Nat.le_of_ble_eq_true rfl⟩ (Nat.le_of_ble_eq_true rfl) (fun a_32 w_32 h_32 ok_32 => ?_)
      obtain ⟨rfl, h_32⟩ := h_32
      refine r_if_eq 51 dM_may_35 (by decide) ⟨by omega, by omega⟩ (fun c_35 => ?_) (fun c_35 => ?_)
      · refine r_aload_n 0 0 dM_may_51 rfl rfl ?_
        refine r_bipush dM_may_52 (by decide) ?_
        refine r_cVI (cM_refused w (-2)) qM_refused rfl kw_631 rfl rfl dM_may_54 (st0 := [zI (-2), zR 33]) (st := []) rfl ⟨Nat.le_of_ble_eq_true rfl, Nat.le_of_ble_eq_true rfl⟩ ⟨Nat.le_of_ble_eq_true rfl, Nat.le_of_ble_eq_true rfl⟩ (Nat.le_of_ble_eq_true rfl) (fun a_54 w_54 h_54 ok_54 => ?_)
        refine r_iret rfl dM_may_57 ⟨_, rfl, ?_⟩
        exact ⟨by rw [if_neg (show ¬ (k < 0 ∨ 4 ≤ k) by omega), if_pos (show lane < 0 ∨ 2 < lane ∨ n < 0 ∨ 20 < n ∨ v < 0 ∨ 5 < v by omega), if_pos (by decide)]; omega, (show zEq w w_54 from by rw [h_54.1]; exact (zEq.refl w).put (by decide))⟩
      · refine r_iload 5 5 dM_may_38 rfl ?_
        refine r_i2l dM_may_40 ⟨by omega, by omega⟩ ?_
        refine r_lconst (v := 0) dM_may_41 rfl ?_
        refine r_ldc2 (a := 5) dM_may_42 kw_704 (by decide +kernel) ?_
        refine r_cSI (cM_in w v 0 5 (by omega) (by omega) (by omega)) qM_in rfl kw_628 dM_may_45 (st0 := [zJ 5, zJ 0, zJ v]) (st := []) rfl ⟨Nat.le_of_ble_eq_true rfl, Nat.le_of_ble_eq_true rfl⟩ ⟨Nat.le_of_ble_eq_true rfl, Nat.le_of_ble_eq_true rfl⟩ (Nat.le_of_ble_eq_true rfl) (fun a_45 w_45 h_45 ok_45 => ?_)
        obtain ⟨rfl, h_45⟩ := h_45
        refine r_if_ne 58 dM_may_48 (by decide) ⟨by omega, by omega⟩ (fun c_48 => ?_) (fun c_48 => ?_)
        · refine r_aload_n 0 0 dM_may_58 rfl rfl ?_
          refine r_getI (k := 6) fX7 rfl rfl (by decide) kw_511 rfl 6 rfl dM_may_59 rfl (fun y_59 ey_59 ly_59 uy_59 => ?_)
          refine r_if_ne 72 dM_may_62 (by decide) ⟨by omega, by omega⟩ (fun c_62 => ?_) (fun c_62 => ?_)
          · refine r_aload_n 0 0 dM_may_72 rfl rfl ?_
            refine r_iload_n 1 1 dM_may_73 rfl rfl ?_
            refine r_iload_n 2 2 dM_may_74 rfl rfl ?_
            refine r_iload_n 3 3 dM_may_75 rfl rfl ?_
            refine r_iload 4 4 dM_may_76 rfl ?_
            refine r_cVI (cM_pairsBarred w k lane i n (by omega) (by omega) (by omega) (by omega) (by omega) (by omega)) qM_pairsBarred rfl kw_715 rfl rfl dM_may_78 (st0 := [zI n, zI i, zI lane, zI k, zR 33]) (st := []) rfl ⟨Nat.le_of_ble_eq_true rfl, Nat.le_of_ble_eq_true rfl⟩ ⟨Nat.le_of_ble_eq_true rfl, Nat.le_of_ble_eq_true rfl⟩ (Nat.le_of_ble_eq_true rfl) (fun a_78 w_78 h_78 ok_78 => ?_)
            have hF0 : zF2 w w_78 := h_78.2.1.two
            have hpi : -13 ≤ a_78 ∧ a_78 ≤ 0 := (by rw [h_78.1]; exact fPairs_in)
            refine r_istore (ls' := [(6, zI a_78), (0, zR 33), (1, zI k), (2, zI lane), (3, zI i), (4, zI n), (5, zI v)]) 6 dM_may_81 (by decide) rfl ?_
            refine r_iload 6 0 dM_may_83 rfl ?_
            refine r_if_ge 91 dM_may_85 (by decide) ⟨by omega, by omega⟩ (fun c_85 => ?_) (fun c_85 => ?_)
            · rcases h_78.2.2 with q | ⟨_, i0, i1, hv⟩
              exact absurd q (by omega)
              refine r_aload_n 0 1 dM_may_91 rfl rfl ?_
              refine r_bipush dM_may_92 (by decide) ?_
              refine r_iload_n 1 2 dM_may_94 rfl rfl ?_
              refine r_imul dM_may_95 ?_
              refine r_iload_n 3 4 dM_may_96 rfl rfl ?_
              refine r_iadd dM_may_97 ?_
              refine r_iload 4 5 dM_may_98 rfl ?_
              refine r_iload 5 6 dM_may_100 rfl ?_
              refine r_iload 5 6 dM_may_102 rfl ?_
              refine r_cVI (cM_endingWith w_78 ((60 * k) + i) n v v (by omega) (by omega) (by omega) (by omega) (fun p p0 p1 => by have q := hv p p0 p1; rw [h_78.2.1 _ _ (by omega), h_78.2.1 _ _ (by omega)]; omega) (by omega) (by omega)) qM_endingWith rfl kw_727 rfl rfl dM_may_104 (st0 := [zI v, zI v, zI n, zI ((60 * k) + i), zR 33]) (st := []) rfl ⟨Nat.le_of_ble_eq_true rfl, Nat.le_of_ble_eq_true rfl⟩ ⟨Nat.le_of_ble_eq_true rfl, Nat.le_of_ble_eq_true rfl⟩ (Nat.le_of_ble_eq_true rfl) (fun a_104 w_104 h_104 ok_104 => ?_)
              have hE := h_104.1
              rw [show w_78.1 33 6 = w.1 33 6 from hF0 33 6 (by omega)] at hE
              have hw9 := zSeaM_w9 w (60 * k + i) 0 n.toNat
              have hN9 : w_104.1 33 20 = (zSeaM w (60 * k + i) 0 n.toNat).2.1 := (by rw [← zSeaM_eq hF0]; exact h_104.2.2 (by rw [hF0 33 6 (by omega)]; omega))
              have hS9 : a_104 = zSet (fun g => decide ((zSeaM w (60 * k + i) g n.toNat).1 = v)) (w.1 33 6).toNat := (by rw [hE]; exact zSet_eq (fun g _ _ => by rw [zSeaM_eq hF0]; exact decide_eq_decide.mpr (by omega)))
              refine r_istore (ls' := [(7, zI a_104), (6, zI a_78), (0, zR 33), (1, zI k), (2, zI lane), (3, zI i), (4, zI n), (5, zI v)]) 7 dM_may_107 (by decide) rfl ?_
              refine r_aload_n 0 2 dM_may_109 rfl rfl ?_
              refine r_getI (k := 20) fX7 rfl rfl (by decide) kw_525 rfl 20 rfl dM_may_110 rfl (fun y_110 ey_110 ly_110 uy_110 => ?_)
              refine r_if_ge 121 dM_may_113 (by decide) ⟨by omega, by omega⟩ (fun c_113 => ?_) (fun c_113 => ?_)
              · refine r_bipush dM_may_121 (by decide) ?_
                refine r_aload_n 0 2 dM_may_123 rfl rfl ?_
                refine r_getI (k := 20) fX7 rfl rfl (by decide) kw_525 rfl 20 rfl dM_may_124 rfl (fun y_124 ey_124 ly_124 uy_124 => ?_)
                refine r_isub dM_may_127 ?_
                refine r_iret rfl dM_may_128 ⟨_, rfl, ?_⟩
                exact ⟨by have hp9 := h_78.1; rw [if_neg (show ¬ (k < 0 ∨ 4 ≤ k) by omega), if_neg (show ¬ (lane < 0 ∨ 2 < lane ∨ n < 0 ∨ 20 < n ∨ v < 0 ∨ 5 < v) by omega), if_neg (show ¬ w.1 33 6 = 0 by omega), if_neg (show ¬ ¬ _ = (0 : Int) by omega)]; first | (rw [if_pos (by omega)]; omega) | (rw [if_neg (by omega)]; exact hS9), (hF0.trans h_104.2.1).eq⟩
              · refine r_iload 7 0 dM_may_116 rfl ?_
                refine r_goto 128 dM_may_118 (by decide) ?_
                refine r_iret rfl dM_may_128 ⟨_, rfl, ?_⟩
                exact ⟨by have hp9 := h_78.1; rw [if_neg (show ¬ (k < 0 ∨ 4 ≤ k) by omega), if_neg (show ¬ (lane < 0 ∨ 2 < lane ∨ n < 0 ∨ 20 < n ∨ v < 0 ∨ 5 < v) by omega), if_neg (show ¬ w.1 33 6 = 0 by omega), if_neg (show ¬ ¬ _ = (0 : Int) by omega)]; first | (rw [if_pos (by omega)]; omega) | (rw [if_neg (by omega)]; exact hS9), (hF0.trans h_104.2.1).eq⟩
            · refine r_iload 6 0 dM_may_88 rfl ?_
              refine r_iret rfl dM_may_90 ⟨_, rfl, ?_⟩
              exact ⟨by have hp9 := h_78.1; rw [if_neg (show ¬ (k < 0 ∨ 4 ≤ k) by omega), if_neg (show ¬ (lane < 0 ∨ 2 < lane ∨ n < 0 ∨ 20 < n ∨ v < 0 ∨ 5 < v) by omega), if_neg (show ¬ w.1 33 6 = 0 by omega), if_pos (show ¬ _ = (0 : Int) by omega)]; exact hp9, hF0.eq⟩
          · refine r_aload_n 0 0 dM_may_65 rfl rfl ?_
            refine r_bipush dM_may_66 (by decide) ?_
            refine r_cVI (cM_refused w (-3)) qM_refused rfl kw_631 rfl rfl dM_may_68 (st0 := [zI (-3), zR 33]) (st := []) rfl ⟨Nat.le_of_ble_eq_true rfl, Nat.le_of_ble_eq_true rfl⟩ ⟨Nat.le_of_ble_eq_true rfl, Nat.le_of_ble_eq_true rfl⟩ (Nat.le_of_ble_eq_true rfl) (fun a_68 w_68 h_68 ok_68 => ?_)
            refine r_iret rfl dM_may_71 ⟨_, rfl, ?_⟩
            exact ⟨by rw [if_neg (show ¬ (k < 0 ∨ 4 ≤ k) by omega), if_neg (show ¬ (lane < 0 ∨ 2 < lane ∨ n < 0 ∨ 20 < n ∨ v < 0 ∨ 5 < v) by omega), if_pos (show w.1 33 6 = 0 by omega), if_pos (by decide)]; omega, (show zEq w w_68 from by rw [h_68.1]; exact (zEq.refl w).put (by decide))⟩
        · refine r_aload_n 0 0 dM_may_51 rfl rfl ?_
          refine r_bipush dM_may_52 (by decide) ?_
          refine r_cVI (cM_refused w (-2)) qM_refused rfl kw_631 rfl rfl dM_may_54 (st0 := [zI (-2), zR 33]) (st := []) rfl ⟨Nat.le_of_ble_eq_true rfl, Nat.le_of_ble_eq_true rfl⟩ ⟨Nat.le_of_ble_eq_true rfl, Nat.le_of_ble_eq_true rfl⟩ (Nat.le_of_ble_eq_true rfl) (fun a_54 w_54 h_54 ok_54 => ?_)
          refine r_iret rfl dM_may_57 ⟨_, rfl, ?_⟩
          exact ⟨by rw [if_neg (show ¬ (k < 0 ∨ 4 ≤ k) by omega), if_pos (show lane < 0 ∨ 2 < lane ∨ n < 0 ∨ 20 < n ∨ v < 0 ∨ 5 < v by omega), if_pos (by decide)]; omega, (show zEq w w_54 from by rw [h_54.1]; exact (zEq.refl w).put (by decide))⟩
  · refine r_aload_n 0 0 dM_may_7 rfl rfl ?_
    refine r_iconst dM_may_8 ?_
    refine r_cVI (cM_refused w (-1)) qM_refused rfl kw_631 rfl rfl dM_may_9 (st0 := [zI (-1), zR 33]) (st := []) rfl ⟨Nat.le_of_ble_eq_true rfl, Nat.le_of_ble_eq_true rfl⟩ ⟨Nat.le_of_ble_eq_true rfl, Nat.le_of_ble_eq_true rfl⟩ (Nat.le_of_ble_eq_true rfl) (fun a_9 w_9 h_9 ok_9 => ?_)
    refine r_iret rfl dM_may_12 ⟨_, rfl, ?_⟩
    exact ⟨by rw [if_pos (show k < 0 ∨ 4 ≤ k by omega), if_pos (by decide)]; omega, (show zEq w w_9 from by rw [h_9.1]; exact (zEq.refl w).put (by decide))⟩

set_option maxRecDepth 20000 in
set_option maxHeartbeats 4000000 in
theorem cM_odds (w : zW) (k : Int) (lane : Int) (i : Int) (n : Int) (v : Int) (which : Int) (zk : zin k) (zlane : zin lane) (zi : zin i) (zn : zin n) (zv : zin v) (zwhich : zin which) : zC mM_odds 5 [zR 33, zI k, zI lane, zI i, zI n, zI v, zI which] w (zrJ fun a w' => a = (if ¬ (if k < 0 ∨ 4 ≤ k then -1 else if lane < 0 ∨ 2 < lane ∨ n < 0 ∨ 20 < n ∨ v < 0 ∨ 5 < v then -2 else if w.1 33 6 = 0 then -3 else fPairs (w.1 33 6) (w.1 33 3) (w.1 48 k) (w.1 49 k) lane i n (fun j => w.1 50 (60 * k + i + j))) = 0 ∨ which < 0 ∨ 1 < which then zLOST else if ¬ (zSeaM w (60 * k + i) 0 n.toNat).2.1 = -9 then zLOST else fShare (zCnt (fun g => decide (v ≤ (zSeaM w (60 * k + i) g n.toNat).1)) (w.1 33 6).toNat) (w.1 33 6) which) ∧ zEq w w') := by
  refine zC.of (by decide +kernel) (Nat.le_of_ble_eq_true rfl) ?_
  show zM mM_odds (zZm 5 _) 0 [(0, zR 33), (1, zI k), (2, zI lane), (3, zI i), (4, zI n), (5, zI v), (6, zI which)] [] w
  refine r_ok (fun hO => ?_)
  have hL := hO 48 k
  change -1 ≤ w.1 48 k ∧ w.1 48 k ≤ 60 at hL
  have hG := hO 33 6
  change 0 ≤ w.1 33 6 ∧ w.1 33 6 ≤ 6 at hG
  have hDs := hO 33 3
  change 0 ≤ w.1 33 3 ∧ w.1 33 3 ≤ 4 at hDs
  have hSt := hO 33 1
  change 0 ≤ w.1 33 1 ∧ w.1 33 1 ≤ 5 at hSt
  refine r_iload_n 1 1 dM_odds_0 rfl rfl ?_
  refine r_cSI (cM_noSheet w k (by omega)) qM_noSheet rfl kw_624 dM_odds_1 (st0 := [zI k]) (st := []) rfl ⟨Nat.le_of_ble_eq_true rfl, Nat.le_of_ble_eq_true rfl⟩ ⟨Nat.le_of_ble_eq_true rfl, Nat.le_of_ble_eq_true rfl⟩ (Nat.le_of_ble_eq_true rfl) (fun a_1 w_1 h_1 ok_1 => ?_)
  obtain ⟨rfl, h_1⟩ := h_1
  have J_61 : ∀ (b : Int) (hb : (b = 1 ∧ 0 ≤ k ∧ k < 4 ∧ 0 ≤ lane ∧ lane ≤ 2 ∧ 0 ≤ n ∧ n ≤ 20 ∧ 0 ≤ v ∧ v ≤ 5 ∧ 0 ≤ which ∧ which ≤ 1) ∨ (b = 0 ∧ (k < 0 ∨ 4 ≤ k ∨ lane < 0 ∨ 2 < lane ∨ n < 0 ∨ 20 < n ∨ v < 0 ∨ 5 < v ∨ which < 0 ∨ 1 < which))), zM mM_odds (zZm 5 (zrJ fun a w' => a = (if ¬ (if k < 0 ∨ 4 ≤ k then -1 else if lane < 0 ∨ 2 < lane ∨ n < 0 ∨ 20 < n ∨ v < 0 ∨ 5 < v then -2 else if w.1 33 6 = 0 then -3 else fPairs (w.1 33 6) (w.1 33 3) (w.1 48 k) (w.1 49 k) lane i n (fun j => w.1 50 (60 * k + i + j))) = 0 ∨ which < 0 ∨ 1 < which then zLOST else if ¬ (zSeaM w (60 * k + i) 0 n.toNat).2.1 = -9 then zLOST else fShare (zCnt (fun g => decide (v ≤ (zSeaM w (60 * k + i) g n.toNat).1)) (w.1 33 6).toNat) (w.1 33 6) which) ∧ zEq w w')) 61 [(0, zR 33), (1, zI k), (2, zI lane), (3, zI i), (4, zI n), (5, zI v), (6, zI which)] [zI b] w := by
    intro b hb
    refine r_istore (ls' := [(7, zI b), (0, zR 33), (1, zI k), (2, zI lane), (3, zI i), (4, zI n), (5, zI v), (6, zI which)]) 7 dM_odds_61 (by decide) rfl ?_
    refine r_iload 7 0 dM_odds_63 rfl ?_
    refine r_if_eq 75 dM_odds_65 (by decide) ⟨by omega, by omega⟩ (fun c_65 => ?_) (fun c_65 => ?_)
    · refine r_aload_n 0 1 dM_odds_75 rfl rfl ?_
      refine r_cVJ (cM_refusedLong w) qM_refusedLong rfl kw_786 rfl rfl dM_odds_76 (st0 := [zR 33]) (st := []) rfl ⟨Nat.le_of_ble_eq_true rfl, Nat.le_of_ble_eq_true rfl⟩ ⟨Nat.le_of_ble_eq_true rfl, Nat.le_of_ble_eq_true rfl⟩ (Nat.le_of_ble_eq_true rfl) (fun a_76 w_76 h_76 ok_76 => ?_)
      refine r_lret rfl dM_odds_79 ⟨_, rfl, ?_⟩
      exact ⟨by first | (rw [if_pos (show ¬ (if k < 0 ∨ 4 ≤ k then -1 else if lane < 0 ∨ 2 < lane ∨ n < 0 ∨ 20 < n ∨ v < 0 ∨ 5 < v then -2 else if w.1 33 6 = 0 then -3 else fPairs (w.1 33 6) (w.1 33 3) (w.1 48 k) (w.1 49 k) lane i n (fun j => w.1 50 (60 * k + i + j))) = 0 ∨ which < 0 ∨ 1 < which by omega)]; exact h_76.2) | (rw [if_pos (show ¬ (if k < 0 ∨ 4 ≤ k then -1 else if lane < 0 ∨ 2 < lane ∨ n < 0 ∨ 20 < n ∨ v < 0 ∨ 5 < v then -2 else if w.1 33 6 = 0 then -3 else fPairs (w.1 33 6) (w.1 33 3) (w.1 48 k) (w.1 49 k) lane i n (fun j => w.1 50 (60 * k + i + j))) = 0 ∨ which < 0 ∨ 1 < which from by (repeat' split) <;> omega)]; exact h_76.2), (show zEq w w_76 from by rw [h_76.1]; exact (zEq.refl w).put (by decide))⟩
    · refine r_aload_n 0 1 dM_odds_68 rfl rfl ?_
      refine r_getI (k := 6) fX7 rfl rfl (by decide) kw_511 rfl 6 rfl dM_odds_69 rfl (fun y_69 ey_69 ly_69 uy_69 => ?_)
      refine r_if_ne 80 dM_odds_72 (by decide) ⟨by omega, by omega⟩ (fun c_72 => ?_) (fun c_72 => ?_)
      · refine r_aload_n 0 1 dM_odds_80 rfl rfl ?_
        refine r_iload_n 1 2 dM_odds_81 rfl rfl ?_
        refine r_iload_n 2 3 dM_odds_82 rfl rfl ?_
        refine r_iload_n 3 4 dM_odds_83 rfl rfl ?_
        refine r_iload 4 5 dM_odds_84 rfl ?_
        refine r_cVI (cM_pairsBarred w k lane i n (by omega) (by omega) (by omega) (by omega) (by omega) (by omega)) qM_pairsBarred rfl kw_715 rfl rfl dM_odds_86 (st0 := [zI n, zI i, zI lane, zI k, zR 33]) (st := []) rfl ⟨Nat.le_of_ble_eq_true rfl, Nat.le_of_ble_eq_true rfl⟩ ⟨Nat.le_of_ble_eq_true rfl, Nat.le_of_ble_eq_true rfl⟩ (Nat.le_of_ble_eq_true rfl) (fun a_86 w_86 h_86 ok_86 => ?_)
        have hF0 : zF2 w w_86 := h_86.2.1.two
        have hpi : -13 ≤ a_86 ∧ a_86 ≤ 0 := (by rw [h_86.1]; exact fPairs_in)
        refine r_if_ge 96 dM_odds_89 (by decide) ⟨by omega, by omega⟩ (fun c_89 => ?_) (fun c_89 => ?_)
        · rcases h_86.2.2 with q | ⟨_, i0, i1, hv⟩
          exact absurd q (by omega)
          refine r_aload_n 0 1 dM_odds_96 rfl rfl ?_
          refine r_bipush dM_odds_97 (by decide) ?_
          refine r_iload_n 1 2 dM_odds_99 rfl rfl ?_
          refine r_imul dM_odds_100 ?_
          refine r_iload_n 3 4 dM_odds_101 rfl rfl ?_
          refine r_iadd dM_odds_102 ?_
          refine r_iload 4 5 dM_odds_103 rfl ?_
          refine r_iload 5 6 dM_odds_105 rfl ?_
          refine r_iconst dM_odds_107 ?_
          refine r_cVI (cM_endingWith w_86 ((60 * k) + i) n v 5 (by omega) (by omega) (by omega) (by omega) (fun p p0 p1 => by have q := hv p p0 p1; rw [h_86.2.1 _ _ (by omega), h_86.2.1 _ _ (by omega)]; omega) (by omega) (by omega)) qM_endingWith rfl kw_727 rfl rfl dM_odds_108 (st0 := [zI 5, zI v, zI n, zI ((60 * k) + i), zR 33]) (st := []) rfl ⟨Nat.le_of_ble_eq_true rfl, Nat.le_of_ble_eq_true rfl⟩ ⟨Nat.le_of_ble_eq_true rfl, Nat.le_of_ble_eq_true rfl⟩ (Nat.le_of_ble_eq_true rfl) (fun a_108 w_108 h_108 ok_108 => ?_)
          have hE := h_108.1
          rw [show w_86.1 33 6 = w.1 33 6 from hF0 33 6 (by omega)] at hE
          have hF9 := hF0.trans h_108.2.1
          have hw9 := zSeaM_w9 w (60 * k + i) 0 n.toNat
          have hN9 : w_108.1 33 20 = (zSeaM w (60 * k + i) 0 n.toNat).2.1 := (by rw [← zSeaM_eq hF0]; exact h_108.2.2 (by rw [hF0 33 6 (by omega)]; omega))
          have hS9 : a_108 = zSet (fun g => decide (v ≤ (zSeaM w (60 * k + i) g n.toNat).1)) (w.1 33 6).toNat := (by rw [hE]; exact zSet_eq (fun g _ _ => by rw [zSeaM_eq hF0]; have z9 : (zSeaM w (60 * k + i) g n.toNat).1 ≤ w.1 33 1 := zSea_le _; exact decide_eq_decide.mpr (by omega)))
          have hg9 : w_108.1 33 6 = w.1 33 6 := hF9 33 6 (by omega)
          refine r_istore (ls' := [(8, zI a_108), (7, zI b), (0, zR 33), (1, zI k), (2, zI lane), (3, zI i), (4, zI n), (5, zI v), (6, zI which)]) 8 dM_odds_111 (by decide) rfl ?_
          refine r_aload_n 0 2 dM_odds_113 rfl rfl ?_
          refine r_getI (k := 20) fX7 rfl rfl (by decide) kw_525 rfl 20 rfl dM_odds_114 rfl (fun y_114 ey_114 ly_114 uy_114 => ?_)
          refine r_if_lt 124 dM_odds_117 (by decide) ⟨by omega, by omega⟩ (fun c_117 => ?_) (fun c_117 => ?_)
          · refine r_lconst (v := 0) dM_odds_124 rfl ?_
            refine r_lstore (ls' := [(9, zJ 0), (8, zI a_108), (7, zI b), (0, zR 33), (1, zI k), (2, zI lane), (3, zI i), (4, zI n), (5, zI v), (6, zI which)]) 9 dM_odds_125 (by decide) rfl ?_
            refine r_iconst dM_odds_127 ?_
            refine r_istore (ls' := [(11, zI 0), (9, zJ 0), (8, zI a_108), (7, zI b), (0, zR 33), (1, zI k), (2, zI lane), (3, zI i), (4, zI n), (5, zI v), (6, zI which)]) 11 dM_odds_128 (by decide) rfl ?_
            have L_130 : ∀ (n_130 : Nat) (up : Int) (g : Int) (hg0 : 0 ≤ g) (hg1 : g ≤ w.1 33 6) (hup : 0 ≤ up ∧ up ≤ g) (hs : up = zCnt (fun g => decide (v ≤ (zSeaM w (60 * k + i) g n.toNat).1)) g.toNat), w.1 33 6 - g < (n_130 : Int) → zM mM_odds (zZm 5 (zrJ fun a w' => a = (if ¬ (if k < 0 ∨ 4 ≤ k then -1 else if lane < 0 ∨ 2 < lane ∨ n < 0 ∨ 20 < n ∨ v < 0 ∨ 5 < v then -2 else if w.1 33 6 = 0 then -3 else fPairs (w.1 33 6) (w.1 33 3) (w.1 48 k) (w.1 49 k) lane i n (fun j => w.1 50 (60 * k + i + j))) = 0 ∨ which < 0 ∨ 1 < which then zLOST else if ¬ (zSeaM w (60 * k + i) 0 n.toNat).2.1 = -9 then zLOST else fShare (zCnt (fun g => decide (v ≤ (zSeaM w (60 * k + i) g n.toNat).1)) (w.1 33 6).toNat) (w.1 33 6) which) ∧ zEq w w')) 130 [(11, zI g), (9, zJ up), (8, zI a_108), (7, zI b), (0, zR 33), (1, zI k), (2, zI lane), (3, zI i), (4, zI n), (5, zI v), (6, zI which)] [] w_108 := by
              intro n_130
              induction n_130 with
              | zero => intro up g hg0 hg1 hup hs hm_130; exfalso; omega
              | succ n_130 ih_130 =>
                intro up g hg0 hg1 hup hs hm_130
                refine r_iload 11 0 dM_odds_130 rfl ?_
                refine r_aload_n 0 4 dM_odds_132 rfl rfl ?_
                refine r_getI (k := 6) fX7 rfl rfl (by decide) kw_511 rfl 6 rfl dM_odds_133 rfl (fun y_133 ey_133 ly_133 uy_133 => ?_)
                refine r_ic_ge 165 dM_odds_136 (by decide) ⟨by omega, by omega⟩ ⟨by omega, by omega⟩ (fun c_136 => ?_) (fun c_136 => ?_)
                · refine r_lload 9 1 dM_odds_165 rfl ?_
                  refine r_aload_n 0 4 dM_odds_167 rfl rfl ?_
                  refine r_getI (k := 6) fX7 rfl rfl (by decide) kw_511 rfl 6 rfl dM_odds_168 rfl (fun y_168 ey_168 ly_168 uy_168 => ?_)
                  refine r_i2l dM_odds_171 ⟨by omega, by omega⟩ ?_
                  refine r_iload 6 10 dM_odds_172 rfl ?_
                  refine r_cSJ (cM_share w_108 up y_168 which (by have := zCnt_in (fun g => decide (v ≤ (zSeaM w (60 * k + i) g n.toNat).1)) g.toNat; omega) (by have := zCnt_in (fun g => decide (v ≤ (zSeaM w (60 * k + i) g n.toNat).1)) g.toNat; omega) (by have := zCnt_in (fun g => decide (v ≤ (zSeaM w (60 * k + i) g n.toNat).1)) g.toNat; omega) (by have := zCnt_in (fun g => decide (v ≤ (zSeaM w (60 * k + i) g n.toNat).1)) g.toNat; omega) (by have := zCnt_in (fun g => decide (v ≤ (zSeaM w (60 * k + i) g n.toNat).1)) g.toNat; omega)) qM_share rfl kw_794 dM_odds_174 (st0 := [zI which, zJ y_168, zJ up]) (st := []) rfl ⟨Nat.le_of_ble_eq_true rfl, Nat.le_of_ble_eq_true rfl⟩ ⟨Nat.le_of_ble_eq_true rfl, Nat.le_of_ble_eq_true rfl⟩ (Nat.le_of_ble_eq_true rfl) (fun a_174 w_174 h_174 ok_174 => ?_)
                  obtain ⟨rfl, h_174⟩ := h_174
                  refine r_lret rfl dM_odds_177 ⟨_, rfl, ?_⟩
                  exact ⟨by have hp9 := h_86.1; rw [if_neg (show ¬ (k < 0 ∨ 4 ≤ k) by omega), if_neg (show ¬ (lane < 0 ∨ 2 < lane ∨ n < 0 ∨ 20 < n ∨ v < 0 ∨ 5 < v) by omega), if_neg (show ¬ w.1 33 6 = 0 by omega), if_neg (show ¬ (¬ _ = (0 : Int) ∨ which < 0 ∨ 1 < which) by omega), if_neg (by omega), show (w.1 33 6).toNat = g.toNat by omega, ← hs, h_174, show y_168 = w.1 33 6 by omega], hF9.eq⟩
                · refine r_lload 9 1 dM_odds_139 rfl ?_
                  refine r_iload 8 2 dM_odds_141 rfl ?_
                  refine r_iload 11 0 dM_odds_143 rfl ?_
                  refine r_cSI (cM_isIn w_108 a_108 g) qM_isIn rfl kw_739 dM_odds_145 (st0 := [zI g, zI a_108, zJ up]) (st := [zJ up]) rfl ⟨Nat.le_of_ble_eq_true rfl, Nat.le_of_ble_eq_true rfl⟩ ⟨Nat.le_of_ble_eq_true rfl, Nat.le_of_ble_eq_true rfl⟩ (Nat.le_of_ble_eq_true rfl) (fun a_145 w_145 h_145 ok_145 => ?_)
                  obtain ⟨rfl, h_145⟩ := h_145
                  refine r_if_eq 155 dM_odds_148 (by decide) ⟨by omega, by omega⟩ (fun c_148 => ?_) (fun c_148 => ?_)
                  · refine r_lconst (v := 0) dM_odds_155 rfl ?_
                    refine r_ladd dM_odds_156 ?_
                    refine r_nmJ (fun x_157 ex_157 => ?_)
                    refine r_lstore (ls' := [(9, zJ x_157), (11, zI g), (8, zI a_108), (7, zI b), (0, zR 33), (1, zI k), (2, zI lane), (3, zI i), (4, zI n), (5, zI v), (6, zI which)]) 9 dM_odds_157 (by decide) rfl ?_
                    refine r_iinc (ls' := [(11, zI (g + 1)), (9, zJ x_157), (8, zI a_108), (7, zI b), (0, zR 33), (1, zI k), (2, zI lane), (3, zI i), (4, zI n), (5, zI v), (6, zI which)]) 11 1 dM_odds_159 rfl (by decide) rfl ?_
                    refine r_goto 130 dM_odds_162 (by decide) ?_
                    exact ih_130 x_157 (g + 1) (by omega) (by omega) (by omega) (by rw [zCnt_s _ hg0, ← hs]; have q9 := zSet_bit (fun g => decide (v ≤ (zSeaM w (60 * k + i) g n.toNat).1)) (n := (w.1 33 6).toNat) (g := g) (by omega) hg0 (by omega); rw [← hS9] at q9; by_cases z : (fun g => decide (v ≤ (zSeaM w (60 * k + i) g n.toNat).1)) g = true; (rw [if_pos z]; have z2 : ziand (zshr a_108 g) 1 = 1 := q9.mpr z; omega); (rw [if_neg z]; have z2 : ¬ ziand (zshr a_108 g) 1 = 1 := fun u => z (q9.mp u); omega)) (by omega)
                  · refine r_lconst (v := 1) dM_odds_151 rfl ?_
                    refine r_goto 156 dM_odds_152 (by decide) ?_
                    refine r_ladd dM_odds_156 ?_
                    refine r_nmJ (fun x_157 ex_157 => ?_)
                    refine r_lstore (ls' := [(9, zJ x_157), (11, zI g), (8, zI a_108), (7, zI b), (0, zR 33), (1, zI k), (2, zI lane), (3, zI i), (4, zI n), (5, zI v), (6, zI which)]) 9 dM_odds_157 (by decide) rfl ?_
                    refine r_iinc (ls' := [(11, zI (g + 1)), (9, zJ x_157), (8, zI a_108), (7, zI b), (0, zR 33), (1, zI k), (2, zI lane), (3, zI i), (4, zI n), (5, zI v), (6, zI which)]) 11 1 dM_odds_159 rfl (by decide) rfl ?_
                    refine r_goto 130 dM_odds_162 (by decide) ?_
                    exact ih_130 x_157 (g + 1) (by omega) (by omega) (by omega) (by rw [zCnt_s _ hg0, ← hs]; have q9 := zSet_bit (fun g => decide (v ≤ (zSeaM w (60 * k + i) g n.toNat).1)) (n := (w.1 33 6).toNat) (g := g) (by omega) hg0 (by omega); rw [← hS9] at q9; by_cases z : (fun g => decide (v ≤ (zSeaM w (60 * k + i) g n.toNat).1)) g = true; (rw [if_pos z]; have z2 : ziand (zshr a_108 g) 1 = 1 := q9.mpr z; omega); (rw [if_neg z]; have z2 : ¬ ziand (zshr a_108 g) 1 = 1 := fun u => z (q9.mp u); omega)) (by omega)
            exact L_130 7 0 0 (by omega) (by omega) (by omega) rfl (by omega)
          · refine r_cSJ (cM_lost w_108) qM_lost rfl kw_790 dM_odds_120 (st0 := []) (st := []) rfl ⟨Nat.le_of_ble_eq_true rfl, Nat.le_of_ble_eq_true rfl⟩ ⟨Nat.le_of_ble_eq_true rfl, Nat.le_of_ble_eq_true rfl⟩ (Nat.le_of_ble_eq_true rfl) (fun a_120 w_120 h_120 ok_120 => ?_)
            obtain ⟨rfl, h_120⟩ := h_120
            refine r_lret rfl dM_odds_123 ⟨_, rfl, ?_⟩
            exact ⟨by have hp9 := h_86.1; rw [if_neg (show ¬ (k < 0 ∨ 4 ≤ k) by omega), if_neg (show ¬ (lane < 0 ∨ 2 < lane ∨ n < 0 ∨ 20 < n ∨ v < 0 ∨ 5 < v) by omega), if_neg (show ¬ w.1 33 6 = 0 by omega), if_neg (show ¬ (¬ _ = (0 : Int) ∨ which < 0 ∨ 1 < which) by omega), if_pos (by omega)]; exact h_120, hF9.eq⟩
        · refine r_cSJ (cM_lost w_86) qM_lost rfl kw_790 dM_odds_92 (st0 := []) (st := []) rfl ⟨Nat.le_of_ble_eq_true rfl, Nat.le_of_ble_eq_true rfl⟩ ⟨Nat.le_of_ble_eq_true rfl, Nat.le_of_ble_eq_true rfl⟩ (Nat.le_of_ble_eq_true rfl) (fun a_92 w_92 h_92 ok_92 => ?_)
          obtain ⟨rfl, h_92⟩ := h_92
          refine r_lret rfl dM_odds_95 ⟨_, rfl, ?_⟩
          exact ⟨by have hp9 := h_86.1; rw [if_neg (show ¬ (k < 0 ∨ 4 ≤ k) by omega), if_neg (show ¬ (lane < 0 ∨ 2 < lane ∨ n < 0 ∨ 20 < n ∨ v < 0 ∨ 5 < v) by omega), if_neg (show ¬ w.1 33 6 = 0 by omega), if_pos (show ¬ _ = (0 : Int) ∨ which < 0 ∨ 1 < which by omega)]; exact h_92, hF0.eq⟩
      · refine r_aload_n 0 1 dM_odds_75 rfl rfl ?_
        refine r_cVJ (cM_refusedLong w) qM_refusedLong rfl kw_786 rfl rfl dM_odds_76 (st0 := [zR 33]) (st := []) rfl ⟨Nat.le_of_ble_eq_true rfl, Nat.le_of_ble_eq_true rfl⟩ ⟨Nat.le_of_ble_eq_true rfl, Nat.le_of_ble_eq_true rfl⟩ (Nat.le_of_ble_eq_true rfl) (fun a_76 w_76 h_76 ok_76 => ?_)
        refine r_lret rfl dM_odds_79 ⟨_, rfl, ?_⟩
        exact ⟨by first | (rw [if_pos (show ¬ (if k < 0 ∨ 4 ≤ k then -1 else if lane < 0 ∨ 2 < lane ∨ n < 0 ∨ 20 < n ∨ v < 0 ∨ 5 < v then -2 else if w.1 33 6 = 0 then -3 else fPairs (w.1 33 6) (w.1 33 3) (w.1 48 k) (w.1 49 k) lane i n (fun j => w.1 50 (60 * k + i + j))) = 0 ∨ which < 0 ∨ 1 < which by omega)]; exact h_76.2) | (rw [if_pos (show ¬ (if k < 0 ∨ 4 ≤ k then -1 else if lane < 0 ∨ 2 < lane ∨ n < 0 ∨ 20 < n ∨ v < 0 ∨ 5 < v then -2 else if w.1 33 6 = 0 then -3 else fPairs (w.1 33 6) (w.1 33 3) (w.1 48 k) (w.1 49 k) lane i n (fun j => w.1 50 (60 * k + i + j))) = 0 ∨ which < 0 ∨ 1 < which from by (repeat' split) <;> omega)]; exact h_76.2), (show zEq w w_76 from by rw [h_76.1]; exact (zEq.refl w).put (by decide))⟩
  refine r_if_ne 60 dM_odds_4 (by decide) ⟨by omega, by omega⟩ (fun c_4 => ?_) (fun c_4 => ?_)
  · refine r_iconst dM_odds_60 ?_
    exact J_61 0 (by omega)
  · refine r_iload_n 2 2 dM_odds_7 rfl rfl ?_
    refine r_i2l dM_odds_8 ⟨by omega, by omega⟩ ?_
    refine r_lconst (v := 0) dM_odds_9 rfl ?_
    refine r_ldc2 (a := 2) dM_odds_10 kw_635 (by decide +kernel) ?_
    refine r_cSI (cM_in w lane 0 2 (by omega) (by omega) (by omega)) qM_in rfl kw_628 dM_odds_13 (st0 := [zJ 2, zJ 0, zJ lane]) (st := []) rfl ⟨Nat.le_of_ble_eq_true rfl, Nat.le_of_ble_eq_true rfl⟩ ⟨Nat.le_of_ble_eq_true rfl, Nat.le_of_ble_eq_true rfl⟩ (Nat.le_of_ble_eq_true rfl) (fun a_13 w_13 h_13 ok_13 => ?_)
    obtain ⟨rfl, h_13⟩ := h_13
    refine r_if_eq 60 dM_odds_16 (by decide) ⟨by omega, by omega⟩ (fun c_16 => ?_) (fun c_16 => ?_)
    · refine r_iconst dM_odds_60 ?_
      exact J_61 0 (by omega)
    · refine r_iload 4 4 dM_odds_19 rfl ?_
      refine r_i2l dM_odds_21 ⟨by omega, by omega⟩ ?_
      refine r_lconst (v := 0) dM_odds_22 rfl ?_
      refine r_ldc2 (a := 20) dM_odds_23 kw_713 (by decide +kernel) ?_
      refine r_cSI (cM_in w n 0 20 (by omega) (by omega) (by omega)) qM_in rfl kw_628 dM_odds_26 (st0 := [zJ 20, zJ 0, zJ n]) (st := []) rfl ⟨Nat.le_of_ble_eq_true rfl, Nat.le_of_ble_eq_true rfl⟩ ⟨Nat.le_of_ble_eq_true rfl, Nat.le_of_ble_eq_true rfl⟩ (Nat.le_of_ble_eq_true rfl) (fun a_26 w_26 h_26 ok_26 => ?_)
      obtain ⟨rfl, h_26⟩ := h_26
      refine r_if_eq 60 dM_odds_29 (by decide) ⟨by omega, by omega⟩ (fun c_29 => ?_) (fun c_29 => ?_)
      · refine r_iconst dM_odds_60 ?_
        exact J_61 0 (by omega)
      · refine r_iload 5 5 dM_odds_32 rfl ?_
        refine r_i2l dM_odds_34 ⟨by omega, by omega⟩ ?_
        refine r_lconst (v := 0) dM_odds_35 rfl ?_
        refine r_ldc2 (a := 5) dM_odds_36 kw_704 (by decide +kernel) ?_
        refine r_cSI (cM_in w v 0 5 (by omega) (by omega) (by omega)) qM_in rfl kw_628 dM_odds_39 (st0 := [zJ 5, zJ 0, zJ v]) (st := []) rfl ⟨Nat.le_of_ble_eq_true rfl, Nat.le_of_ble_eq_true rfl⟩ ⟨Nat.le_of_ble_eq_true rfl, Nat.le_of_ble_eq_true rfl⟩ (Nat.le_of_ble_eq_true rfl) (fun a_39 w_39 h_39 ok_39 => ?_)
        obtain ⟨rfl, h_39⟩ := h_39
        refine r_if_eq 60 dM_odds_42 (by decide) ⟨by omega, by omega⟩ (fun c_42 => ?_) (fun c_42 => ?_)
        · refine r_iconst dM_odds_60 ?_
          exact J_61 0 (by omega)
        · refine r_iload 6 6 dM_odds_45 rfl ?_
          refine r_i2l dM_odds_47 ⟨by omega, by omega⟩ ?_
          refine r_lconst (v := 0) dM_odds_48 rfl ?_
          refine r_lconst (v := 1) dM_odds_49 rfl ?_
          refine r_cSI (cM_in w which 0 1 (by omega) (by omega) (by omega)) qM_in rfl kw_628 dM_odds_50 (st0 := [zJ 1, zJ 0, zJ which]) (st := []) rfl ⟨Nat.le_of_ble_eq_true rfl, Nat.le_of_ble_eq_true rfl⟩ ⟨Nat.le_of_ble_eq_true rfl, Nat.le_of_ble_eq_true rfl⟩ (Nat.le_of_ble_eq_true rfl) (fun a_50 w_50 h_50 ok_50 => ?_)
          obtain ⟨rfl, h_50⟩ := h_50
          refine r_if_eq 60 dM_odds_53 (by decide) ⟨by omega, by omega⟩ (fun c_53 => ?_) (fun c_53 => ?_)
          · refine r_iconst dM_odds_60 ?_
            exact J_61 0 (by omega)
          · refine r_iconst dM_odds_56 ?_
            refine r_goto 61 dM_odds_57 (by decide) ?_
            exact J_61 1 (by omega)
