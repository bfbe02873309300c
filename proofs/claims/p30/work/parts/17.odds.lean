set_option maxRecDepth 20000 in
set_option maxHeartbeats 4000000 in
theorem cC_season (w : zW) (g : Int) (k : Int) (lane : Int) (i : Int) (n : Int) (what : Int) (zg : zin g) (zk : zin k) (zlane : zin lane) (zi : zin i) (zn : zin n) (zwhat : zin what) : zC mC_season 4 [zR 0, zI g, zI k, zI lane, zI i, zI n, zI what] w (zrI fun a w' => a = (if g < 0 ∨ w.1 1 3 ≤ g ∨ k < 0 ∨ 4 ≤ k then -1 else if lane < 0 ∨ 2 < lane ∨ n < 0 ∨ 20 < n ∨ what < 0 ∨ 4 < what then -2 else if ¬ fPairs (w.1 1 3) (w.1 1 2) (zSz w k) (w.1 14 k) lane i n (fun j => w.1 (16 + k.toNat) (i + j)) = 0 then fPairs (w.1 1 3) (w.1 1 2) (zSz w k) (w.1 14 k) lane i n (fun j => w.1 (16 + k.toNat) (i + j)) else if what = 1 then (zSeaC w (16 + k.toNat) i g n.toNat).2.1 else if ¬ (zSeaC w (16 + k.toNat) i g n.toNat).2.1 = -9 then -100 - (zSeaC w (16 + k.toNat) i g n.toNat).2.1 else if what = 0 then (zSeaC w (16 + k.toNat) i g n.toNat).1 else if what = 2 then (zSeaC w (16 + k.toNat) i g n.toNat).2.2.1 else if what = 3 then (zSeaC w (16 + k.toNat) i g n.toNat).2.2.2.1 else (zSeaC w (16 + k.toNat) i g n.toNat).2.2.2.2) ∧ zEq w w') := by
  refine zC.of (by decide +kernel) (Nat.le_of_ble_eq_true rfl) ?_
  show zM mC_season (zZm 4 _) 0 [(0, zR 0), (1, zI g), (2, zI k), (3, zI lane), (4, zI i), (5, zI n), (6, zI what)] [] w
  refine r_ok (fun hO => ?_)
  have hL := hO 15 k
  change 0 ≤ w.1 15 k ∧ w.1 15 k ≤ 60 at hL
  have hG := hO 1 3
  change 0 ≤ w.1 1 3 ∧ w.1 1 3 ≤ 6 at hG
  have hDs := hO 1 2
  change 0 ≤ w.1 1 2 ∧ w.1 1 2 ≤ 4 at hDs
  refine r_aload_n 0 0 dC_season_0 rfl rfl ?_
  refine r_iconst dC_season_1 ?_
  refine r_putI (k := 7) fX6 rfl rfl (by decide) kw_194 rfl rfl (by decide +kernel) 7 rfl dC_season_2 rfl (by omega) (by omega) (fun w_2 ew_2 => ?_)
  have hz2 : ∀ i k, i ≠ 0 → w_2.1 i k = w.1 i k := fun i k q => by rw [ew_2, zput_i _ _ _ _ q]
  have hq2 : zEq w w_2 := by rw [ew_2]; exact (zEq.refl w).put (by decide)
  have hs2 : ∀ q, zSz w_2 q = zSz w q := fun q => by unfold zSz; rw [hz2 13 q (by decide), hz2 15 q (by decide)]
  have hr2 : (fun j => w_2.1 (16 + k.toNat) (i + j)) = (fun j => w.1 (16 + k.toNat) (i + j)) := funext fun j => hz2 _ _ (by omega)
  refine r_aload_n 0 0 dC_season_5 rfl rfl ?_
  refine r_getR (k := 0) (b := 1) fX6 rfl rfl rfl (by decide) kw_187 rfl dC_season_6 ?_
  refine r_iload_n 1 1 dC_season_9 rfl rfl ?_
  refine r_cVIN (cH_isGuest w_2 g (by omega)) qH_isGuest rfl kw_266 rfl rfl dC_season_10 (st0 := [zI g, zR 1]) (st := []) rfl ⟨Nat.le_of_ble_eq_true rfl, Nat.le_of_ble_eq_true rfl⟩ ⟨Nat.le_of_ble_eq_true rfl, Nat.le_of_ble_eq_true rfl⟩ (Nat.le_of_ble_eq_true rfl) (fun a_10 w_10 h_10 ok_10 => ?_)
  obtain ⟨rfl, h_10⟩ := h_10
  have z_10_0 : w_2.1 1 3 = w.1 1 3 := by rw [ew_2, zput_i (i := 0) (i' := 1) _ _ _ _ (by decide)]
  refine r_if_eq 27 dC_season_13 (by decide) ⟨by omega, by omega⟩ (fun c_13 => ?_) (fun c_13 => ?_)
  · refine r_iconst dC_season_27 ?_
    refine r_iret rfl dC_season_28 ⟨_, rfl, ?_⟩
    exact ⟨by rw [if_pos (by omega)], hq2⟩
  · refine r_aload_n 0 0 dC_season_16 rfl rfl ?_
    refine r_getR (k := 1) (b := 2) fX6 rfl rfl rfl (by decide) kw_188 rfl dC_season_17 ?_
    refine r_iload_n 2 2 dC_season_20 rfl rfl ?_
    refine r_cVIN (cS_isSheet w_2 k (by omega)) qS_isSheet rfl kw_216 rfl rfl dC_season_21 (st0 := [zI k, zR 2]) (st := []) rfl ⟨Nat.le_of_ble_eq_true rfl, Nat.le_of_ble_eq_true rfl⟩ ⟨Nat.le_of_ble_eq_true rfl, Nat.le_of_ble_eq_true rfl⟩ (Nat.le_of_ble_eq_true rfl) (fun a_21 w_21 h_21 ok_21 => ?_)
    obtain ⟨rfl, h_21⟩ := h_21
    refine r_if_ne 29 dC_season_24 (by decide) ⟨by omega, by omega⟩ (fun c_24 => ?_) (fun c_24 => ?_)
    · refine r_iload_n 3 3 dC_season_29 rfl rfl ?_
      refine r_cSI (cC_isLane w_2 lane (by omega)) qC_isLane rfl kw_220 dC_season_30 (st0 := [zI lane]) (st := []) rfl ⟨Nat.le_of_ble_eq_true rfl, Nat.le_of_ble_eq_true rfl⟩ ⟨Nat.le_of_ble_eq_true rfl, Nat.le_of_ble_eq_true rfl⟩ (Nat.le_of_ble_eq_true rfl) (fun a_30 w_30 h_30 ok_30 => ?_)
      obtain ⟨rfl, h_30⟩ := h_30
      refine r_if_eq 55 dC_season_33 (by decide) ⟨by omega, by omega⟩ (fun c_33 => ?_) (fun c_33 => ?_)
      · refine r_bipush dC_season_55 (by decide) ?_
        refine r_iret rfl dC_season_57 ⟨_, rfl, ?_⟩
        exact ⟨by rw [if_neg (by omega), if_pos (by omega)], hq2⟩
      · refine r_iload 5 5 dC_season_36 rfl ?_
        refine r_cSI (cC_isPairs w_2 n (by omega)) qC_isPairs rfl kw_314 dC_season_38 (st0 := [zI n]) (st := []) rfl ⟨Nat.le_of_ble_eq_true rfl, Nat.le_of_ble_eq_true rfl⟩ ⟨Nat.le_of_ble_eq_true rfl, Nat.le_of_ble_eq_true rfl⟩ (Nat.le_of_ble_eq_true rfl) (fun a_38 w_38 h_38 ok_38 => ?_)
        obtain ⟨rfl, h_38⟩ := h_38
        refine r_if_eq 55 dC_season_41 (by decide) ⟨by omega, by omega⟩ (fun c_41 => ?_) (fun c_41 => ?_)
        · refine r_bipush dC_season_55 (by decide) ?_
          refine r_iret rfl dC_season_57 ⟨_, rfl, ?_⟩
          exact ⟨by rw [if_neg (by omega), if_pos (by omega)], hq2⟩
        · refine r_iload 6 6 dC_season_44 rfl ?_
          refine r_if_lt 55 dC_season_46 (by decide) ⟨by omega, by omega⟩ (fun c_46 => ?_) (fun c_46 => ?_)
          · refine r_bipush dC_season_55 (by decide) ?_
            refine r_iret rfl dC_season_57 ⟨_, rfl, ?_⟩
            exact ⟨by rw [if_neg (by omega), if_pos (by omega)], hq2⟩
          · refine r_iload 6 6 dC_season_49 rfl ?_
            refine r_iconst dC_season_51 ?_
            refine r_ic_le 58 dC_season_52 (by decide) ⟨by omega, by omega⟩ ⟨by omega, by omega⟩ (fun c_52 => ?_) (fun c_52 => ?_)
            · refine r_aload_n 0 0 dC_season_58 rfl rfl ?_
              refine r_iload_n 2 2 dC_season_59 rfl rfl ?_
              refine r_iload_n 3 3 dC_season_60 rfl rfl ?_
              refine r_iload 4 4 dC_season_61 rfl ?_
              refine r_iload 5 5 dC_season_63 rfl ?_
              refine r_cVI (cC_refusedPairs w_2 k lane i n (by omega) (by omega) (by omega) (by omega) (by omega) (by omega)) qC_refusedPairs rfl kw_317 rfl rfl dC_season_65 (st0 := [zI n, zI i, zI lane, zI k, zR 0]) (st := []) rfl ⟨Nat.le_of_ble_eq_true rfl, Nat.le_of_ble_eq_true rfl⟩ ⟨Nat.le_of_ble_eq_true rfl, Nat.le_of_ble_eq_true rfl⟩ (Nat.le_of_ble_eq_true rfl) (fun a_65 w_65 h_65 ok_65 => ?_)
              have hfp := fPairs_in (gs := w.1 1 3) (ds := w.1 1 2) (sz := zSz w k) (ln := w.1 14 k) (lane := lane) (i := i) (n := n) (row := fun j => w.1 (16 + k.toNat) (i + j))
              rw [hs2, hr2, hz2 14 k (by decide), hz2 1 3 (by decide), hz2 1 2 (by decide)] at h_65
              have hqr : zEq w w_65 := by
                rcases h_65.2 with ⟨_, ⟨f9, q⟩ | q⟩ | ⟨_, q, _⟩
                · rw [q]; exact hq2.put (by decide)
                · rw [q]; exact hq2
                · rw [q]; exact hq2
              refine r_istore (ls' := [(7, zI a_65), (0, zR 0), (1, zI g), (2, zI k), (3, zI lane), (4, zI i), (5, zI n), (6, zI what)]) 7 dC_season_68 (by decide) rfl ?_
              refine r_iload 7 0 dC_season_70 rfl ?_
              refine r_if_eq 78 dC_season_72 (by decide) ⟨by omega, by omega⟩ (fun c_72 => ?_) (fun c_72 => ?_)
              · rcases h_65.2 with q | ⟨_, hw9, i0, i1, hv⟩
                exact absurd q.1 (by omega)
                subst hw9
                rw [hz2 15 k (by decide)] at i1
                have hv9 : ∀ wl : zW, (∀ i k, i ≠ 4 → wl.1 i k = w_65.1 i k) → ∀ p : Int, 0 ≤ p → p < n → 0 ≤ wl.1 (16 + k.toNat) (i + 2 * p) ∧ wl.1 (16 + k.toNat) (i + 2 * p) < 6 ∧ 0 ≤ wl.1 (16 + k.toNat) (i + 2 * p + 1) ∧ wl.1 (16 + k.toNat) (i + 2 * p + 1) < 4 := fun wl hl p p0 p1 => by
                  have q := hv p p0 p1
                  rw [hl _ _ (by omega), hl _ _ (by omega)]
                  omega
                have hse : ∀ wl : zW, (∀ i k, i ≠ 4 → wl.1 i k = w_65.1 i k) → ∀ g, zSeaC wl (16 + k.toNat) i g n.toNat = zSeaC w (16 + k.toNat) i g n.toNat := fun wl hl g => zSeaC_eq (fun i2 k2 q1 q2 => by rw [hl i2 k2 q2]; exact hz2 i2 k2 q1) (by omega) i g n.toNat
                refine r_aload_n 0 1 dC_season_78 rfl rfl ?_
                refine r_getR (k := 3) (b := 4) fX6 rfl rfl rfl (by decide) kw_190 rfl dC_season_79 ?_
                refine r_aload_n 0 1 dC_season_82 rfl rfl ?_
                refine r_getR (k := 0) (b := 1) fX6 rfl rfl rfl (by decide) kw_187 rfl dC_season_83 ?_
                refine r_aload_n 0 1 dC_season_86 rfl rfl ?_
                refine r_getR (k := 1) (b := 2) fX6 rfl rfl rfl (by decide) kw_188 rfl dC_season_87 ?_
                refine r_getRN (k := 0) (b := 12) fX4 rfl rfl rfl (by decide) kw_77 rfl dC_season_90 ?_
                refine r_iload_n 2 3 dC_season_93 rfl rfl ?_
                refine r_aaload (b := (16 + k.toNat)) rfl (by decide) dC_season_94 (by omega) (by omega) (z_row _ (by omega) (by omega)) ?_
                refine r_iload 4 5 dC_season_95 rfl ?_
                refine r_iload 5 6 dC_season_97 rfl ?_
                refine r_iload_n 1 2 dC_season_99 rfl rfl ?_
                refine r_cVVN (cO_live w_65 (16 + k.toNat) i n g (z_rowS (by omega) (by omega)) (fun q => z_rowB (by omega) (by omega) q) (by omega) (by omega) (by omega) (by omega) (by omega) (by omega) (hv9 _ (fun _ _ _ => rfl))) qO_live rfl kw_321 rfl rfl dC_season_100 (st0 := [zI g, zI n, zI i, zR (16 + k.toNat), zR 1, zR 4]) (st := []) rfl ⟨Nat.le_of_ble_eq_true rfl, Nat.le_of_ble_eq_true rfl⟩ ⟨Nat.le_of_ble_eq_true rfl, Nat.le_of_ble_eq_true rfl⟩ (Nat.le_of_ble_eq_true rfl) (fun w_100 h_100 ok_100 => ?_)
                have hst := h_100.2
                rw [hse _ (fun _ _ _ => rfl)] at hst
                refine r_iload 6 7 dC_season_103 rfl ?_
                refine r_iconst dC_season_105 ?_
                refine r_ic_ne 117 dC_season_106 (by decide) ⟨by omega, by omega⟩ ⟨by omega, by omega⟩ (fun c_106 => ?_) (fun c_106 => ?_)
                · refine r_aload_n 0 1 dC_season_117 rfl rfl ?_
                  refine r_getR (k := 3) (b := 4) fX6 rfl rfl rfl (by decide) kw_190 rfl dC_season_118 ?_
                  refine r_getIN (k := 1) fX2 rfl rfl (by decide) kw_130 rfl 1 rfl dC_season_121 rfl (fun y_121 ey_121 ly_121 uy_121 => ?_)
                  refine r_bipush dC_season_124 (by decide) ?_
                  refine r_ic_eq 140 dC_season_126 (by decide) ⟨by omega, by omega⟩ ⟨by omega, by omega⟩ (fun c_126 => ?_) (fun c_126 => ?_)
                  · refine r_iload 6 7 dC_season_140 rfl ?_
                    rcases (by omega : (what = 0) ∨ (what = 1) ∨ (what = 2) ∨ (what = 3) ∨ (what < 0 ∨ 3 < what)) with c_142 | c_142 | c_142 | c_142 | c_142 | c_142
                    · refine r_tableIn 172 dC_season_142 ⟨by omega, by omega⟩ (by omega) (by omega) (by rw [c_142] <;> rfl) (by decide) ?_
                      refine r_aload_n 0 1 dC_season_172 rfl rfl ?_
                      refine r_getR (k := 3) (b := 4) fX6 rfl rfl rfl (by decide) kw_190 rfl dC_season_173 ?_
                      refine r_getIN (k := 0) fX2 rfl rfl (by decide) kw_128 rfl 0 rfl dC_season_176 rfl (fun y_176 ey_176 ly_176 uy_176 => ?_)
                      refine r_iret rfl dC_season_179 ⟨_, rfl, ?_⟩
                      exact ⟨by have hp9 := h_65.1; rw [if_neg (show ¬ (g < 0 ∨ w.1 1 3 ≤ g ∨ k < 0 ∨ 4 ≤ k) by omega), if_neg (show ¬ (lane < 0 ∨ 2 < lane ∨ n < 0 ∨ 20 < n ∨ what < 0 ∨ 4 < what) by omega), if_neg (show ¬ ¬ _ = (0 : Int) by omega), hst]; rw [if_neg (by omega)]; show _ = if ¬ w_100.1 4 1 = -9 then _ else if what = 0 then w_100.1 4 0 else _; rw [if_neg (by omega), if_pos (by omega)]; omega, hqr.out 4 zkeep_4 h_100.1⟩
                    · refine r_tableIn 196 dC_season_142 ⟨by omega, by omega⟩ (by omega) (by omega) (by rw [c_142] <;> rfl) (by decide) ?_
                      refine r_aload_n 0 1 dC_season_196 rfl rfl ?_
                      refine r_getR (k := 3) (b := 4) fX6 rfl rfl rfl (by decide) kw_190 rfl dC_season_197 ?_
                      refine r_getIN (k := 4) fX2 rfl rfl (by decide) kw_136 rfl 4 rfl dC_season_200 rfl (fun y_200 ey_200 ly_200 uy_200 => ?_)
                      refine r_iret rfl dC_season_203 ⟨_, rfl, ?_⟩
                      exact ⟨by have hp9 := h_65.1; rw [if_neg (show ¬ (g < 0 ∨ w.1 1 3 ≤ g ∨ k < 0 ∨ 4 ≤ k) by omega), if_neg (show ¬ (lane < 0 ∨ 2 < lane ∨ n < 0 ∨ 20 < n ∨ what < 0 ∨ 4 < what) by omega), if_neg (show ¬ ¬ _ = (0 : Int) by omega), hst]; rw [if_neg (by omega)]; show _ = if ¬ w_100.1 4 1 = -9 then _ else if what = 0 then _ else if what = 2 then _ else if what = 3 then _ else w_100.1 4 4; rw [if_neg (by omega), if_neg (by omega), if_neg (by omega), if_neg (by omega)]; omega, hqr.out 4 zkeep_4 h_100.1⟩
                    · refine r_tableIn 180 dC_season_142 ⟨by omega, by omega⟩ (by omega) (by omega) (by rw [c_142] <;> rfl) (by decide) ?_
                      refine r_aload_n 0 1 dC_season_180 rfl rfl ?_
                      refine r_getR (k := 3) (b := 4) fX6 rfl rfl rfl (by decide) kw_190 rfl dC_season_181 ?_
                      refine r_getIN (k := 2) fX2 rfl rfl (by decide) kw_132 rfl 2 rfl dC_season_184 rfl (fun y_184 ey_184 ly_184 uy_184 => ?_)
                      refine r_iret rfl dC_season_187 ⟨_, rfl, ?_⟩
                      exact ⟨by have hp9 := h_65.1; rw [if_neg (show ¬ (g < 0 ∨ w.1 1 3 ≤ g ∨ k < 0 ∨ 4 ≤ k) by omega), if_neg (show ¬ (lane < 0 ∨ 2 < lane ∨ n < 0 ∨ 20 < n ∨ what < 0 ∨ 4 < what) by omega), if_neg (show ¬ ¬ _ = (0 : Int) by omega), hst]; rw [if_neg (by omega)]; show _ = if ¬ w_100.1 4 1 = -9 then _ else if what = 0 then _ else if what = 2 then w_100.1 4 2 else _; rw [if_neg (by omega), if_neg (by omega), if_pos (by omega)]; omega, hqr.out 4 zkeep_4 h_100.1⟩
                    · refine r_tableIn 188 dC_season_142 ⟨by omega, by omega⟩ (by omega) (by omega) (by rw [c_142] <;> rfl) (by decide) ?_
                      refine r_aload_n 0 1 dC_season_188 rfl rfl ?_
                      refine r_getR (k := 3) (b := 4) fX6 rfl rfl rfl (by decide) kw_190 rfl dC_season_189 ?_
                      refine r_getIN (k := 3) fX2 rfl rfl (by decide) kw_134 rfl 3 rfl dC_season_192 rfl (fun y_192 ey_192 ly_192 uy_192 => ?_)
                      refine r_iret rfl dC_season_195 ⟨_, rfl, ?_⟩
                      exact ⟨by have hp9 := h_65.1; rw [if_neg (show ¬ (g < 0 ∨ w.1 1 3 ≤ g ∨ k < 0 ∨ 4 ≤ k) by omega), if_neg (show ¬ (lane < 0 ∨ 2 < lane ∨ n < 0 ∨ 20 < n ∨ what < 0 ∨ 4 < what) by omega), if_neg (show ¬ ¬ _ = (0 : Int) by omega), hst]; rw [if_neg (by omega)]; show _ = if ¬ w_100.1 4 1 = -9 then _ else if what = 0 then _ else if what = 2 then _ else if what = 3 then w_100.1 4 3 else _; rw [if_neg (by omega), if_neg (by omega), if_neg (by omega), if_pos (by omega)]; omega, hqr.out 4 zkeep_4 h_100.1⟩
                    · refine r_tableOut 196 dC_season_142 ⟨by omega, by omega⟩ (by omega) (by decide) ?_
                      refine r_aload_n 0 1 dC_season_196 rfl rfl ?_
                      refine r_getR (k := 3) (b := 4) fX6 rfl rfl rfl (by decide) kw_190 rfl dC_season_197 ?_
                      refine r_getIN (k := 4) fX2 rfl rfl (by decide) kw_136 rfl 4 rfl dC_season_200 rfl (fun y_200 ey_200 ly_200 uy_200 => ?_)
                      refine r_iret rfl dC_season_203 ⟨_, rfl, ?_⟩
                      exact ⟨by have hp9 := h_65.1; rw [if_neg (show ¬ (g < 0 ∨ w.1 1 3 ≤ g ∨ k < 0 ∨ 4 ≤ k) by omega), if_neg (show ¬ (lane < 0 ∨ 2 < lane ∨ n < 0 ∨ 20 < n ∨ what < 0 ∨ 4 < what) by omega), if_neg (show ¬ ¬ _ = (0 : Int) by omega), hst]; rw [if_neg (by omega)]; show _ = if ¬ w_100.1 4 1 = -9 then _ else if what = 0 then _ else if what = 2 then _ else if what = 3 then _ else w_100.1 4 4; rw [if_neg (by omega), if_neg (by omega), if_neg (by omega), if_neg (by omega)]; omega, hqr.out 4 zkeep_4 h_100.1⟩
                    · refine r_tableOut 196 dC_season_142 ⟨by omega, by omega⟩ (by omega) (by decide) ?_
                      refine r_aload_n 0 1 dC_season_196 rfl rfl ?_
                      refine r_getR (k := 3) (b := 4) fX6 rfl rfl rfl (by decide) kw_190 rfl dC_season_197 ?_
                      refine r_getIN (k := 4) fX2 rfl rfl (by decide) kw_136 rfl 4 rfl dC_season_200 rfl (fun y_200 ey_200 ly_200 uy_200 => ?_)
                      refine r_iret rfl dC_season_203 ⟨_, rfl, ?_⟩
                      exact ⟨by have hp9 := h_65.1; rw [if_neg (show ¬ (g < 0 ∨ w.1 1 3 ≤ g ∨ k < 0 ∨ 4 ≤ k) by omega), if_neg (show ¬ (lane < 0 ∨ 2 < lane ∨ n < 0 ∨ 20 < n ∨ what < 0 ∨ 4 < what) by omega), if_neg (show ¬ ¬ _ = (0 : Int) by omega), hst]; rw [if_neg (by omega)]; show _ = if ¬ w_100.1 4 1 = -9 then _ else if what = 0 then _ else if what = 2 then _ else if what = 3 then _ else w_100.1 4 4; rw [if_neg (by omega), if_neg (by omega), if_neg (by omega), if_neg (by omega)]; omega, hqr.out 4 zkeep_4 h_100.1⟩
                  · refine r_bipush dC_season_129 (by decide) ?_
                    refine r_aload_n 0 1 dC_season_131 rfl rfl ?_
                    refine r_getR (k := 3) (b := 4) fX6 rfl rfl rfl (by decide) kw_190 rfl dC_season_132 ?_
                    refine r_getIN (k := 1) fX2 rfl rfl (by decide) kw_130 rfl 1 rfl dC_season_135 rfl (fun y_135 ey_135 ly_135 uy_135 => ?_)
                    refine r_isub dC_season_138 ?_
                    refine r_iret rfl dC_season_139 ⟨_, rfl, ?_⟩
                    exact ⟨by have hp9 := h_65.1; rw [if_neg (show ¬ (g < 0 ∨ w.1 1 3 ≤ g ∨ k < 0 ∨ 4 ≤ k) by omega), if_neg (show ¬ (lane < 0 ∨ 2 < lane ∨ n < 0 ∨ 20 < n ∨ what < 0 ∨ 4 < what) by omega), if_neg (show ¬ ¬ _ = (0 : Int) by omega), hst]; rw [if_neg (by omega)]; show _ = if ¬ w_100.1 4 1 = -9 then -100 - w_100.1 4 1 else _; rw [if_pos (by omega)]; omega, hqr.out 4 zkeep_4 h_100.1⟩
                · refine r_aload_n 0 1 dC_season_109 rfl rfl ?_
                  refine r_getR (k := 3) (b := 4) fX6 rfl rfl rfl (by decide) kw_190 rfl dC_season_110 ?_
                  refine r_getIN (k := 1) fX2 rfl rfl (by decide) kw_130 rfl 1 rfl dC_season_113 rfl (fun y_113 ey_113 ly_113 uy_113 => ?_)
                  refine r_iret rfl dC_season_116 ⟨_, rfl, ?_⟩
                  exact ⟨by have hp9 := h_65.1; rw [if_neg (show ¬ (g < 0 ∨ w.1 1 3 ≤ g ∨ k < 0 ∨ 4 ≤ k) by omega), if_neg (show ¬ (lane < 0 ∨ 2 < lane ∨ n < 0 ∨ 20 < n ∨ what < 0 ∨ 4 < what) by omega), if_neg (show ¬ ¬ _ = (0 : Int) by omega), hst]; rw [if_pos (by omega)]; exact ey_113, hqr.out 4 zkeep_4 h_100.1⟩
              · refine r_iload 7 0 dC_season_75 rfl ?_
                refine r_iret rfl dC_season_77 ⟨_, rfl, ?_⟩
                exact ⟨by have hp9 := h_65.1; rw [if_neg (show ¬ (g < 0 ∨ w.1 1 3 ≤ g ∨ k < 0 ∨ 4 ≤ k) by omega), if_neg (show ¬ (lane < 0 ∨ 2 < lane ∨ n < 0 ∨ 20 < n ∨ what < 0 ∨ 4 < what) by omega), if_pos (show ¬ _ = (0 : Int) by omega)]; exact hp9, hqr⟩
            · refine r_bipush dC_season_55 (by decide) ?_
              refine r_iret rfl dC_season_57 ⟨_, rfl, ?_⟩
              exact ⟨by rw [if_neg (by omega), if_pos (by omega)], hq2⟩
    · refine r_iconst dC_season_27 ?_
      refine r_iret rfl dC_season_28 ⟨_, rfl, ?_⟩
      exact ⟨by rw [if_pos (by omega)], hq2⟩

set_option maxRecDepth 20000 in
set_option maxHeartbeats 4000000 in
theorem cC_odds (w : zW) (k : Int) (lane : Int) (i : Int) (n : Int) (v : Int) (which : Int) (zk : zin k) (zlane : zin lane) (zi : zin i) (zn : zin n) (zv : zin v) (zwhich : zin which) : zC mC_odds 4 [zR 0, zI k, zI lane, zI i, zI n, zI v, zI which] w (zrJ fun a w' => a = (if ¬ (if k < 0 ∨ 4 ≤ k then -1 else if lane < 0 ∨ 2 < lane ∨ n < 0 ∨ 20 < n ∨ v < 0 ∨ 5 < v then -2 else if w.1 1 3 = 0 then -3 else fPairs (w.1 1 3) (w.1 1 2) (zSz w k) (w.1 14 k) lane i n (fun j => w.1 (16 + k.toNat) (i + j))) = 0 ∨ which < 0 ∨ 1 < which then zLOST else if ¬ (zSeaC w (16 + k.toNat) i 0 n.toNat).2.1 = -9 then zLOST else fShare (zCnt (fun g => decide (v ≤ (zSeaC w (16 + k.toNat) i g n.toNat).1)) (w.1 1 3).toNat) (w.1 1 3) which) ∧ zEq w w') := by
  refine zC.of (by decide +kernel) (Nat.le_of_ble_eq_true rfl) ?_
  show zM mC_odds (zZm 4 _) 0 [(0, zR 0), (1, zI k), (2, zI lane), (3, zI i), (4, zI n), (5, zI v), (6, zI which)] [] w
  refine r_ok (fun hO => ?_)
  have hL := hO 15 k
  change 0 ≤ w.1 15 k ∧ w.1 15 k ≤ 60 at hL
  have hG := hO 1 3
  change 0 ≤ w.1 1 3 ∧ w.1 1 3 ≤ 6 at hG
  have hDs := hO 1 2
  change 0 ≤ w.1 1 2 ∧ w.1 1 2 ≤ 4 at hDs
  refine r_aload_n 0 0 dC_odds_0 rfl rfl ?_
  refine r_iconst dC_odds_1 ?_
  refine r_putI (k := 7) fX6 rfl rfl (by decide) kw_194 rfl rfl (by decide +kernel) 7 rfl dC_odds_2 rfl (by omega) (by omega) (fun w_2 ew_2 => ?_)
  have hz2 : ∀ i k, i ≠ 0 → w_2.1 i k = w.1 i k := fun i k q => by rw [ew_2, zput_i _ _ _ _ q]
  have hq2 : zEq w w_2 := by rw [ew_2]; exact (zEq.refl w).put (by decide)
  have hs2 : ∀ q, zSz w_2 q = zSz w q := fun q => by unfold zSz; rw [hz2 13 q (by decide), hz2 15 q (by decide)]
  have hr2 : (fun j => w_2.1 (16 + k.toNat) (i + j)) = (fun j => w.1 (16 + k.toNat) (i + j)) := funext fun j => hz2 _ _ (by omega)
  refine r_aload_n 0 0 dC_odds_5 rfl rfl ?_
  refine r_iload_n 1 1 dC_odds_6 rfl rfl ?_
  refine r_iload_n 2 2 dC_odds_7 rfl rfl ?_
  refine r_iload_n 3 3 dC_odds_8 rfl rfl ?_
  refine r_iload 4 4 dC_odds_9 rfl ?_
  refine r_iload 5 5 dC_odds_11 rfl ?_
  refine r_cVI (cC_refusedSeason w_2 k lane i n v (by omega) (by omega) (by omega) (by omega) (by omega)) qC_refusedSeason rfl kw_335 rfl rfl dC_odds_13 (st0 := [zI v, zI n, zI i, zI lane, zI k, zR 0]) (st := []) rfl ⟨Nat.le_of_ble_eq_true rfl, Nat.le_of_ble_eq_true rfl⟩ ⟨Nat.le_of_ble_eq_true rfl, Nat.le_of_ble_eq_true rfl⟩ (Nat.le_of_ble_eq_true rfl) (fun a_13 w_13 h_13 ok_13 => ?_)
  have hfp := fPairs_in (gs := w.1 1 3) (ds := w.1 1 2) (sz := zSz w k) (ln := w.1 14 k) (lane := lane) (i := i) (n := n) (row := fun j => w.1 (16 + k.toNat) (i + j))
  rw [hs2, hr2, hz2 14 k (by decide), hz2 1 3 (by decide), hz2 1 2 (by decide)] at h_13
  have hqr : zEq w w_13 := by
    rcases h_13.2 with ⟨_, ⟨f9, q⟩ | q⟩ | ⟨_, q, _⟩
    · rw [q]; exact hq2.put (by decide)
    · rw [q]; exact hq2
    · rw [q]; exact hq2
  refine r_if_eq 23 dC_odds_16 (by decide) ⟨by omega, by omega⟩ (fun c_16 => ?_) (fun c_16 => ?_)
  · refine r_iload 6 6 dC_odds_23 rfl ?_
    refine r_if_lt 34 dC_odds_25 (by decide) ⟨by omega, by omega⟩ (fun c_25 => ?_) (fun c_25 => ?_)
    · refine r_ldc2 (a := (-9223372036854775808)) dC_odds_34 kw_421 (by decide +kernel) ?_
      refine r_lret rfl dC_odds_37 ⟨_, rfl, ?_⟩
      exact ⟨by rw [if_pos (by have := h_13.1; omega)]; rfl, hqr⟩
    · refine r_iload 6 6 dC_odds_28 rfl ?_
      refine r_iconst dC_odds_30 ?_
      refine r_ic_le 38 dC_odds_31 (by decide) ⟨by omega, by omega⟩ ⟨by omega, by omega⟩ (fun c_31 => ?_) (fun c_31 => ?_)
      · rcases h_13.2 with q | ⟨_, hw9, k0, k1, n0, n1, v0, v1, g0, i0, i1, hv⟩
        exact absurd q.1 (by omega)
        subst hw9
        rw [hz2 15 k (by decide)] at i1
        have hv9 : ∀ wl : zW, (∀ i k, i ≠ 4 → wl.1 i k = w_13.1 i k) → ∀ p : Int, 0 ≤ p → p < n → 0 ≤ wl.1 (16 + k.toNat) (i + 2 * p) ∧ wl.1 (16 + k.toNat) (i + 2 * p) < 6 ∧ 0 ≤ wl.1 (16 + k.toNat) (i + 2 * p + 1) ∧ wl.1 (16 + k.toNat) (i + 2 * p + 1) < 4 := fun wl hl p p0 p1 => by
          have q := hv p p0 p1
          rw [hl _ _ (by omega), hl _ _ (by omega)]
          omega
        have hse : ∀ wl : zW, (∀ i k, i ≠ 4 → wl.1 i k = w_13.1 i k) → ∀ g, zSeaC wl (16 + k.toNat) i g n.toNat = zSeaC w (16 + k.toNat) i g n.toNat := fun wl hl g => zSeaC_eq (fun i2 k2 q1 q2 => by rw [hl i2 k2 q2]; exact hz2 i2 k2 q1) (by omega) i g n.toNat
        refine r_aload_n 0 0 dC_odds_38 rfl rfl ?_
        refine r_getR (k := 1) (b := 2) fX6 rfl rfl rfl (by decide) kw_188 rfl dC_odds_39 ?_
        refine r_getRN (k := 0) (b := 12) fX4 rfl rfl rfl (by decide) kw_77 rfl dC_odds_42 ?_
        refine r_iload_n 1 1 dC_odds_45 rfl rfl ?_
        refine r_aaload (b := (16 + k.toNat)) rfl (by decide) dC_odds_46 (by omega) (by omega) (z_row _ (by omega) (by omega)) ?_
        refine r_astore (ls' := [(7, zR (16 + k.toNat)), (0, zR 0), (1, zI k), (2, zI lane), (3, zI i), (4, zI n), (5, zI v), (6, zI which)]) 7 dC_odds_47 (by decide) rfl ?_
        refine r_iconst dC_odds_49 ?_
        refine r_istore (ls' := [(8, zI 0), (7, zR (16 + k.toNat)), (0, zR 0), (1, zI k), (2, zI lane), (3, zI i), (4, zI n), (5, zI v), (6, zI which)]) 8 dC_odds_50 (by decide) rfl ?_
        refine r_iconst dC_odds_52 ?_
        refine r_istore (ls' := [(9, zI 0), (8, zI 0), (7, zR (16 + k.toNat)), (0, zR 0), (1, zI k), (2, zI lane), (3, zI i), (4, zI n), (5, zI v), (6, zI which)]) 9 dC_odds_53 (by decide) rfl ?_
        have L_55 : ∀ (n_55 : Nat) (up : Int) (g : Int) (wl : zW) (hg0 : 0 ≤ g) (hg1 : g ≤ w.1 1 3) (hw : ∀ i k, i ≠ 4 → wl.1 i k = w_13.1 i k) (hn9 : 0 < g → (zSeaC w (16 + k.toNat) i 0 n.toNat).2.1 = -9) (hs : up = zCnt (fun g => decide (v ≤ (zSeaC w (16 + k.toNat) i g n.toNat).1)) g.toNat), w.1 1 3 - g < (n_55 : Int) → zM mC_odds (zZm 4 (zrJ fun a w' => a = (if ¬ (if k < 0 ∨ 4 ≤ k then -1 else if lane < 0 ∨ 2 < lane ∨ n < 0 ∨ 20 < n ∨ v < 0 ∨ 5 < v then -2 else if w.1 1 3 = 0 then -3 else fPairs (w.1 1 3) (w.1 1 2) (zSz w k) (w.1 14 k) lane i n (fun j => w.1 (16 + k.toNat) (i + j))) = 0 ∨ which < 0 ∨ 1 < which then zLOST else if ¬ (zSeaC w (16 + k.toNat) i 0 n.toNat).2.1 = -9 then zLOST else fShare (zCnt (fun g => decide (v ≤ (zSeaC w (16 + k.toNat) i g n.toNat).1)) (w.1 1 3).toNat) (w.1 1 3) which) ∧ zEq w w')) 55 [(9, zI g), (8, zI up), (7, zR (16 + k.toNat)), (0, zR 0), (1, zI k), (2, zI lane), (3, zI i), (4, zI n), (5, zI v), (6, zI which)] [] wl := by
          intro n_55
          induction n_55 with
          | zero => intro up g wl hg0 hg1 hw hn9 hs hm_55; exfalso; omega
          | succ n_55 ih_55 =>
            intro up g wl hg0 hg1 hw hn9 hs hm_55
            have e13 : wl.1 1 3 = w.1 1 3 := (hw 1 3 (by decide)).trans (hz2 1 3 (by decide))
            refine r_iload 9 0 dC_odds_55 rfl ?_
            refine r_aload_n 0 3 dC_odds_57 rfl rfl ?_
            refine r_getR (k := 0) (b := 1) fX6 rfl rfl rfl (by decide) kw_187 rfl dC_odds_58 ?_
            refine r_getIN (k := 3) fX0 rfl rfl (by decide) kw_35 rfl 3 rfl dC_odds_61 rfl (fun y_61 ey_61 ly_61 uy_61 => ?_)
            refine r_ic_ge 122 dC_odds_64 (by decide) ⟨by omega, by omega⟩ ⟨by omega, by omega⟩ (fun c_64 => ?_) (fun c_64 => ?_)
            · refine r_iload 8 1 dC_odds_122 rfl ?_
              refine r_aload_n 0 3 dC_odds_124 rfl rfl ?_
              refine r_getR (k := 0) (b := 1) fX6 rfl rfl rfl (by decide) kw_187 rfl dC_odds_125 ?_
              refine r_getIN (k := 3) fX0 rfl rfl (by decide) kw_35 rfl 3 rfl dC_odds_128 rfl (fun y_128 ey_128 ly_128 uy_128 => ?_)
              refine r_cSI (cC_commonDivisor wl up y_128 (by have := zCnt_in (fun g => decide (v ≤ (zSeaC w (16 + k.toNat) i g n.toNat).1)) g.toNat; omega) (by have := zCnt_in (fun g => decide (v ≤ (zSeaC w (16 + k.toNat) i g n.toNat).1)) g.toNat; omega) (by omega) (by omega)) qC_commonDivisor rfl kw_422 dC_odds_131 (st0 := [zI y_128, zI up]) (st := []) rfl ⟨Nat.le_of_ble_eq_true rfl, Nat.le_of_ble_eq_true rfl⟩ ⟨Nat.le_of_ble_eq_true rfl, Nat.le_of_ble_eq_true rfl⟩ (Nat.le_of_ble_eq_true rfl) (fun a_131 w_131 h_131 ok_131 => ?_)
              obtain ⟨rfl, h_131⟩ := h_131
              have hgp : 0 < Nat.gcd up.toNat y_128.toNat := Nat.gcd_pos_of_pos_right _ (by omega)
              have hgl : Nat.gcd up.toNat y_128.toNat ≤ y_128.toNat := Nat.gcd_le_right _ (by omega)
              have hci := zCnt_in (fun g => decide (v ≤ (zSeaC w (16 + k.toNat) i g n.toNat).1)) g.toNat
              refine r_istore (ls' := [(9, zI a_131), (8, zI up), (7, zR (16 + k.toNat)), (0, zR 0), (1, zI k), (2, zI lane), (3, zI i), (4, zI n), (5, zI v), (6, zI which)]) 9 dC_odds_134 (by decide) rfl ?_
              refine r_iload 9 0 dC_odds_136 rfl ?_
              refine r_if_ne 145 dC_odds_138 (by decide) ⟨by omega, by omega⟩ (fun c_138 => ?_) (fun c_138 => by exfalso; omega)
              refine r_iload 6 9 dC_odds_145 rfl ?_
              refine r_if_ne 159 dC_odds_147 (by decide) ⟨by omega, by omega⟩ (fun c_147 => ?_) (fun c_147 => ?_)
              · refine r_aload_n 0 3 dC_odds_159 rfl rfl ?_
                refine r_getR (k := 0) (b := 1) fX6 rfl rfl rfl (by decide) kw_187 rfl dC_odds_160 ?_
                refine r_getIN (k := 3) fX0 rfl rfl (by decide) kw_35 rfl 3 rfl dC_odds_163 rfl (fun y_163 ey_163 ly_163 uy_163 => ?_)
                refine r_iload 9 0 dC_odds_166 rfl ?_
                refine r_idiv dC_odds_168 ⟨by omega, by omega⟩ (by omega) ⟨by omega, by omega⟩ (by omega) ?_
                refine r_i2l dC_odds_169 (zdiv_in (by omega) (by omega) (by omega)) ?_
                refine r_lret rfl dC_odds_170 ⟨_, rfl, ?_⟩
                exact ⟨by have := h_13.1; rw [if_neg (by omega), if_neg (fun q => q (hn9 (by omega))), show (w.1 1 3).toNat = g.toNat by omega, ← hs]; unfold fShare; first | (rw [if_pos (by omega), show w.1 1 3 = y_128 by omega, ← h_131]) | (rw [if_neg (by omega), show w.1 1 3 = y_128 by omega, ← h_131, show y_163 = y_128 by omega]), hqr.out 4 zkeep_4 hw⟩
              · refine r_iload 8 1 dC_odds_150 rfl ?_
                refine r_iload 9 0 dC_odds_152 rfl ?_
                refine r_idiv dC_odds_154 ⟨by omega, by omega⟩ (by omega) ⟨by omega, by omega⟩ (by omega) ?_
                refine r_i2l dC_odds_155 (zdiv_in (by omega) (by omega) (by omega)) ?_
                refine r_goto 170 dC_odds_156 (by decide) ?_
                refine r_lret rfl dC_odds_170 ⟨_, rfl, ?_⟩
                exact ⟨by have := h_13.1; rw [if_neg (by omega), if_neg (fun q => q (hn9 (by omega))), show (w.1 1 3).toNat = g.toNat by omega, ← hs]; unfold fShare; first | (rw [if_pos (by omega), show w.1 1 3 = y_128 by omega, ← h_131]) | (rw [if_neg (by omega), show w.1 1 3 = y_128 by omega, ← h_131, show y_163 = y_128 by omega]), hqr.out 4 zkeep_4 hw⟩
            · refine r_aload_n 0 3 dC_odds_67 rfl rfl ?_
              refine r_getR (k := 3) (b := 4) fX6 rfl rfl rfl (by decide) kw_190 rfl dC_odds_68 ?_
              refine r_aload_n 0 3 dC_odds_71 rfl rfl ?_
              refine r_getR (k := 0) (b := 1) fX6 rfl rfl rfl (by decide) kw_187 rfl dC_odds_72 ?_
              refine r_aload 7 2 dC_odds_75 rfl ?_
              refine r_iload_n 3 6 dC_odds_77 rfl rfl ?_
              refine r_iload 4 7 dC_odds_78 rfl ?_
              refine r_iload 9 0 dC_odds_80 rfl ?_
              refine r_cVVN (cO_live wl (16 + k.toNat) i n g (z_rowS (by omega) (by omega)) (fun q => z_rowB (by omega) (by omega) q) (by omega) (by omega) (by omega) (by omega) (by omega) ⟨by omega, by omega⟩ (hv9 _ hw)) qO_live rfl kw_321 rfl rfl dC_odds_82 (st0 := [zI g, zI n, zI i, zR (16 + k.toNat), zR 1, zR 4]) (st := []) rfl ⟨Nat.le_of_ble_eq_true rfl, Nat.le_of_ble_eq_true rfl⟩ ⟨Nat.le_of_ble_eq_true rfl, Nat.le_of_ble_eq_true rfl⟩ (Nat.le_of_ble_eq_true rfl) (fun w_82 h_82 ok_82 => ?_)
              have hst := h_82.2
              rw [hse _ hw] at hst
              have hwn : ∀ i k, i ≠ 4 → w_82.1 i k = w_13.1 i k := fun i k q => by rw [h_82.1 i k q]; exact hw i k q
              have hwr := zSea_wr (st0 := w.1 1 0) (strict := w.1 1 1) (cost := fun d => w.1 8 d) (pl := fun g d => zPC w g d) (row := fun j => w.1 (16 + k.toNat) (i + j)) g 0 n.toNat
              change (zSeaC w (16 + k.toNat) i g n.toNat).2.1 = (zSeaC w (16 + k.toNat) i 0 n.toNat).2.1 ∧ _ at hwr
              rw [hst] at hwr
              have hw1 : w_82.1 4 1 = (zSeaC w (16 + k.toNat) i 0 n.toNat).2.1 := hwr.1
              refine r_aload_n 0 3 dC_odds_85 rfl rfl ?_
              refine r_getR (k := 3) (b := 4) fX6 rfl rfl rfl (by decide) kw_190 rfl dC_odds_86 ?_
              refine r_getIN (k := 1) fX2 rfl rfl (by decide) kw_130 rfl 1 rfl dC_odds_89 rfl (fun y_89 ey_89 ly_89 uy_89 => ?_)
              refine r_bipush dC_odds_92 (by decide) ?_
              refine r_ic_eq 101 dC_odds_94 (by decide) ⟨by omega, by omega⟩ ⟨by omega, by omega⟩ (fun c_94 => ?_) (fun c_94 => ?_)
              · refine r_aload_n 0 3 dC_odds_101 rfl rfl ?_
                refine r_getR (k := 3) (b := 4) fX6 rfl rfl rfl (by decide) kw_190 rfl dC_odds_102 ?_
                refine r_getIN (k := 0) fX2 rfl rfl (by decide) kw_128 rfl 0 rfl dC_odds_105 rfl (fun y_105 ey_105 ly_105 uy_105 => ?_)
                refine r_iload 5 8 dC_odds_108 rfl ?_
                refine r_ic_lt 116 dC_odds_110 (by decide) ⟨by omega, by omega⟩ ⟨by omega, by omega⟩ (fun c_110 => ?_) (fun c_110 => ?_)
                · refine r_iinc (ls' := [(9, zI (g + 1)), (8, zI up), (7, zR (16 + k.toNat)), (0, zR 0), (1, zI k), (2, zI lane), (3, zI i), (4, zI n), (5, zI v), (6, zI which)]) 9 0 dC_odds_116 rfl (by decide) rfl ?_
                  refine r_goto 55 dC_odds_119 (by decide) ?_
                  exact ih_55 up (g + 1) w_82 (by omega) (by omega) (fun i k q => hwn i k q) (fun _ => by omega) (by rw [zCnt_s _ hg0, hst]; show _ = if decide (v ≤ w_82.1 4 0) = true then _ else _; first | (rw [if_pos (decide_eq_true (by omega)), ← hs]; done) | (rw [if_neg (by rw [decide_eq_true_eq]; omega)]; exact hs)) (by omega)
                · refine r_iinc (ls' := [(8, zI (up + 1)), (9, zI g), (7, zR (16 + k.toNat)), (0, zR 0), (1, zI k), (2, zI lane), (3, zI i), (4, zI n), (5, zI v), (6, zI which)]) 8 1 dC_odds_113 rfl (by decide) rfl ?_
                  refine r_iinc (ls' := [(9, zI (g + 1)), (8, zI (up + 1)), (7, zR (16 + k.toNat)), (0, zR 0), (1, zI k), (2, zI lane), (3, zI i), (4, zI n), (5, zI v), (6, zI which)]) 9 1 dC_odds_116 rfl (by decide) rfl ?_
                  refine r_goto 55 dC_odds_119 (by decide) ?_
                  exact ih_55 (up + 1) (g + 1) w_82 (by omega) (by omega) (fun i k q => hwn i k q) (fun _ => by omega) (by rw [zCnt_s _ hg0, hst]; show _ = if decide (v ≤ w_82.1 4 0) = true then _ else _; first | (rw [if_pos (decide_eq_true (by omega)), ← hs]; done) | (rw [if_neg (by rw [decide_eq_true_eq]; omega)]; exact hs)) (by omega)
              · refine r_ldc2 (a := (-9223372036854775808)) dC_odds_97 kw_421 (by decide +kernel) ?_
                refine r_lret rfl dC_odds_100 ⟨_, rfl, ?_⟩
                exact ⟨by have := h_13.1; rw [if_neg (by omega), if_pos (show ¬ (zSeaC w (16 + k.toNat) i 0 n.toNat).2.1 = -9 by omega)]; rfl, hqr.out 4 zkeep_4 hwn⟩
        exact L_55 7 0 0 w_13 (by omega) (by omega) (fun _ _ _ => rfl) (fun q => absurd q (by decide)) rfl (by omega)
      · refine r_ldc2 (a := (-9223372036854775808)) dC_odds_34 kw_421 (by decide +kernel) ?_
        refine r_lret rfl dC_odds_37 ⟨_, rfl, ?_⟩
        exact ⟨by rw [if_pos (by have := h_13.1; omega)]; rfl, hqr⟩
  · refine r_ldc2 (a := (-9223372036854775808)) dC_odds_19 kw_421 (by decide +kernel) ?_
    refine r_lret rfl dC_odds_22 ⟨_, rfl, ?_⟩
    exact ⟨by rw [if_pos (by have := h_13.1; omega)]; rfl, hqr⟩

set_option maxRecDepth 20000 in
set_option maxHeartbeats 4000000 in
theorem cC_ask (w : zW) (set : Int) (zset : zin set) : zC mC_ask 3 [zR 0, zI set] w (zrI fun a w' => w = w' ∧ a = (if w.1 1 3 = 0 then -3 else if set < 0 ∨ zshl 1 (w.1 1 3) ≤ set then -2 else (zAsk (fun d => ziand set (zWC w d)) (fun d => w.1 8 d) 13 (w.1 1 2).toNat).1)) := by
  refine zC.of (by decide +kernel) (Nat.le_of_ble_eq_true rfl) ?_
  show zM mC_ask (zZm 3 _) 0 [(0, zR 0), (1, zI set)] [] w
  refine r_ok (fun hO => ?_)
  have hDs := hO 1 2
  change 0 ≤ w.1 1 2 ∧ w.1 1 2 ≤ 4 at hDs
  refine r_aload_n 0 0 dC_ask_0 rfl rfl ?_
  refine r_getR (k := 0) (b := 1) fX6 rfl rfl rfl (by decide) kw_187 rfl dC_ask_1 ?_
  refine r_cVIN (cH_isOpen w) qH_isOpen rfl kw_294 rfl rfl dC_ask_4 (st0 := [zR 1]) (st := []) rfl ⟨Nat.le_of_ble_eq_true rfl, Nat.le_of_ble_eq_true rfl⟩ ⟨Nat.le_of_ble_eq_true rfl, Nat.le_of_ble_eq_true rfl⟩ (Nat.le_of_ble_eq_true rfl) (fun a_4 w_4 h_4 ok_4 => ?_)
  obtain ⟨rfl, h_4⟩ := h_4
  refine r_if_ne 13 dC_ask_7 (by decide) ⟨by omega, by omega⟩ (fun c_7 => ?_) (fun c_7 => ?_)
  · refine r_iload_n 1 1 dC_ask_13 rfl rfl ?_
    refine r_if_lt 30 dC_ask_14 (by decide) ⟨by omega, by omega⟩ (fun c_14 => ?_) (fun c_14 => ?_)
    · refine r_bipush dC_ask_30 (by decide) ?_
      refine r_iret rfl dC_ask_32 ⟨_, rfl, ?_⟩
      exact ⟨rfl, by rw [if_neg (by omega), if_pos (by first | omega | (rw [← ey_23]; omega))]⟩
    · refine r_iload_n 1 1 dC_ask_17 rfl rfl ?_
      refine r_iconst dC_ask_18 ?_
      refine r_aload_n 0 0 dC_ask_19 rfl rfl ?_
      refine r_getR (k := 0) (b := 1) fX6 rfl rfl rfl (by decide) kw_187 rfl dC_ask_20 ?_
      refine r_getIN (k := 3) fX0 rfl rfl (by decide) kw_35 rfl 3 rfl dC_ask_23 rfl (fun y_23 ey_23 ly_23 uy_23 => ?_)
      refine r_ishl dC_ask_26 ?_
      refine r_ic_lt 33 dC_ask_27 (by decide) ⟨by omega, by omega⟩ (zto_in _) (fun c_27 => ?_) (fun c_27 => ?_)
      · refine r_bipush dC_ask_33 (by decide) ?_
        refine r_istore_n (ls' := [(2, zI (-9)), (0, zR 0), (1, zI set)]) 2 dC_ask_35 rfl (by decide) rfl ?_
        refine r_bipush dC_ask_36 (by decide) ?_
        refine r_istore_n (ls' := [(3, zI 13), (2, zI (-9)), (0, zR 0), (1, zI set)]) 3 dC_ask_38 rfl (by decide) rfl ?_
        refine r_iconst dC_ask_39 ?_
        refine r_istore (ls' := [(4, zI 0), (3, zI 13), (2, zI (-9)), (0, zR 0), (1, zI set)]) 4 dC_ask_40 (by decide) rfl ?_
        have L_42 : ∀ (n_42 : Nat) (best : Int) (least : Int) (i : Int) (hi0 : 0 ≤ i) (hi1 : i ≤ w.1 1 2) (hl : 0 ≤ least ∧ least ≤ 13) (hz : zAsk (fun d => ziand set (zWC w d)) (fun d => w.1 8 d) 13 i.toNat = (best, least)), w.1 1 2 - i < (n_42 : Int) → zM mC_ask (zZm 3 (zrI fun a w' => w = w' ∧ a = (if w.1 1 3 = 0 then -3 else if set < 0 ∨ zshl 1 (w.1 1 3) ≤ set then -2 else (zAsk (fun d => ziand set (zWC w d)) (fun d => w.1 8 d) 13 (w.1 1 2).toNat).1))) 42 [(4, zI i), (3, zI least), (2, zI best), (0, zR 0), (1, zI set)] [] w := by
          intro n_42
          induction n_42 with
          | zero => intro best least i hi0 hi1 hl hz hm_42; exfalso; omega
          | succ n_42 ih_42 =>
            intro best least i hi0 hi1 hl hz hm_42
            refine r_iload 4 0 dC_ask_42 rfl ?_
            refine r_aload_n 0 3 dC_ask_44 rfl rfl ?_
            refine r_getR (k := 0) (b := 1) fX6 rfl rfl rfl (by decide) kw_187 rfl dC_ask_45 ?_
            refine r_getIN (k := 2) fX0 rfl rfl (by decide) kw_32 rfl 2 rfl dC_ask_48 rfl (fun y_48 ey_48 ly_48 uy_48 => ?_)
            refine r_ic_ge 115 dC_ask_51 (by decide) ⟨by omega, by omega⟩ ⟨by omega, by omega⟩ (fun c_51 => ?_) (fun c_51 => ?_)
            · refine r_iload_n 2 2 dC_ask_115 rfl rfl ?_
              refine r_iret rfl dC_ask_116 ⟨_, rfl, ?_⟩
              exact ⟨rfl, by rw [if_neg (by omega), if_neg (by rw [← ey_23]; omega), show (w.1 1 2).toNat = i.toNat by omega, hz]⟩
            · refine r_iload_n 1 4 dC_ask_54 rfl rfl ?_
              refine r_aload_n 0 3 dC_ask_55 rfl rfl ?_
              refine r_getR (k := 0) (b := 1) fX6 rfl rfl rfl (by decide) kw_187 rfl dC_ask_56 ?_
              refine r_iload 4 0 dC_ask_59 rfl ?_
              refine r_cVIN (cH_wonBy w i (by omega) (by omega)) qH_wonBy rfl kw_278 rfl rfl dC_ask_61 (st0 := [zI i, zR 1, zI set]) (st := [zI set]) rfl ⟨Nat.le_of_ble_eq_true rfl, Nat.le_of_ble_eq_true rfl⟩ ⟨Nat.le_of_ble_eq_true rfl, Nat.le_of_ble_eq_true rfl⟩ (Nat.le_of_ble_eq_true rfl) (fun a_61 w_61 h_61 ok_61 => ?_)
              obtain ⟨rfl, h_61⟩ := h_61
              refine r_iand dC_ask_64 ?_
              refine r_nmI (fun x_65 ex_65 => ?_)
              refine r_istore (ls' := [(5, zI x_65), (4, zI i), (3, zI least), (2, zI best), (0, zR 0), (1, zI set)]) 5 dC_ask_65 (by decide) rfl ?_
              refine r_iload 5 0 dC_ask_67 rfl ?_
              refine r_if_eq 109 dC_ask_69 (by decide) (by rw [ex_65]; exact zto_in _) (fun c_69 => ?_) (fun c_69 => ?_)
              · refine r_iinc (ls' := [(4, zI (i + 1)), (5, zI x_65), (3, zI least), (2, zI best), (0, zR 0), (1, zI set)]) 4 1 dC_ask_109 rfl (by decide) rfl ?_
                refine r_goto 42 dC_ask_112 (by decide) ?_
                refine r_sub (ls' := [(4, zI (i + 1)), (3, zI least), (2, zI best), (0, zR 0), (1, zI set)]) [0, 2, 3, 4, 5] rfl ?_
                exact ih_42 best least (i + 1) (by omega) (by omega) (by omega) (by rw [zAsk_s _ _ _ hi0, hz]; show (if ¬ ziand set (zWC w i) = 0 ∧ w.1 8 i < least then (10 * zFirst (ziand set (zWC w i)) + i, w.1 8 i) else (best, least)) = _; rw [← h_61, ← ex_65]; first | (rw [if_neg (by omega)]; done) | (rw [if_pos (by omega), ← hf9, ← ey_95, ex_108])) (by omega)
              · refine r_aload_n 0 4 dC_ask_72 rfl rfl ?_
                refine r_getR (k := 0) (b := 1) fX6 rfl rfl rfl (by decide) kw_187 rfl dC_ask_73 ?_
                refine r_getRN (k := 5) (b := 8) fX0 rfl rfl rfl (by decide) kw_41 rfl dC_ask_76 ?_
                refine r_iload 4 1 dC_ask_79 rfl ?_
                refine r_iaload rfl (by decide) dC_ask_81 (by omega) (by omega) rfl (fun y_81 ey_81 ly_81 uy_81 => ?_)
                refine r_iload_n 3 2 dC_ask_82 rfl rfl ?_
                refine r_ic_ge 109 dC_ask_83 (by decide) ⟨by omega, by omega⟩ ⟨by omega, by omega⟩ (fun c_83 => ?_) (fun c_83 => ?_)
                · refine r_iinc (ls' := [(4, zI (i + 1)), (5, zI x_65), (3, zI least), (2, zI best), (0, zR 0), (1, zI set)]) 4 1 dC_ask_109 rfl (by decide) rfl ?_
                  refine r_goto 42 dC_ask_112 (by decide) ?_
                  refine r_sub (ls' := [(4, zI (i + 1)), (3, zI least), (2, zI best), (0, zR 0), (1, zI set)]) [0, 2, 3, 4, 5] rfl ?_
                  exact ih_42 best least (i + 1) (by omega) (by omega) (by omega) (by rw [zAsk_s _ _ _ hi0, hz]; show (if ¬ ziand set (zWC w i) = 0 ∧ w.1 8 i < least then (10 * zFirst (ziand set (zWC w i)) + i, w.1 8 i) else (best, least)) = _; rw [← h_61, ← ex_65]; first | (rw [if_neg (by omega)]; done) | (rw [if_pos (by omega), ← hf9, ← ey_95, ex_108])) (by omega)
                · refine r_aload_n 0 4 dC_ask_86 rfl rfl ?_
                  refine r_getR (k := 0) (b := 1) fX6 rfl rfl rfl (by decide) kw_187 rfl dC_ask_87 ?_
                  refine r_getRN (k := 5) (b := 8) fX0 rfl rfl rfl (by decide) kw_41 rfl dC_ask_90 ?_
                  refine r_iload 4 1 dC_ask_93 rfl ?_
                  refine r_iaload rfl (by decide) dC_ask_95 (by omega) (by omega) rfl (fun y_95 ey_95 ly_95 uy_95 => ?_)
                  refine r_istore_n (ls' := [(3, zI y_95), (5, zI x_65), (4, zI i), (2, zI best), (0, zR 0), (1, zI set)]) 3 dC_ask_96 rfl (by decide) rfl ?_
                  refine r_bipush dC_ask_97 (by decide) ?_
                  refine r_iload 5 1 dC_ask_99 rfl ?_
                  refine r_cSI (cC_firstOf w x_65) qC_firstOf rfl kw_343 dC_ask_101 (st0 := [zI x_65, zI 10]) (st := [zI 10]) rfl ⟨Nat.le_of_ble_eq_true rfl, Nat.le_of_ble_eq_true rfl⟩ ⟨Nat.le_of_ble_eq_true rfl, Nat.le_of_ble_eq_true rfl⟩ (Nat.le_of_ble_eq_true rfl) (fun a_101 w_101 h_101 ok_101 => ?_)
                  obtain ⟨rfl, h_101⟩ := h_101
                  have hf9 := zFirst_of h_101
                  refine r_imul dC_ask_104 ?_
                  refine r_iload 4 2 dC_ask_105 rfl ?_
                  refine r_iadd dC_ask_107 ?_
                  refine r_nmI (fun x_108 ex_108 => ?_)
                  refine r_istore_n (ls' := [(2, zI x_108), (3, zI y_95), (5, zI x_65), (4, zI i), (0, zR 0), (1, zI set)]) 2 dC_ask_108 rfl (by decide) rfl ?_
                  refine r_iinc (ls' := [(4, zI (i + 1)), (2, zI x_108), (3, zI y_95), (5, zI x_65), (0, zR 0), (1, zI set)]) 4 3 dC_ask_109 rfl (by decide) rfl ?_
                  refine r_goto 42 dC_ask_112 (by decide) ?_
                  refine r_sub (ls' := [(4, zI (i + 1)), (3, zI y_95), (2, zI x_108), (0, zR 0), (1, zI set)]) [0, 2, 1, 4, 5] rfl ?_
                  exact ih_42 x_108 y_95 (i + 1) (by omega) (by omega) (by omega) (by rw [zAsk_s _ _ _ hi0, hz]; show (if ¬ ziand set (zWC w i) = 0 ∧ w.1 8 i < least then (10 * zFirst (ziand set (zWC w i)) + i, w.1 8 i) else (best, least)) = _; rw [← h_61, ← ex_65]; first | (rw [if_neg (by omega)]; done) | (rw [if_pos (by omega), ← hf9, ← ey_95, ex_108])) (by omega)
        exact L_42 7 (-9) 13 0 (by omega) (by omega) (by omega) rfl (by omega)
      · refine r_bipush dC_ask_30 (by decide) ?_
        refine r_iret rfl dC_ask_32 ⟨_, rfl, ?_⟩
        exact ⟨rfl, by rw [if_neg (by omega), if_pos (by first | omega | (rw [← ey_23]; omega))]⟩
  · refine r_bipush dC_ask_10 (by decide) ?_
    refine r_iret rfl dC_ask_12 ⟨_, rfl, ?_⟩
    exact ⟨rfl, by rw [if_pos (by omega)]⟩
