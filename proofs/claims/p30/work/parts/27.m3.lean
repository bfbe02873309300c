set_option maxRecDepth 20000 in
set_option maxHeartbeats 4000000 in
theorem cM_pairsBarred (w : zW) (k : Int) (lane : Int) (i : Int) (n : Int) (hk0 : 0 ≤ k) (hk1 : k < 4) (zlane : zin lane) (zi : zin i) (hn0 : 0 ≤ n) (hn1 : n ≤ 20) : zC mM_pairsBarred 2 [zR 33, zI k, zI lane, zI i, zI n] w (zrI fun a w' => a = fPairs (w.1 33 6) (w.1 33 3) (w.1 48 k) (w.1 49 k) lane i n (fun j => w.1 50 (60 * k + i + j)) ∧ zF0 w w' ∧ (a < 0 ∨ (a = 0 ∧ 0 ≤ i ∧ i + 2 * n ≤ w.1 48 k ∧ (∀ p : Int, 0 ≤ p → p < n → 0 ≤ w.1 50 (60 * k + i + 2 * p) ∧ w.1 50 (60 * k + i + 2 * p) < w.1 33 6 ∧ 0 ≤ w.1 50 (60 * k + i + 2 * p + 1) ∧ w.1 50 (60 * k + i + 2 * p + 1) < w.1 33 3)))) := by
  refine zC.of (by decide +kernel) (Nat.le_of_ble_eq_true rfl) ?_
  show zM mM_pairsBarred (zZm 2 _) 0 [(0, zR 33), (1, zI k), (2, zI lane), (3, zI i), (4, zI n)] [] w
  refine r_ok (fun hO => ?_)
  have hL := hO 48 k
  change -1 ≤ w.1 48 k ∧ w.1 48 k ≤ 60 at hL
  have hG := hO 33 6
  change 0 ≤ w.1 33 6 ∧ w.1 33 6 ≤ 6 at hG
  have hDs := hO 33 3
  change 0 ≤ w.1 33 3 ∧ w.1 33 3 ≤ 4 at hDs
  have hSt := hO 33 1
  change 0 ≤ w.1 33 1 ∧ w.1 33 1 ≤ 5 at hSt
  refine r_aload_n 0 0 dM_pairsBarred_0 rfl rfl ?_
  refine r_iload_n 1 1 dM_pairsBarred_1 rfl rfl ?_
  refine r_iload_n 2 2 dM_pairsBarred_2 rfl rfl ?_
  refine r_iload_n 3 3 dM_pairsBarred_3 rfl rfl ?_
  refine r_ldc2 (a := 2) dM_pairsBarred_4 kw_635 (by decide +kernel) ?_
  refine r_iload 4 4 dM_pairsBarred_7 rfl ?_
  refine r_i2l dM_pairsBarred_9 ⟨by omega, by omega⟩ ?_
  refine r_lmul dM_pairsBarred_10 ?_
  refine r_cVI (cM_cellsBarred w k lane i (2 * n) (by omega) (by omega) (by omega) (by omega) (by omega)) qM_cellsBarred rfl kw_636 rfl rfl dM_pairsBarred_11 (st0 := [zJ (2 * n), zI i, zI lane, zI k, zR 33]) (st := []) rfl ⟨Nat.le_of_ble_eq_true rfl, Nat.le_of_ble_eq_true rfl⟩ ⟨Nat.le_of_ble_eq_true rfl, Nat.le_of_ble_eq_true rfl⟩ (Nat.le_of_ble_eq_true rfl) (fun a_11 w_11 h_11 ok_11 => ?_)
  have hz11 : zF0 w w_11 := by
    rcases h_11.2 with ⟨_, q⟩ | ⟨_, f, q⟩
    · rw [q]; exact fun _ _ _ => rfl
    · rw [q]; exact fun i' k' z => by rw [zput_e, if_neg z]
  have hg11 : w_11.1 33 6 = w.1 33 6 := hz11 _ _ (by omega)
  have hd11 : w_11.1 33 3 = w.1 33 3 := hz11 _ _ (by omega)
  have h11 := h_11.1
  refine r_istore (ls' := [(5, zI a_11), (0, zR 33), (1, zI k), (2, zI lane), (3, zI i), (4, zI n)]) 5 dM_pairsBarred_14 (by decide) rfl ?_
  refine r_iload 5 0 dM_pairsBarred_16 rfl ?_
  refine r_if_ge 24 dM_pairsBarred_18 (by decide) ⟨by omega, by omega⟩ (fun c_18 => ?_) (fun c_18 => ?_)
  · refine r_iconst dM_pairsBarred_24 ?_
    refine r_istore (ls' := [(6, zI 0), (5, zI a_11), (0, zR 33), (1, zI k), (2, zI lane), (3, zI i), (4, zI n)]) 6 dM_pairsBarred_25 (by decide) rfl ?_
    have L_27 : ∀ (n_27 : Nat) (j : Int) (hj0 : 0 ≤ j) (hj1 : j ≤ n) (hz : zPB (w.1 33 6) (w.1 33 3) (fun j => w.1 50 (60 * k + i + j)) j.toNat = true), n - j < (n_27 : Int) → zM mM_pairsBarred (zZm 2 (zrI fun a w' => a = fPairs (w.1 33 6) (w.1 33 3) (w.1 48 k) (w.1 49 k) lane i n (fun j => w.1 50 (60 * k + i + j)) ∧ zF0 w w' ∧ (a < 0 ∨ (a = 0 ∧ 0 ≤ i ∧ i + 2 * n ≤ w.1 48 k ∧ (∀ p : Int, 0 ≤ p → p < n → 0 ≤ w.1 50 (60 * k + i + 2 * p) ∧ w.1 50 (60 * k + i + 2 * p) < w.1 33 6 ∧ 0 ≤ w.1 50 (60 * k + i + 2 * p + 1) ∧ w.1 50 (60 * k + i + 2 * p + 1) < w.1 33 3))))) 27 [(6, zI j), (5, zI a_11), (0, zR 33), (1, zI k), (2, zI lane), (3, zI i), (4, zI n)] [] w_11 := by
      intro n_27
      induction n_27 with
      | zero => intro j hj0 hj1 hz hm_27; exfalso; omega
      | succ n_27 ih_27 =>
        intro j hj0 hj1 hz hm_27
        refine r_iload 6 0 dM_pairsBarred_27 rfl ?_
        refine r_iload 4 6 dM_pairsBarred_29 rfl ?_
        refine r_ic_ge 89 dM_pairsBarred_31 (by decide) ⟨by omega, by omega⟩ ⟨by omega, by omega⟩ (fun c_31 => ?_) (fun c_31 => ?_)
        · refine r_aload_n 0 2 dM_pairsBarred_89 rfl rfl ?_
          refine r_iconst dM_pairsBarred_90 ?_
          refine r_cVI (cM_refused w_11 0) qM_refused rfl kw_631 rfl rfl dM_pairsBarred_91 (st0 := [zI 0, zR 33]) (st := []) rfl ⟨Nat.le_of_ble_eq_true rfl, Nat.le_of_ble_eq_true rfl⟩ ⟨Nat.le_of_ble_eq_true rfl, Nat.le_of_ble_eq_true rfl⟩ (Nat.le_of_ble_eq_true rfl) (fun a_91 w_91 h_91 ok_91 => ?_)
          refine r_iret rfl dM_pairsBarred_94 ⟨_, rfl, ?_⟩
          have hZ : zPB (w.1 33 6) (w.1 33 3) (fun j => w.1 50 (60 * k + i + j)) n.toNat = true := (by rw [show n.toNat = j.toNat by omega]; exact hz)
          have e9 : fPairs (w.1 33 6) (w.1 33 3) (w.1 48 k) (w.1 49 k) lane i n (fun j => w.1 50 (60 * k + i + j)) = 0 := (by unfold fPairs; rw [hZ, if_neg (by omega), if_neg (by omega), if_neg (by omega), if_pos rfl])
          exact ⟨by rw [e9]; omega, (fun i' k' q => by rw [h_91.1, zput_e, if_neg q]; exact hz11 i' k' q), Or.inr ⟨by omega, by omega, by omega, fun p p0 p1 => by have q := zPB_t n.toNat hZ p p0 (by omega); change 0 ≤ w.1 50 (60 * k + i + 2 * p) ∧ w.1 50 (60 * k + i + 2 * p) < w.1 33 6 ∧ 0 ≤ w.1 50 (60 * k + i + (2 * p + 1)) ∧ w.1 50 (60 * k + i + (2 * p + 1)) < w.1 33 3 at q; rw [← Int.add_assoc (60 * k + i)] at q; exact q⟩⟩
        · refine r_bipush dM_pairsBarred_34 (by decide) ?_
          refine r_iload_n 1 3 dM_pairsBarred_36 rfl rfl ?_
          refine r_imul dM_pairsBarred_37 ?_
          refine r_iload_n 3 5 dM_pairsBarred_38 rfl rfl ?_
          refine r_iadd dM_pairsBarred_39 ?_
          refine r_iconst dM_pairsBarred_40 ?_
          refine r_iload 6 0 dM_pairsBarred_41 rfl ?_
          refine r_imul dM_pairsBarred_43 ?_
          refine r_iadd dM_pairsBarred_44 ?_
          refine r_nmI (fun x_45 ex_45 => ?_)
          refine r_istore (ls' := [(7, zI x_45), (6, zI j), (5, zI a_11), (0, zR 33), (1, zI k), (2, zI lane), (3, zI i), (4, zI n)]) 7 dM_pairsBarred_45 (by decide) rfl ?_
          refine r_aload_n 0 3 dM_pairsBarred_47 rfl rfl ?_
          refine r_aload_n 0 3 dM_pairsBarred_48 rfl rfl ?_
          refine r_getR (k := 35) (b := 50) fX7 rfl rfl rfl (by decide) kw_540 rfl dM_pairsBarred_49 ?_
          refine r_iload 7 0 dM_pairsBarred_52 rfl ?_
          refine r_iaload rfl (by decide) dM_pairsBarred_54 (by omega) (by omega) rfl (fun y_54 ey_54 ly_54 uy_54 => ?_)
          have e54 : y_54 = w.1 50 (60 * k + i + 2 * j) := (by rw [ey_54, ex_45, hz11 _ _ (by omega)])
          refine r_cVI (cM_noGuest w_11 y_54 (by omega)) qM_noGuest rfl kw_671 rfl rfl dM_pairsBarred_55 (st0 := [zI y_54, zR 33]) (st := []) rfl ⟨Nat.le_of_ble_eq_true rfl, Nat.le_of_ble_eq_true rfl⟩ ⟨Nat.le_of_ble_eq_true rfl, Nat.le_of_ble_eq_true rfl⟩ (Nat.le_of_ble_eq_true rfl) (fun a_55 w_55 h_55 ok_55 => ?_)
          obtain ⟨rfl, h_55⟩ := h_55
          refine r_if_ne 77 dM_pairsBarred_58 (by decide) ⟨by omega, by omega⟩ (fun c_58 => ?_) (fun c_58 => ?_)
          · refine r_aload_n 0 3 dM_pairsBarred_77 rfl rfl ?_
            refine r_iconst dM_pairsBarred_78 ?_
            refine r_cVI (cM_refused w_11 (-1)) qM_refused rfl kw_631 rfl rfl dM_pairsBarred_79 (st0 := [zI (-1), zR 33]) (st := []) rfl ⟨Nat.le_of_ble_eq_true rfl, Nat.le_of_ble_eq_true rfl⟩ ⟨Nat.le_of_ble_eq_true rfl, Nat.le_of_ble_eq_true rfl⟩ (Nat.le_of_ble_eq_true rfl) (fun a_79 w_79 h_79 ok_79 => ?_)
            refine r_iret rfl dM_pairsBarred_82 ⟨_, rfl, ?_⟩
            have hF := zPB_f (gs := w.1 33 6) (ds := w.1 33 3) (row := (fun j => w.1 50 (60 * k + i + j))) (i := j) hj0 (by show ¬ (0 ≤ w.1 50 (60 * k + i + 2 * j) ∧ w.1 50 (60 * k + i + 2 * j) < w.1 33 6 ∧ 0 ≤ w.1 50 (60 * k + i + (2 * j + 1)) ∧ w.1 50 (60 * k + i + (2 * j + 1)) < w.1 33 3); rw [← Int.add_assoc (60 * k + i)]; omega) n.toNat (by omega)
            have e9 : fPairs (w.1 33 6) (w.1 33 3) (w.1 48 k) (w.1 49 k) lane i n (fun j => w.1 50 (60 * k + i + j)) = -1 := (by unfold fPairs; rw [hF, if_neg (by omega), if_neg (by omega), if_neg (by omega), if_neg (by decide)])
            exact ⟨by rw [e9]; omega, (fun i' k' q => by rw [h_79.1, zput_e, if_neg q]; exact hz11 i' k' q), Or.inl (by omega)⟩
          · refine r_aload_n 0 3 dM_pairsBarred_61 rfl rfl ?_
            refine r_aload_n 0 3 dM_pairsBarred_62 rfl rfl ?_
            refine r_getR (k := 35) (b := 50) fX7 rfl rfl rfl (by decide) kw_540 rfl dM_pairsBarred_63 ?_
            refine r_iload 7 0 dM_pairsBarred_66 rfl ?_
            refine r_iconst dM_pairsBarred_68 ?_
            refine r_iadd dM_pairsBarred_69 ?_
            refine r_iaload rfl (by decide) dM_pairsBarred_70 (by omega) (by omega) rfl (fun y_70 ey_70 ly_70 uy_70 => ?_)
            have e70 : y_70 = w.1 50 (60 * k + i + 2 * j + 1) := (by rw [ey_70, ex_45, hz11 _ _ (by omega)])
            refine r_cVI (cM_noDoing w_11 y_70 (by omega)) qM_noDoing rfl kw_679 rfl rfl dM_pairsBarred_71 (st0 := [zI y_70, zR 33]) (st := []) rfl ⟨Nat.le_of_ble_eq_true rfl, Nat.le_of_ble_eq_true rfl⟩ ⟨Nat.le_of_ble_eq_true rfl, Nat.le_of_ble_eq_true rfl⟩ (Nat.le_of_ble_eq_true rfl) (fun a_71 w_71 h_71 ok_71 => ?_)
            obtain ⟨rfl, h_71⟩ := h_71
            refine r_if_eq 83 dM_pairsBarred_74 (by decide) ⟨by omega, by omega⟩ (fun c_74 => ?_) (fun c_74 => ?_)
            · refine r_iinc (ls' := [(6, zI (j + 1)), (7, zI x_45), (5, zI a_11), (0, zR 33), (1, zI k), (2, zI lane), (3, zI i), (4, zI n)]) 6 1 dM_pairsBarred_83 rfl (by decide) rfl ?_
              refine r_goto 27 dM_pairsBarred_86 (by decide) ?_
              refine r_sub (ls' := [(6, zI (j + 1)), (5, zI a_11), (0, zR 33), (1, zI k), (2, zI lane), (3, zI i), (4, zI n)]) [0, 2, 3, 4, 5, 6, 7] rfl ?_
              exact ih_27 (j + 1) (by omega) (by omega) (by rw [zPB_s _ _ _ hj0, hz, Bool.true_and]; refine decide_eq_true ?_; show 0 ≤ w.1 50 (60 * k + i + 2 * j) ∧ w.1 50 (60 * k + i + 2 * j) < w.1 33 6 ∧ 0 ≤ w.1 50 (60 * k + i + (2 * j + 1)) ∧ w.1 50 (60 * k + i + (2 * j + 1)) < w.1 33 3; rw [← Int.add_assoc (60 * k + i)]; omega) (by omega)
            · refine r_aload_n 0 3 dM_pairsBarred_77 rfl rfl ?_
              refine r_iconst dM_pairsBarred_78 ?_
              refine r_cVI (cM_refused w_11 (-1)) qM_refused rfl kw_631 rfl rfl dM_pairsBarred_79 (st0 := [zI (-1), zR 33]) (st := []) rfl ⟨Nat.le_of_ble_eq_true rfl, Nat.le_of_ble_eq_true rfl⟩ ⟨Nat.le_of_ble_eq_true rfl, Nat.le_of_ble_eq_true rfl⟩ (Nat.le_of_ble_eq_true rfl) (fun a_79 w_79 h_79 ok_79 => ?_)
              refine r_iret rfl dM_pairsBarred_82 ⟨_, rfl, ?_⟩
              have hF := zPB_f (gs := w.1 33 6) (ds := w.1 33 3) (row := (fun j => w.1 50 (60 * k + i + j))) (i := j) hj0 (by show ¬ (0 ≤ w.1 50 (60 * k + i + 2 * j) ∧ w.1 50 (60 * k + i + 2 * j) < w.1 33 6 ∧ 0 ≤ w.1 50 (60 * k + i + (2 * j + 1)) ∧ w.1 50 (60 * k + i + (2 * j + 1)) < w.1 33 3); rw [← Int.add_assoc (60 * k + i)]; omega) n.toNat (by omega)
              have e9 : fPairs (w.1 33 6) (w.1 33 3) (w.1 48 k) (w.1 49 k) lane i n (fun j => w.1 50 (60 * k + i + j)) = -1 := (by unfold fPairs; rw [hF, if_neg (by omega), if_neg (by omega), if_neg (by omega), if_neg (by decide)])
              exact ⟨by rw [e9]; omega, (fun i' k' q => by rw [h_79.1, zput_e, if_neg q]; exact hz11 i' k' q), Or.inl (by omega)⟩
    exact L_27 21 0 (by omega) (by omega) rfl (by omega)
  · refine r_iload 5 0 dM_pairsBarred_21 rfl ?_
    refine r_iret rfl dM_pairsBarred_23 ⟨_, rfl, ?_⟩
    exact ⟨by unfold fPairs; (repeat' split) <;> omega, hz11, Or.inl (by omega)⟩

set_option maxRecDepth 20000 in
set_option maxHeartbeats 4000000 in
theorem cM_goSeason (w : zW) (insp : Int) (f : Int) (n : Int) (zi : zin insp) (hf0 : 0 ≤ f) (hn0 : 0 ≤ n) (hn1 : n ≤ 20) (hf1 : f + 2 * n ≤ 240) (hv : ∀ p : Int, 0 ≤ p → p < n → 0 ≤ w.1 50 (f + 2 * p) ∧ w.1 50 (f + 2 * p) < 6 ∧ 0 ≤ w.1 50 (f + 2 * p + 1) ∧ w.1 50 (f + 2 * p + 1) < 4) : zC mM_goSeason 3 [zR 33, zI insp, zI f, zI n] w (zrV fun w' => (∀ i k, ¬ (i = 33 ∧ 20 ≤ k ∧ k ≤ 24) → w'.1 i k = w.1 i k) ∧ zSeaM w f insp n.toNat = (w'.1 33 22, w'.1 33 20, w'.1 33 23, w'.1 33 21, w'.1 33 24)) := by
  refine zC.of (by decide +kernel) (Nat.le_of_ble_eq_true rfl) ?_
  show zM mM_goSeason (zZm 3 _) 0 [(0, zR 33), (1, zI insp), (2, zI f), (3, zI n)] [] w
  refine r_ok (fun hO => ?_)
  refine r_aload_n 0 0 dM_goSeason_0 rfl rfl ?_
  refine r_bipush dM_goSeason_1 (by decide) ?_
  refine r_putI (k := 20) fX7 rfl rfl (by decide) kw_525 rfl rfl (by decide +kernel) 20 rfl dM_goSeason_3 rfl (by omega) (by omega) (fun w_3 ew_3 => ?_)
  refine r_aload_n 0 0 dM_goSeason_6 rfl rfl ?_
  refine r_bipush dM_goSeason_7 (by decide) ?_
  refine r_putI (k := 21) fX7 rfl rfl (by decide) kw_526 rfl rfl (by decide +kernel) 21 rfl dM_goSeason_9 rfl (by omega) (by omega) (fun w_9 ew_9 => ?_)
  refine r_aload_n 0 0 dM_goSeason_12 rfl rfl ?_
  refine r_aload_n 0 0 dM_goSeason_13 rfl rfl ?_
  refine r_getI (k := 1) fX7 rfl rfl (by decide) kw_506 rfl 1 rfl dM_goSeason_14 rfl (fun y_14 ey_14 ly_14 uy_14 => ?_)
  rw [ew_9, zput_k (k := 21) (k' := 1) _ _ (by decide)] at ey_14
  rw [ew_3, zput_k (k := 20) (k' := 1) _ _ (by decide)] at ey_14
  refine r_putI (k := 22) fX7 rfl rfl (by decide) kw_527 rfl rfl (by decide +kernel) 22 rfl dM_goSeason_17 rfl (by omega) (by omega) (fun w_17 ew_17 => ?_)
  refine r_aload_n 0 0 dM_goSeason_20 rfl rfl ?_
  refine r_bipush dM_goSeason_21 (by decide) ?_
  refine r_putI (k := 23) fX7 rfl rfl (by decide) kw_528 rfl rfl (by decide +kernel) 23 rfl dM_goSeason_23 rfl (by omega) (by omega) (fun w_23 ew_23 => ?_)
  refine r_aload_n 0 0 dM_goSeason_26 rfl rfl ?_
  refine r_iconst dM_goSeason_27 ?_
  refine r_putI (k := 24) fX7 rfl rfl (by decide) kw_529 rfl rfl (by decide +kernel) 24 rfl dM_goSeason_28 rfl (by omega) (by omega) (fun w_28 ew_28 => ?_)
  refine r_iconst dM_goSeason_31 ?_
  refine r_istore (ls' := [(4, zI 0), (0, zR 33), (1, zI insp), (2, zI f), (3, zI n)]) 4 dM_goSeason_32 (by decide) rfl ?_
  have L_34 : ∀ (n_34 : Nat) (x : Int) (wl : zW) (hx0 : 0 ≤ x) (hx1 : x ≤ n) (hw : ∀ i k, ¬ (i = 33 ∧ 20 ≤ k ∧ k ≤ 24) → wl.1 i k = w.1 i k) (hpl : wl.1 33 24 ≤ 21 * x) (hf9 : wl.1 33 20 = -9 ∨ 0 ≤ wl.1 33 20) (hst : zSeaM w f insp x.toNat = (wl.1 33 22, wl.1 33 20, wl.1 33 23, wl.1 33 21, wl.1 33 24)), n - x < (n_34 : Int) → zM mM_goSeason (zZm 3 (zrV fun w' => (∀ i k, ¬ (i = 33 ∧ 20 ≤ k ∧ k ≤ 24) → w'.1 i k = w.1 i k) ∧ zSeaM w f insp n.toNat = (w'.1 33 22, w'.1 33 20, w'.1 33 23, w'.1 33 21, w'.1 33 24))) 34 [(4, zI x), (0, zR 33), (1, zI insp), (2, zI f), (3, zI n)] [] wl := by
    intro n_34
    induction n_34 with
    | zero => intro x wl hx0 hx1 hw hpl hf9 hst hm_34; exfalso; omega
    | succ n_34 ih_34 =>
      intro x wl hx0 hx1 hw hpl hf9 hst hm_34
      have hv9 : x < n → _ := fun q => hv x hx0 q
      refine r_iload 4 0 dM_goSeason_34 rfl ?_
      refine r_iload_n 3 4 dM_goSeason_36 rfl rfl ?_
      refine r_ic_ge 212 dM_goSeason_37 (by decide) ⟨by omega, by omega⟩ ⟨by omega, by omega⟩ (fun c_37 => ?_) (fun c_37 => ?_)
      · refine r_vret rfl dM_goSeason_212 ⟨rfl, ?_⟩
        exact ⟨hw, by first | (rw [show n.toNat = x.toNat by omega]; exact hst) | exact (zSea_stop (m := x.toNat) (show ¬ (zSeaM w f insp x.toNat).2.1 = -9 by rw [hst]; show ¬ wl.1 33 20 = -9; omega) n.toNat (by omega)).trans hst⟩
      · refine r_aload_n 0 1 dM_goSeason_40 rfl rfl ?_
        refine r_getI (k := 20) fX7 rfl rfl (by decide) kw_525 rfl 20 rfl dM_goSeason_41 rfl (fun y_41 ey_41 ly_41 uy_41 => ?_)
        refine r_if_ge 212 dM_goSeason_44 (by decide) ⟨by omega, by omega⟩ (fun c_44 => ?_) (fun c_44 => ?_)
        · refine r_vret rfl dM_goSeason_212 ⟨rfl, ?_⟩
          exact ⟨hw, by first | (rw [show n.toNat = x.toNat by omega]; exact hst) | exact (zSea_stop (m := x.toNat) (show ¬ (zSeaM w f insp x.toNat).2.1 = -9 by rw [hst]; show ¬ wl.1 33 20 = -9; omega) n.toNat (by omega)).trans hst⟩
        · refine r_aload_n 0 1 dM_goSeason_47 rfl rfl ?_
          refine r_getR (k := 35) (b := 50) fX7 rfl rfl rfl (by decide) kw_540 rfl dM_goSeason_48 ?_
          refine r_iload_n 2 3 dM_goSeason_51 rfl rfl ?_
          refine r_iconst dM_goSeason_52 ?_
          refine r_iload 4 0 dM_goSeason_53 rfl ?_
          refine r_imul dM_goSeason_55 ?_
          refine r_iadd dM_goSeason_56 ?_
          refine r_iaload rfl (by decide) dM_goSeason_57 (by omega) (by omega) rfl (fun y_57 ey_57 ly_57 uy_57 => ?_)
          refine r_istore (ls' := [(5, zI y_57), (4, zI x), (0, zR 33), (1, zI insp), (2, zI f), (3, zI n)]) 5 dM_goSeason_58 (by decide) rfl ?_
          refine r_aload_n 0 2 dM_goSeason_60 rfl rfl ?_
          refine r_getR (k := 35) (b := 50) fX7 rfl rfl rfl (by decide) kw_540 rfl dM_goSeason_61 ?_
          refine r_iload_n 2 4 dM_goSeason_64 rfl rfl ?_
          refine r_iconst dM_goSeason_65 ?_
          refine r_iload 4 1 dM_goSeason_66 rfl ?_
          refine r_imul dM_goSeason_68 ?_
          refine r_iadd dM_goSeason_69 ?_
          refine r_iconst dM_goSeason_70 ?_
          refine r_iadd dM_goSeason_71 ?_
          refine r_iaload rfl (by decide) dM_goSeason_72 (by omega) (by omega) rfl (fun y_72 ey_72 ly_72 uy_72 => ?_)
          refine r_istore (ls' := [(6, zI y_72), (5, zI y_57), (4, zI x), (0, zR 33), (1, zI insp), (2, zI f), (3, zI n)]) 6 dM_goSeason_73 (by decide) rfl ?_
          have e57 : y_57 = w.1 50 (f + 2 * x) := (by rw [ey_57, hw _ _ (by omega)])
          have e72 : y_72 = w.1 50 (f + 2 * x + 1) := (by rw [ey_72, hw _ _ (by omega)])
          obtain ⟨v0, v1, v2, v3⟩ := hv x hx0 (by omega)
          rw [← e57] at v0 v1
          rw [← e72] at v2 v3
          have p9 : ∀ w2 : zW, (∀ i k, i ≠ 33 → w2.1 i k = wl.1 i k) → zPM w2 y_57 y_72 = zPM w y_57 y_72 := fun w2 h2 => zPM_eq (fun i k h1 h3 => by rw [h2 i k (by omega), hw i k (by omega)]) _ _
          have pb := zPM_in hO y_57 y_72
          have e11 : wl.1 33 2 = w.1 33 2 := hw 33 2 (by omega)
          have e8 : wl.1 35 y_72 = w.1 35 y_72 := hw 35 _ (by omega)
          refine r_aload_n 0 3 dM_goSeason_75 rfl rfl ?_
          refine r_getR (k := 5) (b := 35) fX7 rfl rfl rfl (by decide) kw_510 rfl dM_goSeason_76 ?_
          refine r_iload 6 0 dM_goSeason_79 rfl ?_
          refine r_iaload rfl (by decide) dM_goSeason_81 (by omega) (by omega) rfl (fun y_81 ey_81 ly_81 uy_81 => ?_)
          refine r_aload_n 0 3 dM_goSeason_82 rfl rfl ?_
          refine r_getI (k := 21) fX7 rfl rfl (by decide) kw_526 rfl 21 rfl dM_goSeason_83 rfl (fun y_83 ey_83 ly_83 uy_83 => ?_)
          refine r_ic_le 98 dM_goSeason_86 (by decide) ⟨by omega, by omega⟩ ⟨by omega, by omega⟩ (fun c_86 => ?_) (fun c_86 => ?_)
          · refine r_aload_n 0 3 dM_goSeason_98 rfl rfl ?_
            refine r_dup dM_goSeason_99 rfl ?_
            refine r_getI (k := 21) fX7 rfl rfl (by decide) kw_526 rfl 21 rfl dM_goSeason_100 rfl (fun y_100 ey_100 ly_100 uy_100 => ?_)
            refine r_aload_n 0 3 dM_goSeason_103 rfl rfl ?_
            refine r_getR (k := 5) (b := 35) fX7 rfl rfl rfl (by decide) kw_510 rfl dM_goSeason_104 ?_
            refine r_iload 6 0 dM_goSeason_107 rfl ?_
            refine r_iaload rfl (by decide) dM_goSeason_109 (by omega) (by omega) rfl (fun y_109 ey_109 ly_109 uy_109 => ?_)
            refine r_isub dM_goSeason_110 ?_
            refine r_putI (k := 21) fX7 rfl rfl (by decide) kw_526 rfl rfl (by decide +kernel) 21 rfl dM_goSeason_111 rfl (by omega) (by omega) (fun w_111 ew_111 => ?_)
            refine r_aload_n 0 3 dM_goSeason_114 rfl rfl ?_
            refine r_dup dM_goSeason_115 rfl ?_
            refine r_getI (k := 24) fX7 rfl rfl (by decide) kw_529 rfl 24 rfl dM_goSeason_116 rfl (fun y_116 ey_116 ly_116 uy_116 => ?_)
            rw [ew_111, zput_k (k := 21) (k' := 24) _ _ (by decide)] at ey_116
            refine r_aload_n 0 3 dM_goSeason_119 rfl rfl ?_
            refine r_iload 5 1 dM_goSeason_120 rfl ?_
            refine r_iload 6 0 dM_goSeason_122 rfl ?_
            refine r_cVI (cM_pleasedBy w_111 y_57 y_72 (by omega) (by omega) (by omega) (by omega)) qM_pleasedBy rfl kw_691 rfl rfl dM_goSeason_124 (st0 := [zI y_72, zI y_57, zR 33, zI y_116, zR 33]) (st := [zI y_116, zR 33]) rfl ⟨Nat.le_of_ble_eq_true rfl, Nat.le_of_ble_eq_true rfl⟩ ⟨Nat.le_of_ble_eq_true rfl, Nat.le_of_ble_eq_true rfl⟩ (Nat.le_of_ble_eq_true rfl) (fun a_124 w_124 h_124 ok_124 => ?_)
            obtain ⟨rfl, h_124⟩ := h_124
            have z_124_0 : zPM w_111 y_57 y_72 = zPM wl y_57 y_72 := by rw [ew_111, zPM_put (i := 33) (by decide)]
            refine r_iadd dM_goSeason_127 ?_
            refine r_putI (k := 24) fX7 rfl rfl (by decide) kw_529 rfl rfl (by decide +kernel) 24 rfl dM_goSeason_128 rfl (by omega) (by omega) (fun w_128 ew_128 => ?_)
            have f124 : a_124 = zPM w y_57 y_72 := (by rw [h_124.1, p9 _ (fun i k q => by rw [ew_111, zput_i _ _ _ _ q])])
            have f142 : zPM w_128 y_57 y_72 = zPM w y_57 y_72 := p9 _ (fun i k q => by rw [ew_128, zput_i _ _ _ _ q, ew_111, zput_i _ _ _ _ q])
            have f142b : w_128.1 33 2 = w.1 33 2 := (by rw [ew_128, zput_k _ _ (by decide), ew_111, zput_k _ _ (by decide), e11])
            refine r_iload 5 1 dM_goSeason_131 rfl ?_
            refine r_iload_n 1 4 dM_goSeason_133 rfl rfl ?_
            have J_160 : ∀ (b : Int) (hb : (b = 1 ∧ y_57 = insp ∧ w.1 33 2 ≤ zPM w y_57 y_72 ∧ 0 < wl.1 33 22) ∨ (b = 0 ∧ ¬ (y_57 = insp ∧ w.1 33 2 ≤ zPM w y_57 y_72 ∧ 0 < wl.1 33 22))), zM mM_goSeason (zZm 3 (zrV fun w' => (∀ i k, ¬ (i = 33 ∧ 20 ≤ k ∧ k ≤ 24) → w'.1 i k = w.1 i k) ∧ zSeaM w f insp n.toNat = (w'.1 33 22, w'.1 33 20, w'.1 33 23, w'.1 33 21, w'.1 33 24))) 160 [(6, zI y_72), (5, zI y_57), (4, zI x), (0, zR 33), (1, zI insp), (2, zI f), (3, zI n)] [zI b] w_128 := by
              intro b hb
              refine r_istore (ls' := [(7, zI b), (6, zI y_72), (5, zI y_57), (4, zI x), (0, zR 33), (1, zI insp), (2, zI f), (3, zI n)]) 7 dM_goSeason_160 (by decide) rfl ?_
              refine r_aload_n 0 4 dM_goSeason_162 rfl rfl ?_
              refine r_dup dM_goSeason_163 rfl ?_
              refine r_getI (k := 22) fX7 rfl rfl (by decide) kw_527 rfl 22 rfl dM_goSeason_164 rfl (fun y_164 ey_164 ly_164 uy_164 => ?_)
              rw [ew_128, zput_k (k := 24) (k' := 22) _ _ (by decide)] at ey_164
              rw [ew_111, zput_k (k := 21) (k' := 22) _ _ (by decide)] at ey_164
              refine r_iload 7 0 dM_goSeason_167 rfl ?_
              have J_177 : ∀ (t : Int) (ht : t = b), zM mM_goSeason (zZm 3 (zrV fun w' => (∀ i k, ¬ (i = 33 ∧ 20 ≤ k ∧ k ≤ 24) → w'.1 i k = w.1 i k) ∧ zSeaM w f insp n.toNat = (w'.1 33 22, w'.1 33 20, w'.1 33 23, w'.1 33 21, w'.1 33 24))) 177 [(7, zI b), (6, zI y_72), (5, zI y_57), (4, zI x), (0, zR 33), (1, zI insp), (2, zI f), (3, zI n)] [zI t, zI y_164, zR 33] w_128 := by
                intro t ht
                refine r_isub dM_goSeason_177 ?_
                refine r_putI (k := 22) fX7 rfl rfl (by decide) kw_527 rfl rfl (by decide +kernel) 22 rfl dM_goSeason_178 rfl (by omega) (by omega) (fun w_178 ew_178 => ?_)
                refine r_aload_n 0 4 dM_goSeason_181 rfl rfl ?_
                refine r_iload 7 0 dM_goSeason_182 rfl ?_
                have J_203 : ∀ (e : Int) (he : (b = 1 ∧ y_164 - t = 0 ∧ e = x) ∨ (¬ (b = 1 ∧ y_164 - t = 0) ∧ e = wl.1 33 23)) (he2 : -9 ≤ e ∧ e ≤ 19), zM mM_goSeason (zZm 3 (zrV fun w' => (∀ i k, ¬ (i = 33 ∧ 20 ≤ k ∧ k ≤ 24) → w'.1 i k = w.1 i k) ∧ zSeaM w f insp n.toNat = (w'.1 33 22, w'.1 33 20, w'.1 33 23, w'.1 33 21, w'.1 33 24))) 203 [(7, zI b), (6, zI y_72), (5, zI y_57), (4, zI x), (0, zR 33), (1, zI insp), (2, zI f), (3, zI n)] [zI e, zR 33] w_178 := by
                  intro e he he2
                  refine r_putI (k := 23) fX7 rfl rfl (by decide) kw_528 rfl rfl (by decide +kernel) 23 rfl dM_goSeason_203 rfl (by omega) (by omega) (fun w_203 ew_203 => ?_)
                  have f20 : w_203.1 33 20 = wl.1 33 20 := (by rw [ew_203, zput_k _ _ (by decide), ew_178, zput_k _ _ (by decide), ew_128, zput_k _ _ (by decide), ew_111, zput_k _ _ (by decide)])
                  have f21 : w_203.1 33 21 = y_100 - y_109 := (by rw [ew_203, zput_k _ _ (by decide), ew_178, zput_k _ _ (by decide), ew_128, zput_k _ _ (by decide), ew_111, zput_s])
                  have f22 : w_203.1 33 22 = y_164 - t := (by rw [ew_203, zput_k _ _ (by decide), ew_178, zput_s])
                  have f23 : w_203.1 33 23 = e := (by rw [ew_203, zput_s])
                  have f24 : w_203.1 33 24 = y_116 + a_124 := (by rw [ew_203, zput_k _ _ (by decide), ew_178, zput_k _ _ (by decide), ew_128, zput_s])
                  refine r_iinc (ls' := [(4, zI (x + 1)), (7, zI b), (6, zI y_72), (5, zI y_57), (0, zR 33), (1, zI insp), (2, zI f), (3, zI n)]) 4 3 dM_goSeason_206 rfl (by decide) rfl ?_
                  refine r_goto 34 dM_goSeason_209 (by decide) ?_
                  refine r_sub (ls' := [(4, zI (x + 1)), (0, zR 33), (1, zI insp), (2, zI f), (3, zI n)]) [0, 4, 5, 6, 7] rfl ?_
                  exact ih_34 (x + 1) w_203 (by omega) (by omega) (fun i' k' q => by first | (rw [ew_203, zput_e, if_neg (by omega), ew_178, zput_e, if_neg (by omega), ew_128, zput_e, if_neg (by omega), ew_111, zput_e, if_neg (by omega)]; exact hw i' k' q) | (rw [ew_92, zput_e, if_neg (by omega)]; exact hw i' k' q)) (by first | (rw [f24]; omega) | (rw [ew_92, zput_k _ _ (by decide)]; omega)) (by first | (rw [f20]; omega) | (rw [ew_92, zput_s]; omega)) (by first | exact (by unfold zSeaM; rw [zSea_s hx0]; show zStep _ _ _ _ _ (w.1 50 (f + 2 * x)) (w.1 50 (f + (2 * x + 1))) (zSeaM w f insp x.toNat) = _; rw [hst, ← Int.add_assoc, ← e57, ← e72]; rw [f22, f20, f23, f21, f24]; unfold zStep; show (if wl.1 33 20 = -9 then (if wl.1 33 21 < w.1 35 y_72 then _ else if y_57 = insp ∧ w.1 33 2 ≤ zPM w y_57 y_72 ∧ 0 < wl.1 33 22 then (wl.1 33 22 - 1, (-9 : Int), (if wl.1 33 22 - 1 = 0 then x else wl.1 33 23), wl.1 33 21 - w.1 35 y_72, wl.1 33 24 + zPM w y_57 y_72) else (wl.1 33 22, (-9 : Int), wl.1 33 23, wl.1 33 21 - w.1 35 y_72, wl.1 33 24 + zPM w y_57 y_72)) else _) = _; rw [if_pos (by omega), if_neg (by omega)]; by_cases z : y_57 = insp ∧ w.1 33 2 ≤ zPM w y_57 y_72 ∧ 0 < wl.1 33 22; (rw [if_pos z]; refine zT5 (by omega) (by omega) ?_ (by omega) (by omega); split <;> omega); (rw [if_neg z]; exact zT5 (by omega) (by omega) (by omega) (by omega) (by omega))) | exact (by unfold zSeaM; rw [zSea_s hx0]; show zStep _ _ _ _ _ (w.1 50 (f + 2 * x)) (w.1 50 (f + (2 * x + 1))) (zSeaM w f insp x.toNat) = _; rw [hst, ← Int.add_assoc, ← e57, ← e72]; rw [ew_92, zput_s, zput_k _ _ (by decide), zput_k _ _ (by decide), zput_k _ _ (by decide), zput_k _ _ (by decide)]; unfold zStep; show (if wl.1 33 20 = -9 then (if wl.1 33 21 < w.1 35 y_72 then _ else _) else _) = _; rw [if_pos (by omega), if_pos (by omega)])) (by omega)
                refine r_if_eq 199 dM_goSeason_184 (by decide) ⟨by omega, by omega⟩ (fun c_184 => ?_) (fun c_184 => ?_)
                · refine r_aload_n 0 4 dM_goSeason_199 rfl rfl ?_
                  refine r_getI (k := 23) fX7 rfl rfl (by decide) kw_528 rfl 23 rfl dM_goSeason_200 rfl (fun y_200 ey_200 ly_200 uy_200 => ?_)
                  rw [ew_178, zput_k (k := 22) (k' := 23) _ _ (by decide)] at ey_200
                  rw [ew_128, zput_k (k := 24) (k' := 23) _ _ (by decide)] at ey_200
                  rw [ew_111, zput_k (k := 21) (k' := 23) _ _ (by decide)] at ey_200
                  exact J_203 y_200 (by omega) (by omega)
                · refine r_aload_n 0 4 dM_goSeason_187 rfl rfl ?_
                  refine r_getI (k := 22) fX7 rfl rfl (by decide) kw_527 rfl 22 rfl dM_goSeason_188 rfl (fun y_188 ey_188 ly_188 uy_188 => ?_)
                  rw [ew_178, zput_s] at ey_188
                  refine r_if_ne 199 dM_goSeason_191 (by decide) ⟨by omega, by omega⟩ (fun c_191 => ?_) (fun c_191 => ?_)
                  · refine r_aload_n 0 4 dM_goSeason_199 rfl rfl ?_
                    refine r_getI (k := 23) fX7 rfl rfl (by decide) kw_528 rfl 23 rfl dM_goSeason_200 rfl (fun y_200 ey_200 ly_200 uy_200 => ?_)
                    rw [ew_178, zput_k (k := 22) (k' := 23) _ _ (by decide)] at ey_200
                    rw [ew_128, zput_k (k := 24) (k' := 23) _ _ (by decide)] at ey_200
                    rw [ew_111, zput_k (k := 21) (k' := 23) _ _ (by decide)] at ey_200
                    exact J_203 y_200 (by omega) (by omega)
                  · refine r_iload 4 3 dM_goSeason_194 rfl ?_
                    refine r_goto 203 dM_goSeason_196 (by decide) ?_
                    exact J_203 x (by omega) (by omega)
              refine r_if_eq 176 dM_goSeason_169 (by decide) ⟨by omega, by omega⟩ (fun c_169 => ?_) (fun c_169 => ?_)
              · refine r_iconst dM_goSeason_176 ?_
                exact J_177 0 (by omega)
              · refine r_iconst dM_goSeason_172 ?_
                refine r_goto 177 dM_goSeason_173 (by decide) ?_
                exact J_177 1 (by omega)
            refine r_ic_ne 159 dM_goSeason_134 (by decide) ⟨by omega, by omega⟩ ⟨by omega, by omega⟩ (fun c_134 => ?_) (fun c_134 => ?_)
            · refine r_iconst dM_goSeason_159 ?_
              exact J_160 0 (by omega)
            · refine r_aload_n 0 3 dM_goSeason_137 rfl rfl ?_
              refine r_iload 5 1 dM_goSeason_138 rfl ?_
              refine r_iload 6 0 dM_goSeason_140 rfl ?_
              refine r_cVI (cM_doesLose w_128 y_57 y_72 (by omega) (by omega) (by omega) (by omega)) qM_doesLose rfl kw_687 rfl rfl dM_goSeason_142 (st0 := [zI y_72, zI y_57, zR 33]) (st := []) rfl ⟨Nat.le_of_ble_eq_true rfl, Nat.le_of_ble_eq_true rfl⟩ ⟨Nat.le_of_ble_eq_true rfl, Nat.le_of_ble_eq_true rfl⟩ (Nat.le_of_ble_eq_true rfl) (fun a_142 w_142 h_142 ok_142 => ?_)
              obtain ⟨rfl, h_142⟩ := h_142
              have z_142_0 : w_128.1 33 2 = wl.1 33 2 := by rw [ew_128, zput_k (k := 24) (k' := 2) _ _ (by decide), ew_111, zput_k (k := 21) (k' := 2) _ _ (by decide)]
              have z_142_1 : zPM w_128 y_57 y_72 = zPM wl y_57 y_72 := by rw [ew_128, zPM_put (i := 33) (by decide), ew_111, zPM_put (i := 33) (by decide)]
              refine r_if_eq 159 dM_goSeason_145 (by decide) ⟨by omega, by omega⟩ (fun c_145 => ?_) (fun c_145 => ?_)
              · refine r_iconst dM_goSeason_159 ?_
                exact J_160 0 (by omega)
              · refine r_aload_n 0 3 dM_goSeason_148 rfl rfl ?_
                refine r_getI (k := 22) fX7 rfl rfl (by decide) kw_527 rfl 22 rfl dM_goSeason_149 rfl (fun y_149 ey_149 ly_149 uy_149 => ?_)
                rw [ew_128, zput_k (k := 24) (k' := 22) _ _ (by decide)] at ey_149
                rw [ew_111, zput_k (k := 21) (k' := 22) _ _ (by decide)] at ey_149
                refine r_if_le 159 dM_goSeason_152 (by decide) ⟨by omega, by omega⟩ (fun c_152 => ?_) (fun c_152 => ?_)
                · refine r_iconst dM_goSeason_159 ?_
                  exact J_160 0 (by omega)
                · refine r_iconst dM_goSeason_155 ?_
                  refine r_goto 160 dM_goSeason_156 (by decide) ?_
                  exact J_160 1 (by omega)
          · refine r_aload_n 0 3 dM_goSeason_89 rfl rfl ?_
            refine r_iload 4 2 dM_goSeason_90 rfl ?_
            refine r_putI (k := 20) fX7 rfl rfl (by decide) kw_525 rfl rfl (by decide +kernel) 20 rfl dM_goSeason_92 rfl (by omega) (by omega) (fun w_92 ew_92 => ?_)
            refine r_goto 206 dM_goSeason_95 (by decide) ?_
            skip
            refine r_iinc (ls' := [(4, zI (x + 1)), (6, zI y_72), (5, zI y_57), (0, zR 33), (1, zI insp), (2, zI f), (3, zI n)]) 4 2 dM_goSeason_206 rfl (by decide) rfl ?_
            refine r_goto 34 dM_goSeason_209 (by decide) ?_
            refine r_sub (ls' := [(4, zI (x + 1)), (0, zR 33), (1, zI insp), (2, zI f), (3, zI n)]) [0, 3, 4, 5, 6] rfl ?_
            exact ih_34 (x + 1) w_92 (by omega) (by omega) (fun i' k' q => by first | (rw [ew_203, zput_e, if_neg (by omega), ew_178, zput_e, if_neg (by omega), ew_128, zput_e, if_neg (by omega), ew_111, zput_e, if_neg (by omega)]; exact hw i' k' q) | (rw [ew_92, zput_e, if_neg (by omega)]; exact hw i' k' q)) (by first | (rw [f24]; omega) | (rw [ew_92, zput_k _ _ (by decide)]; omega)) (by first | (rw [f20]; omega) | (rw [ew_92, zput_s]; omega)) (by first | exact (by unfold zSeaM; rw [zSea_s hx0]; show zStep _ _ _ _ _ (w.1 50 (f + 2 * x)) (w.1 50 (f + (2 * x + 1))) (zSeaM w f insp x.toNat) = _; rw [hst, ← Int.add_assoc, ← e57, ← e72]; rw [f22, f20, f23, f21, f24]; unfold zStep; show (if wl.1 33 20 = -9 then (if wl.1 33 21 < w.1 35 y_72 then _ else if y_57 = insp ∧ w.1 33 2 ≤ zPM w y_57 y_72 ∧ 0 < wl.1 33 22 then (wl.1 33 22 - 1, (-9 : Int), (if wl.1 33 22 - 1 = 0 then x else wl.1 33 23), wl.1 33 21 - w.1 35 y_72, wl.1 33 24 + zPM w y_57 y_72) else (wl.1 33 22, (-9 : Int), wl.1 33 23, wl.1 33 21 - w.1 35 y_72, wl.1 33 24 + zPM w y_57 y_72)) else _) = _; rw [if_pos (by omega), if_neg (by omega)]; by_cases z : y_57 = insp ∧ w.1 33 2 ≤ zPM w y_57 y_72 ∧ 0 < wl.1 33 22; (rw [if_pos z]; refine zT5 (by omega) (by omega) ?_ (by omega) (by omega); split <;> omega); (rw [if_neg z]; exact zT5 (by omega) (by omega) (by omega) (by omega) (by omega))) | exact (by unfold zSeaM; rw [zSea_s hx0]; show zStep _ _ _ _ _ (w.1 50 (f + 2 * x)) (w.1 50 (f + (2 * x + 1))) (zSeaM w f insp x.toNat) = _; rw [hst, ← Int.add_assoc, ← e57, ← e72]; rw [ew_92, zput_s, zput_k _ _ (by decide), zput_k _ _ (by decide), zput_k _ _ (by decide), zput_k _ _ (by decide)]; unfold zStep; show (if wl.1 33 20 = -9 then (if wl.1 33 21 < w.1 35 y_72 then _ else _) else _) = _; rw [if_pos (by omega), if_pos (by omega)])) (by omega)
  exact L_34 21 0 w_28 (by omega) (by omega) (fun i' k' q => by rw [ew_28, zput_e, if_neg (by omega), ew_23, zput_e, if_neg (by omega), ew_17, zput_e, if_neg (by omega), ew_9, zput_e, if_neg (by omega), ew_3, zput_e, if_neg (by omega)]) (by rw [ew_28, zput_s]; decide) (by rw [ew_28, zput_k _ _ (by decide), ew_23, zput_k _ _ (by decide), ew_17, zput_k _ _ (by decide), ew_9, zput_k _ _ (by decide), ew_3, zput_s]; decide) (by show (w.1 33 1, (-9 : Int), (-9 : Int), (12 : Int), (0 : Int)) = _; refine zT5 ?_ ?_ ?_ ?_ ?_; rw [ew_28, zput_k _ _ (by decide), ew_23, zput_k _ _ (by decide), ew_17, zput_s, ey_14]; rw [ew_28, zput_k _ _ (by decide), ew_23, zput_k _ _ (by decide), ew_17, zput_k _ _ (by decide), ew_9, zput_k _ _ (by decide), ew_3, zput_s]; rw [ew_28, zput_k _ _ (by decide), ew_23, zput_s]; rw [ew_28, zput_k _ _ (by decide), ew_23, zput_k _ _ (by decide), ew_17, zput_k _ _ (by decide), ew_9, zput_s]; rw [ew_28, zput_s]) (by omega)
