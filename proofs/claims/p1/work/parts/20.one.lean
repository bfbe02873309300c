set_option maxRecDepth 20000 in
set_option maxHeartbeats 4000000 in
theorem cT_isOne (w : zW) (r : Nat) (f : Int) (n : Int) (hS : zS r = .inl (0, 60)) (hB : ∀ k, zB r k = (-2147483648, 2147483647)) (hr : 16 ≤ r) (hf : 0 ≤ f) (hn : 0 ≤ n) (hfn : f + n ≤ 60) : zC mT_isOne 3 [zR 3, zR r, zI f, zI n] w (zrI fun a w' => (((zTx (fun q => w.1 r (f + q)) n).1 = true ∧ a = 1) ∨ ((zTx (fun q => w.1 r (f + q)) n).1 = false ∧ a = 0)) ∧ w'.1 3 3 = (zTx (fun q => w.1 r (f + q)) n).2.1 ∧ ((zTx (fun q => w.1 r (f + q)) n).1 = true → w'.1 3 4 = (zTx (fun q => w.1 r (f + q)) n).2.2.1 ∧ w'.1 3 5 = (zTx (fun q => w.1 r (f + q)) n).2.2.2) ∧ (∀ i k, i ≠ 3 → w'.1 i k = w.1 i k)) := by
  refine zC.of (by decide +kernel) (Nat.le_of_ble_eq_true rfl) ?_
  show zM mT_isOne (zZm 3 _) 0 [(0, zR 3), (1, zR r), (2, zI f), (3, zI n)] [] w
  refine r_aload_n 0 0 dT_isOne_0 rfl rfl ?_
  refine r_aload_n 1 1 dT_isOne_1 rfl rfl ?_
  refine r_putRow kw_99 dT_isOne_2 (fun w_2 ew_2 => ?_)
  refine r_aload_n 0 0 dT_isOne_5 rfl rfl ?_
  refine r_iload_n 2 2 dT_isOne_6 rfl rfl ?_
  refine r_putI (k := 1) fX5 rfl rfl (by decide) kw_100 rfl rfl (by decide +kernel) 1 rfl dT_isOne_7 rfl (by omega) (by omega) (fun w_7 ew_7 => ?_)
  refine r_aload_n 0 0 dT_isOne_10 rfl rfl ?_
  refine r_iload_n 3 3 dT_isOne_11 rfl rfl ?_
  refine r_putI (k := 2) fX5 rfl rfl (by decide) kw_101 rfl rfl (by decide +kernel) 2 rfl dT_isOne_12 rfl (by omega) (by omega) (fun w_12 ew_12 => ?_)
  refine r_aload_n 0 0 dT_isOne_15 rfl rfl ?_
  refine r_iconst dT_isOne_16 ?_
  refine r_putI (k := 3) fX5 rfl rfl (by decide) kw_102 rfl rfl (by decide +kernel) 3 rfl dT_isOne_17 rfl (by omega) (by omega) (fun w_17 ew_17 => ?_)
  have hA : ∀ i k, i ≠ 3 → w_17.1 i k = w.1 i k := fun i k q => (by rw [ew_17, zput_i _ _ _ _ q, ew_12, zput_i _ _ _ _ q, ew_7, zput_i _ _ _ _ q, ew_2])
  have hT0 : zTS w_17 (fun q => w.1 r (f + q)) n 0 := by
    have e2 : w_17.2 = r := (by rw [ew_17, ew_12, ew_7, ew_2]; rfl)
    have e31 : w_17.1 3 1 = f := (by rw [ew_17, zput_k _ _ (by decide), ew_12, zput_k _ _ (by decide), ew_7, zput_s])
    have e32 : w_17.1 3 2 = n := (by rw [ew_17, zput_k _ _ (by decide), ew_12, zput_s])
    exact ⟨⟨by rw [e2]; exact hS, by rw [e2]; exact hB, by rw [e2]; exact hr⟩, by rw [e31, e32]; omega, fun q => by rw [e2, e31]; exact hA _ _ (by omega), e32, by rw [ew_17, zput_s]⟩
  refine r_aload_n 0 0 dT_isOne_20 rfl rfl ?_
  refine r_bipush dT_isOne_21 (by decide) ?_
  refine r_bipush dT_isOne_23 (by decide) ?_
  refine r_cVI (cT_next w_17 122 122 (fun q => w.1 r (f + q)) n 0 ⟨by omega, by omega⟩ ⟨by omega, by omega⟩ hT0) qT_next rfl kw_239 rfl rfl dT_isOne_25 (st0 := [zI 122, zI 122, zR 3]) (st := []) rfl ⟨Nat.le_of_ble_eq_true rfl, Nat.le_of_ble_eq_true rfl⟩ ⟨Nat.le_of_ble_eq_true rfl, Nat.le_of_ble_eq_true rfl⟩ (Nat.le_of_ble_eq_true rfl) (fun a_25 w_25 h_25 ok_25 => ?_)
  refine r_if_eq 57 dT_isOne_28 (by decide) ⟨by omega, by omega⟩ (fun c_28 => ?_) (fun c_28 => ?_)
  · refine r_iconst dT_isOne_57 ?_
    refine r_istore (ls' := [(4, zI 0), (0, zR 3), (1, zR r), (2, zI f), (3, zI n)]) 4 dT_isOne_58 (by decide) rfl ?_
    refine r_iload 4 0 dT_isOne_60 rfl ?_
    refine r_if_eq 94 dT_isOne_62 (by decide) ⟨by omega, by omega⟩ (fun c_62 => ?_) (fun c_62 => by exfalso; omega)
    refine r_iconst dT_isOne_94 ?_
    refine r_zret rfl (by omega) dT_isOne_95 ⟨_, rfl, ?_⟩
    have hD : zTx (fun q => w.1 r (f + q)) n = (false, 0, 0, 0) := (by unfold zTx; rw [if_neg (show ¬ (0 < n ∧ w.1 r (f + 0) = 122) by omega)])
    rw [hD]
    exact ⟨Or.inr ⟨rfl, rfl⟩, by have q := h_25.1.2.2.2.2; show _ = (0 : Int); omega, fun q => absurd q Bool.false_ne_true, fun i k q => (h_25.2.1 i k (fun z => q z.1)).trans (hA i k q)⟩
  · refine r_aload_n 0 0 dT_isOne_31 rfl rfl ?_
    refine r_bipush dT_isOne_32 (by decide) ?_
    refine r_bipush dT_isOne_34 (by decide) ?_
    refine r_cVI (cT_next w_25 48 53 (fun q => w.1 r (f + q)) n 1 ⟨by omega, by omega⟩ ⟨by omega, by omega⟩ (by have q := h_25.1; rw [show 0 + a_25 = 1 by omega] at q; exact q)) qT_next rfl kw_239 rfl rfl dT_isOne_36 (st0 := [zI 53, zI 48, zR 3]) (st := []) rfl ⟨Nat.le_of_ble_eq_true rfl, Nat.le_of_ble_eq_true rfl⟩ ⟨Nat.le_of_ble_eq_true rfl, Nat.le_of_ble_eq_true rfl⟩ (Nat.le_of_ble_eq_true rfl) (fun a_36 w_36 h_36 ok_36 => ?_)
    refine r_if_eq 57 dT_isOne_39 (by decide) ⟨by omega, by omega⟩ (fun c_39 => ?_) (fun c_39 => ?_)
    · refine r_iconst dT_isOne_57 ?_
      refine r_istore (ls' := [(4, zI 0), (0, zR 3), (1, zR r), (2, zI f), (3, zI n)]) 4 dT_isOne_58 (by decide) rfl ?_
      refine r_iload 4 0 dT_isOne_60 rfl ?_
      refine r_if_eq 94 dT_isOne_62 (by decide) ⟨by omega, by omega⟩ (fun c_62 => ?_) (fun c_62 => by exfalso; omega)
      refine r_iconst dT_isOne_94 ?_
      refine r_zret rfl (by omega) dT_isOne_95 ⟨_, rfl, ?_⟩
      have hD : zTx (fun q => w.1 r (f + q)) n = (false, 1, 0, 0) := (by unfold zTx; rw [if_pos (show 0 < n ∧ w.1 r (f + 0) = 122 by omega), if_neg (show ¬ (1 < n ∧ 48 ≤ w.1 r (f + 1) ∧ w.1 r (f + 1) ≤ 53) by omega)])
      rw [hD]
      exact ⟨Or.inr ⟨rfl, rfl⟩, by have q := h_36.1.2.2.2.2; show _ = (1 : Int); omega, fun q => absurd q Bool.false_ne_true, fun i k q => (h_36.2.1 i k (fun z => q z.1)).trans ((h_25.2.1 i k (fun z => q z.1)).trans (hA i k q))⟩
    · refine r_aload_n 0 0 dT_isOne_42 rfl rfl ?_
      refine r_bipush dT_isOne_43 (by decide) ?_
      refine r_bipush dT_isOne_45 (by decide) ?_
      refine r_cVI (cT_next w_36 49 57 (fun q => w.1 r (f + q)) n 2 ⟨by omega, by omega⟩ ⟨by omega, by omega⟩ (by have q := h_36.1; rw [show 1 + a_36 = 2 by omega] at q; exact q)) qT_next rfl kw_239 rfl rfl dT_isOne_47 (st0 := [zI 57, zI 49, zR 3]) (st := []) rfl ⟨Nat.le_of_ble_eq_true rfl, Nat.le_of_ble_eq_true rfl⟩ ⟨Nat.le_of_ble_eq_true rfl, Nat.le_of_ble_eq_true rfl⟩ (Nat.le_of_ble_eq_true rfl) (fun a_47 w_47 h_47 ok_47 => ?_)
      refine r_if_eq 57 dT_isOne_50 (by decide) ⟨by omega, by omega⟩ (fun c_50 => ?_) (fun c_50 => ?_)
      · refine r_iconst dT_isOne_57 ?_
        refine r_istore (ls' := [(4, zI 0), (0, zR 3), (1, zR r), (2, zI f), (3, zI n)]) 4 dT_isOne_58 (by decide) rfl ?_
        refine r_iload 4 0 dT_isOne_60 rfl ?_
        refine r_if_eq 94 dT_isOne_62 (by decide) ⟨by omega, by omega⟩ (fun c_62 => ?_) (fun c_62 => by exfalso; omega)
        refine r_iconst dT_isOne_94 ?_
        refine r_zret rfl (by omega) dT_isOne_95 ⟨_, rfl, ?_⟩
        have hD : zTx (fun q => w.1 r (f + q)) n = (false, 2, 0, 0) := (by unfold zTx; rw [if_pos (show 0 < n ∧ w.1 r (f + 0) = 122 by omega), if_pos (show 1 < n ∧ 48 ≤ w.1 r (f + 1) ∧ w.1 r (f + 1) ≤ 53 by omega), if_neg (show ¬ (2 < n ∧ 49 ≤ w.1 r (f + 2) ∧ w.1 r (f + 2) ≤ 57) by omega)])
        rw [hD]
        exact ⟨Or.inr ⟨rfl, rfl⟩, by have q := h_47.1.2.2.2.2; show _ = (2 : Int); omega, fun q => absurd q Bool.false_ne_true, fun i k q => (h_47.2.1 i k (fun z => q z.1)).trans ((h_36.2.1 i k (fun z => q z.1)).trans ((h_25.2.1 i k (fun z => q z.1)).trans (hA i k q)))⟩
      · refine r_iconst dT_isOne_53 ?_
        refine r_goto 58 dT_isOne_54 (by decide) ?_
        refine r_istore (ls' := [(4, zI 1), (0, zR 3), (1, zR r), (2, zI f), (3, zI n)]) 4 dT_isOne_58 (by decide) rfl ?_
        refine r_iload 4 0 dT_isOne_60 rfl ?_
        refine r_if_eq 94 dT_isOne_62 (by decide) ⟨by omega, by omega⟩ (fun c_62 => by exfalso; omega) (fun c_62 => ?_)
        have hH : (0 < n ∧ w.1 r (f + 0) = 122) ∧ (1 < n ∧ 48 ≤ w.1 r (f + 1) ∧ w.1 r (f + 1) ≤ 53) ∧ 2 < n ∧ 49 ≤ w.1 r (f + 2) ∧ w.1 r (f + 2) ≤ 57 := (by omega)
        refine r_aload_n 0 1 dT_isOne_65 rfl rfl ?_
        refine r_cVI (cT_areDoings w_47 (fun q => w.1 r (f + q)) n (by have q := h_47.1; rw [show 2 + a_47 = 3 by omega] at q; exact q)) qT_areDoings rfl kw_243 rfl rfl dT_isOne_66 (st0 := [zR 3]) (st := []) rfl ⟨Nat.le_of_ble_eq_true rfl, Nat.le_of_ble_eq_true rfl⟩ ⟨Nat.le_of_ble_eq_true rfl, Nat.le_of_ble_eq_true rfl⟩ (Nat.le_of_ble_eq_true rfl) (fun a_66 w_66 h_66 ok_66 => ?_)
        refine r_if_eq 94 dT_isOne_69 (by decide) ⟨by omega, by omega⟩ (fun c_69 => ?_) (fun c_69 => ?_)
        · refine r_iconst dT_isOne_94 ?_
          refine r_zret rfl (by omega) dT_isOne_95 ⟨_, rfl, ?_⟩
          have hD : zTx (fun q => w.1 r (f + q)) n = (false, (zDs (fun q => w.1 r (f + q)) n 4 0).2.2, 0, 0) := (by unfold zTx; rw [if_pos hH.1, if_pos hH.2.1, if_pos hH.2.2, if_neg (by rcases h_66.1 with q | q; exact absurd q.2 (by omega); rw [q.1]; exact Bool.false_ne_true)])
          rw [hD]
          exact ⟨Or.inr ⟨rfl, rfl⟩, h_66.2.1.2.2.2.2, fun q => absurd q Bool.false_ne_true, fun i k q => (h_66.2.2.2 i k (fun z => q z.1)).trans ((h_47.2.1 i k (fun z => q z.1)).trans ((h_36.2.1 i k (fun z => q z.1)).trans ((h_25.2.1 i k (fun z => q z.1)).trans (hA i k q))))⟩
        · have hD1 : (zDs (fun q => w.1 r (f + q)) n 4 0).1 = true := (by rcases h_66.1 with q | q; exact q.1; exact absurd q.2 (by omega))
          obtain ⟨d1, d2, d3, d4, d5⟩ := zDs_ok 4 0 (by decide) hD1
          refine r_aload_n 0 1 dT_isOne_72 rfl rfl ?_
          refine r_cVI (cT_areGuests w_66 (fun q => w.1 r (f + q)) n (zDs (fun q => w.1 r (f + q)) n 4 0).2.1 (by rw [← d4]; exact h_66.2.1) h_66.2.2.1 (by omega) (by omega)) qT_areGuests rfl kw_247 rfl rfl dT_isOne_73 (st0 := [zR 3]) (st := []) rfl ⟨Nat.le_of_ble_eq_true rfl, Nat.le_of_ble_eq_true rfl⟩ ⟨Nat.le_of_ble_eq_true rfl, Nat.le_of_ble_eq_true rfl⟩ (Nat.le_of_ble_eq_true rfl) (fun a_73 w_73 h_73 ok_73 => ?_)
          refine r_if_eq 94 dT_isOne_76 (by decide) ⟨by omega, by omega⟩ (fun c_76 => ?_) (fun c_76 => ?_)
          · refine r_iconst dT_isOne_94 ?_
            refine r_zret rfl (by omega) dT_isOne_95 ⟨_, rfl, ?_⟩
            first | (have hG1 : (zGs (fun q => w.1 r (f + q)) n (zDs (fun q => w.1 r (f + q)) n 4 0).2.1 6 0).1 = false := (by rcases h_73.1 with q | q; exact absurd q.2 (by omega); exact q.1); have hD : zTx (fun q => w.1 r (f + q)) n = (false, (zGs (fun q => w.1 r (f + q)) n (zDs (fun q => w.1 r (f + q)) n 4 0).2.1 6 0).2.2, 0, 0) := (by unfold zTx; rw [if_pos hH.1, if_pos hH.2.1, if_pos hH.2.2, if_pos hD1, if_neg (by rw [hG1]; exact Bool.false_ne_true)]); rw [hD]; exact ⟨Or.inr ⟨rfl, rfl⟩, h_73.2.1.2.2.2.2, fun q => absurd q Bool.false_ne_true, fun i k q => (h_73.2.2.2 i k (fun z => q z.1)).trans ((h_66.2.2.2 i k (fun z => q z.1)).trans ((h_47.2.1 i k (fun z => q z.1)).trans ((h_36.2.1 i k (fun z => q z.1)).trans ((h_25.2.1 i k (fun z => q z.1)).trans (hA i k q)))))⟩) | (have hD : zTx (fun q => w.1 r (f + q)) n = (decide ((zGs (fun q => w.1 r (f + q)) n (zDs (fun q => w.1 r (f + q)) n 4 0).2.1 6 0).2.2 = n), (zGs (fun q => w.1 r (f + q)) n (zDs (fun q => w.1 r (f + q)) n 4 0).2.1 6 0).2.2, (zDs (fun q => w.1 r (f + q)) n 4 0).2.1, (zGs (fun q => w.1 r (f + q)) n (zDs (fun q => w.1 r (f + q)) n 4 0).2.1 6 0).2.1) := (by unfold zTx; rw [if_pos hH.1, if_pos hH.2.1, if_pos hH.2.2, if_pos hD1, if_pos hG1]); rw [hD]; exact ⟨by show (decide _ = true ∧ _) ∨ (decide _ = false ∧ _); rw [decide_eq_true_eq, decide_eq_false_iff_not]; omega, hG3, fun _ => ⟨(h_73.2.2.2 3 4 (by decide)).trans h_66.2.2.1, h_73.2.2.1⟩, fun i k q => (h_73.2.2.2 i k (fun z => q z.1)).trans ((h_66.2.2.2 i k (fun z => q z.1)).trans ((h_47.2.1 i k (fun z => q z.1)).trans ((h_36.2.1 i k (fun z => q z.1)).trans ((h_25.2.1 i k (fun z => q z.1)).trans (hA i k q)))))⟩)
          · have hG1 : (zGs (fun q => w.1 r (f + q)) n (zDs (fun q => w.1 r (f + q)) n 4 0).2.1 6 0).1 = true := (by rcases h_73.1 with q | q; exact q.1; exact absurd q.2 (by omega))
            have hG3 := h_73.2.1.2.2.2.2
            have hG2 := h_73.2.1.2.2.2.1
            refine r_aload_n 0 1 dT_isOne_79 rfl rfl ?_
            refine r_getI (k := 3) fX5 rfl rfl (by decide) kw_102 rfl 3 rfl dT_isOne_80 rfl (fun y_80 ey_80 ly_80 uy_80 => ?_)
            refine r_aload_n 0 1 dT_isOne_83 rfl rfl ?_
            refine r_getI (k := 2) fX5 rfl rfl (by decide) kw_101 rfl 2 rfl dT_isOne_84 rfl (fun y_84 ey_84 ly_84 uy_84 => ?_)
            refine r_ic_ne 94 dT_isOne_87 (by decide) ⟨by omega, by omega⟩ ⟨by omega, by omega⟩ (fun c_87 => ?_) (fun c_87 => ?_)
            · refine r_iconst dT_isOne_94 ?_
              refine r_zret rfl (by omega) dT_isOne_95 ⟨_, rfl, ?_⟩
              first | (have hG1 : (zGs (fun q => w.1 r (f + q)) n (zDs (fun q => w.1 r (f + q)) n 4 0).2.1 6 0).1 = false := (by rcases h_73.1 with q | q; exact absurd q.2 (by omega); exact q.1); have hD : zTx (fun q => w.1 r (f + q)) n = (false, (zGs (fun q => w.1 r (f + q)) n (zDs (fun q => w.1 r (f + q)) n 4 0).2.1 6 0).2.2, 0, 0) := (by unfold zTx; rw [if_pos hH.1, if_pos hH.2.1, if_pos hH.2.2, if_pos hD1, if_neg (by rw [hG1]; exact Bool.false_ne_true)]); rw [hD]; exact ⟨Or.inr ⟨rfl, rfl⟩, h_73.2.1.2.2.2.2, fun q => absurd q Bool.false_ne_true, fun i k q => (h_73.2.2.2 i k (fun z => q z.1)).trans ((h_66.2.2.2 i k (fun z => q z.1)).trans ((h_47.2.1 i k (fun z => q z.1)).trans ((h_36.2.1 i k (fun z => q z.1)).trans ((h_25.2.1 i k (fun z => q z.1)).trans (hA i k q)))))⟩) | (have hD : zTx (fun q => w.1 r (f + q)) n = (decide ((zGs (fun q => w.1 r (f + q)) n (zDs (fun q => w.1 r (f + q)) n 4 0).2.1 6 0).2.2 = n), (zGs (fun q => w.1 r (f + q)) n (zDs (fun q => w.1 r (f + q)) n 4 0).2.1 6 0).2.2, (zDs (fun q => w.1 r (f + q)) n 4 0).2.1, (zGs (fun q => w.1 r (f + q)) n (zDs (fun q => w.1 r (f + q)) n 4 0).2.1 6 0).2.1) := (by unfold zTx; rw [if_pos hH.1, if_pos hH.2.1, if_pos hH.2.2, if_pos hD1, if_pos hG1]); rw [hD]; exact ⟨by show (decide _ = true ∧ _) ∨ (decide _ = false ∧ _); rw [decide_eq_true_eq, decide_eq_false_iff_not]; omega, hG3, fun _ => ⟨(h_73.2.2.2 3 4 (by decide)).trans h_66.2.2.1, h_73.2.2.1⟩, fun i k q => (h_73.2.2.2 i k (fun z => q z.1)).trans ((h_66.2.2.2 i k (fun z => q z.1)).trans ((h_47.2.1 i k (fun z => q z.1)).trans ((h_36.2.1 i k (fun z => q z.1)).trans ((h_25.2.1 i k (fun z => q z.1)).trans (hA i k q)))))⟩)
            · refine r_iconst dT_isOne_90 ?_
              refine r_goto 95 dT_isOne_91 (by decide) ?_
              refine r_zret rfl (by omega) dT_isOne_95 ⟨_, rfl, ?_⟩
              first | (have hG1 : (zGs (fun q => w.1 r (f + q)) n (zDs (fun q => w.1 r (f + q)) n 4 0).2.1 6 0).1 = false := (by rcases h_73.1 with q | q; exact absurd q.2 (by omega); exact q.1); have hD : zTx (fun q => w.1 r (f + q)) n = (false, (zGs (fun q => w.1 r (f + q)) n (zDs (fun q => w.1 r (f + q)) n 4 0).2.1 6 0).2.2, 0, 0) := (by unfold zTx; rw [if_pos hH.1, if_pos hH.2.1, if_pos hH.2.2, if_pos hD1, if_neg (by rw [hG1]; exact Bool.false_ne_true)]); rw [hD]; exact ⟨Or.inr ⟨rfl, rfl⟩, h_73.2.1.2.2.2.2, fun q => absurd q Bool.false_ne_true, fun i k q => (h_73.2.2.2 i k (fun z => q z.1)).trans ((h_66.2.2.2 i k (fun z => q z.1)).trans ((h_47.2.1 i k (fun z => q z.1)).trans ((h_36.2.1 i k (fun z => q z.1)).trans ((h_25.2.1 i k (fun z => q z.1)).trans (hA i k q)))))⟩) | (have hD : zTx (fun q => w.1 r (f + q)) n = (decide ((zGs (fun q => w.1 r (f + q)) n (zDs (fun q => w.1 r (f + q)) n 4 0).2.1 6 0).2.2 = n), (zGs (fun q => w.1 r (f + q)) n (zDs (fun q => w.1 r (f + q)) n 4 0).2.1 6 0).2.2, (zDs (fun q => w.1 r (f + q)) n 4 0).2.1, (zGs (fun q => w.1 r (f + q)) n (zDs (fun q => w.1 r (f + q)) n 4 0).2.1 6 0).2.1) := (by unfold zTx; rw [if_pos hH.1, if_pos hH.2.1, if_pos hH.2.2, if_pos hD1, if_pos hG1]); rw [hD]; exact ⟨by show (decide _ = true ∧ _) ∨ (decide _ = false ∧ _); rw [decide_eq_true_eq, decide_eq_false_iff_not]; omega, hG3, fun _ => ⟨(h_73.2.2.2 3 4 (by decide)).trans h_66.2.2.1, h_73.2.2.1⟩, fun i k q => (h_73.2.2.2 i k (fun z => q z.1)).trans ((h_66.2.2.2 i k (fun z => q z.1)).trans ((h_47.2.1 i k (fun z => q z.1)).trans ((h_36.2.1 i k (fun z => q z.1)).trans ((h_25.2.1 i k (fun z => q z.1)).trans (hA i k q)))))⟩)
