set_option maxRecDepth 20000 in
set_option maxHeartbeats 4000000 in
theorem cT_isOne (w : zW) (r : Nat) (f : Int) (n : Int) (hS : zS r = .inl (0, 60)) (hB : ∀ k, zB r k = (-2147483648, 2147483647)) (hr : 16 ≤ r) (hf : 0 ≤ f) (hn : 0 ≤ n) (hfn : f + n ≤ 60) : zC mT_isOne 3 [zR 3, zR r, zI f, zI n] w (zrI fun a w' => (((zTx (fun q => w.1 r (f + q)) n).1 = true ∧ a = 1) ∨ ((zTx (fun q => w.1 r (f + q)) n).1 = false ∧ a = 0)) ∧ w'.1 3 3 = (zTx (fun q => w.1 r (f + q)) n).2.1 ∧ ((zTx (fun q => w.1 r (f + q)) n).1 = true → w'.1 3 4 = (zTx (fun q => w.1 r (f + q)) n).2.2.1 ∧ w'.1 3 5 = (zTx (fun q => w.1 r (f + q)) n).2.2.2) ∧ (∀ i k, i ≠ 3 → w'.1 i k = w.1 i k)) := by
  refine zC.of (by decide +kernel) (Nat.le_of_ble_eq_true rfl) ?_
  show zM mT_isOne (zZm 3 _) 0 [(0, zR 3), (1, zR r), (2, zI f), (3, zI n)] [] w
  refine r_aload_n 0 0 dT_isOne_0 rfl rfl ?_
  refine r_aload_n 1 1 dT_isOne_1 rfl rfl ?_
  refine r_putRow kw_99 dT_isOne_2 (fun w_2 ew_2 => ?_)
  refine r_aload_n 0 0 dT_isOne_5 rfl rfl ?_
  refine r_iload_n 2 2 dT_isOne_6 rfl rfl ?_
  refine r_putI (k := 1) fX5 rfl rfl (by decide) kw_100 rfl rfl (by decide +kernel) 1 rfl dT_isOne_7 rfl (by omega) (by omega) (fun w_7 ew_7 => ?_)
  refine r_aload_n 0 0 dT_isOne_10 rfl rfl ?_
  refine r_iload_n 3 3 dT_isOne_11 rfl rfl ?_
  refine r_putI (k := 2) fX5 rfl rfl (by decide) kw_101 rfl rfl (by decide +kernel) 2 rfl dT_isOne_12 rfl (by omega) (by omega) (fun w_12 ew_12 => ?_)
  refine r_aload_n 0 0 dT_isOne_15 rfl rfl ?_
  refine r_iconst dT_isOne_16 ?_
  refine r_putI (k := 3) fX5 rfl rfl (by decide) kw_102 rfl rfl (by decide +kernel) 3 rfl dT_isOne_17 rfl (by omega) (by omega) (fun w_17 ew_17 => ?_)
  have hA : ∀ i k, i ≠ 3 → w_17.1 i k = w.1 i k := fun i k q => (by rw [ew_17, zput_i _ _ _ _ q, ew_12, zput_i _ _ _ _ q, ew_7, zput_i _ _ _ _ q, ew_2])
  have hT0 : zTS w_17 (fun q => w.1 r (f + q)) n 0 := by
    have e2 : w_17.2 = r := (by rw [ew_17, ew_12, ew_7, ew_2]; rfl)
    have e31 : w_17.1 3 1 = f := (by rw [ew_17, zput_k _ _ (by decide), ew_12, zput_k _ _ (by decide), ew_7, zput_s])
    have e32 : w_17.1 3 2 = n := (by rw [ew_17, zput_k _ _ (by decide), ew_12, zput_s])
    exact ⟨⟨by rw [e2]; exact hS, by rw [e2]; exact hB, by rw [e2]; exact hr⟩, by rw [e31, e32]; omega, fun q => by rw [e2, e31]; exact hA _ _ (by omega), e32, by rw [ew_17, zput_s]⟩
  refine r_aload_n 0 0 dT_isOne_20 rfl rfl ?_
  refine r_bipush dT_isOne_21 (by decide) ?_
  refine r_bipush dT_isOne_23 (by decide) ?_
  refine r_cVI (cT_next w_17 122 122 (fun q => w.1 r (f + q)) n 0 ⟨by omega, by omega⟩ ⟨by omega, by omega⟩ hT0) qT_next rfl kw_239 rfl rfl dT_isOne_25 (st0 := [zI 122, zI 122, zR 3]) (st := []) rfl ⟨Nat.le_of_ble_eq_true rfl, Nat.le_of_ble_eq_true rfl⟩ ⟨Nat.le_of_ble_eq_true rfl, Nat.le_of_ble_eq_true rfl⟩ (Nat.le_of_ble_eq_true rfl) (fun a_25 w_25 h_25 ok_25 => ?_)
  refine r_if_eq 57 dT_isOne_28 (by decide) ⟨by omega, by omega⟩ (fun c_28 => ?_) (fun c_28 => ?_)
  · refine r_iconst dT_isOne_57 ?_
    refine r_istore (ls' := [(4, zI 0), (0, zR 3), (1, zR r), (2, zI f), (3, zI n)]) 4 dT_isOne_58 (by decide) rfl ?_
    refine r_iload 4 0 dT_isOne_60 rfl ?_
    refine r_if_eq 94 dT_isOne_62 (by decide) ⟨by omega, by omega⟩ (fun c_62 => ?_) (fun c_62 => by exfalso; omega)
    refine r_iconst dT_isOne_94 ?_
    refine r_zret rfl (by omega) dT_isOne_95 ⟨_, rfl, ?_⟩
    have hD : zTx (fun q => w.1 r (f + q)) n = (false, 0, 0, 0) := (by unfold zTx; rw [if_neg (show ¬ (0 < n ∧ w.1 r (f + 0) = 122) by omega)])
    rw [hD]
    exact ⟨Or.inr ⟨rfl, rfl⟩, by have q := h_25.1.2.2.2.2; show _ = (0 : Int); omega, fun q => absurd q Bool.false_ne_true, fun i k q => (h_25.2.1 i k (fun z => q z.1)).trans (hA i k q)⟩
  · refine r_aload_n 0 0 dT_isOne_31 rfl rfl ?_
    refine r_bipush dT_isOne_32 (by decide) ?_
    refine r_bipush dT_isOne_34 (by decide) ?_
    refine r_cVI (cT_next w_25 48 53 (fun q => w.1 r (f + q)) n 1 ⟨by omega, by omega⟩ ⟨by omega, by omega⟩ (by have q := h_25.1; rw [show 0 + a_25 = 1 by omega] at q; exact q)) qT_next rfl kw_239 rfl rfl dT_isOne_36 (st0 := [zI 53, zI 48, zR 3]) (st := []) rfl ⟨Nat.le_of_ble_eq_true rfl, Nat.le_of_ble_eq_true rfl⟩ ⟨Nat.le_of_ble_eq_true rfl, Nat.le_of_ble_eq_true rfl⟩ (Nat.le_of_ble_eq_true rfl) (fun a_36 w_36 h_36 ok_36 => ?_)
    refine r_if_eq 57 dT_isOne_39 (by decide) ⟨by omega, by omega⟩ (fun c_39 => ?_) (fun c_39 => ?_)
    · refine r_iconst dT_isOne_57 ?_
      refine r_istore (ls' := [(4, zI 0), (0, zR 3), (1, zR r), (2, zI f), (3, zI n)]) 4 dT_isOne_58 (by decide) rfl ?_
      refine r_iload 4 0 dT_isOne_60 rfl ?_
      refine r_if_eq 94 dT_isOne_62 (by decide) ⟨by omega, by omega⟩ (fun c_62 => ?_) (fun c_62 => by exfalso; omega)
      refine r_iconst dT_isOne_94 ?_
      refine r_zret rfl (by omega) dT_isOne_95 ⟨_, rfl, ?_⟩
      have hD : zTx (fun q => w.1 r (f + q)) n = (false, 1, 0, 0) := (by unfold zTx; rw [if_pos (show 0 < n ∧ w.1 r (f + 0) = 122 by omega), if_neg (show ¬ (1 < n ∧ 48 ≤ w.1 r (f + 1) ∧ w.1 r (f + 1) ≤ 53) by omega)])
      rw [hD]
      exact ⟨Or.inr ⟨rfl, rfl⟩, by have q := h_36.1.2.2.2.2; show _ = (1 : Int); omega, fun q => absurd q Bool.false_ne_true, fun i k q => (h_36.2.1 i k (fun z => q z.1)).trans ((h_25.2.1 i k (fun z => q z.1)).trans (hA i k q))⟩
    · refine r_aload_n 0 0 dT_isOne_42 rfl rfl ?_
      refine r_bipush dT_isOne_43 (by decide) ?_
      refine r_bipush dT_isOne_45 (by decide) ?_
      refine r_cVI (cT_next w_36 49 57 (fun q => w.1 r (f + q)) n 2 ⟨by omega, by omega⟩ ⟨by omega, by omega⟩ (by have q := h_36.1; rw [show 1 + a_36 = 2 by omega] at q; exact q)) qT_next rfl kw_239 rfl rfl dT_isOne_47 (st0 := [zI 57, zI 49, zR 3]) (st := []) rfl ⟨Nat.le_of_ble_eq_true rfl, Nat.le_of_ble_eq_true rfl⟩ ⟨Nat.le_of_ble_eq_true rfl, Nat.le_of_ble_eq_true rfl⟩ (Nat.le_of_ble_eq_true rfl) (fun a_47 w_47 h_47 ok_47 => ?_)
      refine r_if_eq 57 dT_isOne_50 (by decide) ⟨by omega, by omega⟩ (fun c_50 => ?_) (fun c_50 => ?_)
      · refine r_iconst dT_isOne_57 ?_
        refine r_istore (ls' := [(4, zI 0), (0, zR 3), (1, zR r), (2, zI f), (3, zI n)]) 4 dT_isOne_58 (by decide) rfl ?_
        refine r_iload 4 0 dT_isOne_60 rfl ?_
        refine r_if_eq 94 dT_isOne_62 (by decide) ⟨by omega, by omega⟩ (fun c_62 => ?_) (fun c_62 => by exfalso; omega)
        refine r_iconst dT_isOne_94 ?_
        refine r_zret rfl (by omega) dT_isOne_95 ⟨_, rfl, ?_⟩
        have hD : zTx (fun q => w.1 r (f + q)) n = (false, 2, 0, 0) := (by unfold zTx; rw [if_pos (show 0 < n ∧ w.1 r (f + 0) = 122 by omega), if_pos (show 1 < n ∧ 48 ≤ w.1 r (f + 1) ∧ w.1 r (f + 1) ≤ 53 by omega), if_neg (show ¬ (2 < n ∧ 49 ≤ w.1 r (f + 2) ∧ w.1 r (f + 2) ≤ 57) by omega)])
        rw [hD]
        exact ⟨Or.inr ⟨rfl, rfl⟩, by have q := h_47.1.2.2.2.2; show _ = (2 : Int); omega, fun q => absurd q Bool.false_ne_true, fun i k q => (h_47.2.1 i k (fun z => q z.1)).trans ((h_36.2.1 i k (fun z => q z.1)).trans ((h_25.2.1 i k (fun z => q z.1)).trans (hA i k q)))⟩
      · refine r_iconst dT_isOne_53 ?_
        refine r_goto 58 dT_isOne_54 (by decide) ?_
        refine r_istore (ls' := [(4, zI 1), (0, zR 3), (1, zR r), (2, zI f), (3, zI n)]) 4 dT_isOne_58 (by decide) rfl ?_
        refine r_iload 4 0 dT_isOne_60 rfl ?_
        refine r_if_eq 94 dT_isOne_62 (by decide) ⟨by omega, by omega⟩ (fun c_62 => by exfalso; omega) (fun c_62 => ?_)
        have hH : (0 < n ∧ w.1 r (f + 0) = 122) ∧ (1 < n ∧ 48 ≤ w.1 r (f + 1) ∧ w.1 r (f + 1) ≤ 53) ∧ 2 < n ∧ 49 ≤ w.1 r (f + 2) ∧ w.1 r (f + 2) ≤ 57 := (by omega)
        refine r_aload_n 0 1 dT_isOne_65 rfl rfl ?_
        refine r_cVI (cT_areDoings w_47 (fun q => w.1 r (f + q)) n (by have q := h_47.1; rw [show 2 + a_47 = 3 by omega] at q; exact q)) qT_areDoings rfl kw_243 rfl rfl dT_isOne_66 (st0 := [zR 3]) (st := []) rfl ⟨Nat.le_of_ble_eq_true rfl, Nat.le_of_ble_eq_true rfl⟩ ⟨Nat.le_of_ble_eq_true rfl, Nat.le_of_ble_eq_true rfl⟩ (Nat.le_of_ble_eq_true rfl) (fun a_66 w_66 h_66 ok_66 => ?_)
        refine r_if_eq 94 dT_isOne_69 (by decide) ⟨by omega, by omega⟩ (fun c_69 => ?_) (fun c_69 => ?_)
        · refine r_iconst dT_isOne_94 ?_
          refine r_zret rfl (by omega) dT_isOne_95 ⟨_, rfl, ?_⟩
          have hD : zTx (fun q => w.1 r (f + q)) n = (false, (zDs (fun q => w.1 r (f + q)) n 4 0).2.2, 0, 0) := (by unfold zTx; rw [if_pos hH.1, if_pos hH.2.1, if_pos hH.2.2, if_neg (by rcases h_66.1 with q | q; exact absurd q.2 (by omega); rw [q.1]; exact Bool.false_ne_true)])
          rw [hD]
          exact ⟨Or.inr ⟨rfl, rfl⟩, h_66.2.1.2.2.2.2, fun q => absurd q Bool.false_ne_true, fun i k q => (h_66.2.2.2 i k (fun z => q z.1)).trans ((h_47.2.1 i k (fun z => q z.1)).trans ((h_36.2.1 i k (fun z => q z.1)).trans ((h_25.2.1 i k (fun z => q z.1)).trans (hA i k q))))⟩
        · have hD1 : (zDs (fun q => w.1 r (f + q)) n 4 0).1 = true := (by rcases h_66.1 with q | q; exact q.1; exact absurd q.2 (by omega))
          obtain ⟨d1, d2, d3, d4, d5⟩ := zDs_ok 4 0 (by decide) hD1
          refine r_aload_n 0 1 dT_isOne_72 rfl rfl ?_
          refine r_cVI (cT_areGuests w_66 (fun q => w.1 r (f + q)) n (zDs (fun q => w.1 r (f + q)) n 4 0).2.1 (by rw [← d4]; exact h_66.2.1) h_66.2.2.1 (by omega) (by omega)) qT_areGuests rfl kw_247 rfl rfl dT_isOne_73 (st0 := [zR 3]) (st := []) rfl ⟨Nat.le_of_ble_eq_true rfl, Nat.le_of_ble_eq_true rfl⟩ ⟨Nat.le_of_ble_eq_true rfl, Nat.le_of_ble_eq_true rfl⟩ (Nat.le_of_ble_eq_true rfl) (fun a_73 w_73 h_73 ok_73 => ?_)
          refine r_if_eq 94 dT_isOne_76 (by decide) ⟨by omega, by omega⟩ (fun c_76 => ?_) (fun c_76 => ?_)
          · refine r_iconst dT_isOne_94 ?_
            refine r_zret rfl (by omega) dT_isOne_95 ⟨_, rfl, ?_⟩
            first | (have hG1 : (zGs (fun q => w.1 r (f + q)) n (zDs (fun q => w.1 r (f + q)) n 4 0).2.1 6 0).1 = false := (by rcases h_73.1 with q | q; exact absurd q.2 (by omega); exact q.1); have hD : zTx (fun q => w.1 r (f + q)) n = (false, (zGs (fun q => w.1 r (f + q)) n (zDs (fun q => w.1 r (f + q)) n 4 0).2.1 6 0).2.2, 0, 0) := (by unfold zTx; rw [if_pos hH.1, if_pos hH.2.1, if_pos hH.2.2, if_pos hD1, if_neg (by rw [hG1]; exact Bool.false_ne_true)]); rw [hD]; exact ⟨Or.inr ⟨rfl, rfl⟩, h_73.2.1.2.2.2.2, fun q => absurd q Bool.false_ne_true, fun i k q => (h_73.2.2.2 i k (fun z => q z.1)).trans ((h_66.2.2.2 i k (fun z => q z.1)).trans ((h_47.2.1 i k (fun z => q z.1)).trans ((h_36.2.1 i k (fun z => q z.1)).trans ((h_25.2.1 i k (fun z => q z.1)).trans (hA i k q)))))⟩) | (have hD : zTx (fun q => w.1 r (f + q)) n = (decide ((zGs (fun q => w.1 r (f + q)) n (zDs (fun q => w.1 r (f + q)) n 4 0).2.1 6 0).2.2 = n), (zGs (fun q => w.1 r (f + q)) n (zDs (fun q => w.1 r (f + q)) n 4 0).2.1 6 0).2.2, (zDs (fun q => w.1 r (f + q)) n 4 0).2.1, (zGs (fun q => w.1 r (f + q)) n (zDs (fun q => w.1 r (f + q)) n 4 0).2.1 6 0).2.1) := (by unfold zTx; rw [if_pos hH.1, if_pos hH.2.1, if_pos hH.2.2, if_pos hD1, if_pos hG1]); rw [hD]; exact ⟨by show (decide _ = true ∧ _) ∨ (decide _ = false ∧ _); rw [decide_eq_true_eq, decide_eq_false_iff_not]; omega, hG3, fun _ => ⟨(h_73.2.2.2 3 4 (by decide)).trans h_66.2.2.1, h_73.2.2.1⟩, fun i k q => (h_73.2.2.2 i k (fun z => q z.1)).trans ((h_66.2.2.2 i k (fun z => q z.1)).trans ((h_47.2.1 i k (fun z => q z.1)).trans ((h_36.2.1 i k (fun z => q z.1)).trans ((h_25.2.1 i k (fun z => q z.1)).trans (hA i k q)))))⟩)
          · have hG1 : (zGs (fun q => w.1 r (f + q)) n (zDs (fun q => w.1 r (f + q)) n 4 0).2.1 6 0).1 = true := (by rcases h_73.1 with q | q; exact q.1; exact absurd q.2 (by omega))
            have hG3 := h_73.2.1.2.2.2.2
            have hG2 := h_73.2.1.2.2.2.1
            refine r_aload_n 0 1 dT_isOne_79 rfl rfl ?_
            refine r_getI (k := 3) fX5 rfl rfl (by decide) kw_102 rfl 3 rfl dT_isOne_80 rfl (fun y_80 ey_80 ly_80 uy_80 => ?_)
            refine r_aload_n 0 1 dT_isOne_83 rfl rfl ?_
            refine r_getI (k := 2) fX5 rfl rfl (by decide) kw_101 rfl 2 rfl dT_isOne_84 rfl (fun y_84 ey_84 ly_84 uy_84 => ?_)
            refine r_ic_ne 94 dT_isOne_87 (by decide) ⟨by omega, by omega⟩ ⟨by omega, by omega⟩ (fun c_87 => ?_) (fun c_87 => ?_)
            · refine r_iconst dT_isOne_94 ?_
              refine r_zret rfl (by omega) dT_isOne_95 ⟨_, rfl, ?_⟩
              first | (have hG1 : (zGs (fun q => w.1 r (f + q)) n (zDs (fun q => w.1 r (f + q)) n 4 0).2.1 6 0).1 = false := (by rcases h_73.1 with q | q; exact absurd q.2 (by omega); exact q.1); have hD : zTx (fun q => w.1 r (f + q)) n = (false, (zGs (fun q => w.1 r (f + q)) n (zDs (fun q => w.1 r (f + q)) n 4 0).2.1 6 0).2.2, 0, 0) := (by unfold zTx; rw [if_pos hH.1, if_pos hH.2.1, if_pos hH.2.2, if_pos hD1, if_neg (by rw [hG1]; exact Bool.false_ne_true)]); rw [hD]; exact ⟨Or.inr ⟨rfl, rfl⟩, h_73.2.1.2.2.2.2, fun q => absurd q Bool.false_ne_true, fun i k q => (h_73.2.2.2 i k (fun z => q z.1)).trans ((h_66.2.2.2 i k (fun z => q z.1)).trans ((h_47.2.1 i k (fun z => q z.1)).trans ((h_36.2.1 i k (fun z => q z.1)).trans ((h_25.2.1 i k (fun z => q z.1)).trans (hA i k q)))))⟩) | (have hD : zTx (fun q => w.1 r (f + q)) n = (decide ((zGs (fun q => w.1 r (f + q)) n (zDs (fun q => w.1 r (f + q)) n 4 0).2.1 6 0).2.2 = n), (zGs (fun q => w.1 r (f + q)) n (zDs (fun q => w.1 r (f + q)) n 4 0).2.1 6 0).2.2, (zDs (fun q => w.1 r (f + q)) n 4 0).2.1, (zGs (fun q => w.1 r (f + q)) n (zDs (fun q => w.1 r (f + q)) n 4 0).2.1 6 0).2.1) := (by unfold zTx; rw [if_pos hH.1, if_pos hH.2.1, if_pos hH.2.2, if_pos hD1, if_pos hG1]); rw [hD]; exact ⟨by show (decide _ = true ∧ _) ∨ (decide _ = false ∧ _); rw [decide_eq_true_eq, decide_eq_false_iff_not]; omega, hG3, fun _ => ⟨(h_73.2.2.2 3 4 (by decide)).trans h_66.2.2.1, h_73.2.2.1⟩, fun i k q => (h_73.2.2.2 i k (fun z => q z.1)).trans ((h_66.2.2.2 i k (fun z => q z.1)).trans ((h_47.2.1 i k (fun z => q z.1)).trans ((h_36.2.1 i k (fun z => q z.1)).trans ((h_25.2.1 i k (fun z => q z.1)).trans (hA i k q)))))⟩)
            · refine r_iconst dT_isOne_90 ?_
              refine r_goto 95 dT_isOne_91 (by decide) ?_
              refine r_zret rfl (by omega) dT_isOne_95 ⟨_, rfl, ?_⟩
              first | (have hG1 : (zGs (fun q => w.1 r (f + q)) n (zDs (fun q => w.1 r (f + q)) n 4 0).2.1 6 0).1 = false := (by rcases h_73.1 with q | q; exact absurd q.2 (by omega); exact q.1); have hD : zTx (fun q => w.1 r (f + q)) n = (false, (zGs (fun q => w.1 r (f + q)) n (zDs (fun q => w.1 r (f + q)) n 4 0).2.1 6 0).2.2, 0, 0) := (by unfold zTx; rw [if_pos hH.1, if_pos hH.2.1, if_pos hH.2.2, if_pos hD1, if_neg (by rw [hG1]; exact Bool.false_ne_true)]); rw [hD]; exact ⟨Or.inr ⟨rfl, rfl⟩, h_73.2.1.2.2.2.2, fun q => absurd q Bool.false_ne_true, fun i k q => (h_73.2.2.2 i k (fun z => q z.1)).trans ((h_66.2.2.2 i k (fun z => q z.1)).trans ((h_47.2.1 i k (fun z => q z.1)).trans ((h_36.2.1 i k (fun z => q z.1)).trans ((h_25.2.1 i k (fun z => q z.1)).trans (hA i k q)))))⟩) | (have hD : zTx (fun q => w.1 r (f + q)) n = (decide ((zGs (fun q => w.1 r (f + q)) n (zDs (fun q => w.1 r (f + q)) n 4 0).2.1 6 0).2.2 = n), (zGs (fun q => w.1 r (f + q)) n (zDs (fun q => w.1 r (f + q)) n 4 0).2.1 6 0).2.2, (zDs (fun q => w.1 r (f + q)) n 4 0).2.1, (zGs (fun q => w.1 r (f + q)) n (zDs (fun q => w.1 r (f + q)) n 4 0).2.1 6 0).2.1) := (by unfold zTx; rw [if_pos hH.1, if_pos hH.2.1, if_pos hH.2.2, if_pos hD1, if_pos hG1]); rw [hD]; exact ⟨by show (decide _ = true ∧ _) ∨ (decide _ = false ∧ _); rw [decide_eq_true_eq, decide_eq_false_iff_not]; omega, hG3, fun _ => ⟨(h_73.2.2.2 3 4 (by decide)).trans h_66.2.2.1, h_73.2.2.1⟩, fun i k q => (h_73.2.2.2 i k (fun z => q z.1)).trans ((h_66.2.2.2 i k (fun z => q z.1)).trans ((h_47.2.1 i k (fun z => q z.1)).trans ((h_36.2.1 i k (fun z => q z.1)).trans ((h_25.2.1 i k (fun z => q z.1)).trans (hA i k q)))))⟩)

set_option maxRecDepth 20000 in
set_option maxHeartbeats 4000000 in
theorem cH_open (w : zW) (r : Nat) (f : Int) (nd : Int) (ng : Int) (hS : zS r = .inl (0, 60)) (hB : ∀ k, zB r k = (-2147483648, 2147483647)) (hr : 16 ≤ r) (hf : 0 ≤ f) (hn1 : 1 ≤ nd) (hn4 : nd ≤ 4) (hg2 : 2 ≤ ng) (hg6 : ng ≤ 6) (hfn : f + (3 + 3 * nd + 4 * ng) ≤ 60) (h1 : 48 ≤ w.1 r (f + 1) ∧ w.1 r (f + 1) ≤ 53) (h2 : 49 ≤ w.1 r (f + 2) ∧ w.1 r (f + 2) ≤ 57) (hD : ∀ d : Int, 0 ≤ d → d < nd → 48 ≤ w.1 r (f + (4 + 3 * d)) ∧ w.1 r (f + (4 + 3 * d)) ≤ 57 ∧ 48 ≤ w.1 r (f + (5 + 3 * d)) ∧ w.1 r (f + (5 + 3 * d)) ≤ 51) (hG : ∀ g : Int, 0 ≤ g → g < ng → 48 ≤ w.1 r (f + (5 + 3 * nd + 4 * g)) ∧ w.1 r (f + (5 + 3 * nd + 4 * g)) ≤ 57 ∧ 48 ≤ w.1 r (f + (6 + 3 * nd + 4 * g)) ∧ w.1 r (f + (6 + 3 * nd + 4 * g)) ≤ 47 + nd) : zC mH_open 1 [zR 1, zR r, zI f, zI nd, zI ng] w (zrV fun w' => ∀ i k, w'.1 i k = zHoC w (fun q => w.1 r (f + q)) nd ng i k) := by
  refine zC.of (by decide +kernel) (Nat.le_of_ble_eq_true rfl) ?_
  show zM mH_open (zZm 1 _) 0 [(0, zR 1), (1, zR r), (2, zI f), (3, zI nd), (4, zI ng)] [] w
  refine r_aload_n 0 0 dH_open_0 rfl rfl ?_
  refine r_aload_n 1 1 dH_open_1 rfl rfl ?_
  refine r_iload_n 2 2 dH_open_2 rfl rfl ?_
  refine r_iconst dH_open_3 ?_
  refine r_iadd dH_open_4 ?_
  refine r_iaload hS (by decide) dH_open_5 (by omega) (by omega) (hB _) (fun y_5 ey_5 ly_5 uy_5 => ?_)
  refine r_bipush dH_open_6 (by decide) ?_
  refine r_isub dH_open_8 ?_
  refine r_putI (k := 0) fX0 rfl rfl (by decide) kw_26 rfl rfl (by decide +kernel) 0 rfl dH_open_9 rfl (by omega) (by omega) (fun w_9 ew_9 => ?_)
  refine r_aload_n 0 0 dH_open_12 rfl rfl ?_
  refine r_aload_n 1 1 dH_open_13 rfl rfl ?_
  refine r_iload_n 2 2 dH_open_14 rfl rfl ?_
  refine r_iconst dH_open_15 ?_
  refine r_iadd dH_open_16 ?_
  refine r_iaload hS (by decide) dH_open_17 (by omega) (by omega) (hB _) (fun y_17 ey_17 ly_17 uy_17 => ?_)
  rw [ew_9, zput_i (i := 1) (i' := r) _ _ _ _ (by omega)] at ey_17
  refine r_bipush dH_open_18 (by decide) ?_
  refine r_isub dH_open_20 ?_
  refine r_putI (k := 1) fX0 rfl rfl (by decide) kw_28 rfl rfl (by decide +kernel) 1 rfl dH_open_21 rfl (by omega) (by omega) (fun w_21 ew_21 => ?_)
  refine r_aload_n 0 0 dH_open_24 rfl rfl ?_
  refine r_iload_n 3 3 dH_open_25 rfl rfl ?_
  refine r_putI (k := 2) fX0 rfl rfl (by decide) kw_31 rfl rfl (by decide +kernel) 2 rfl dH_open_26 rfl (by omega) (by omega) (fun w_26 ew_26 => ?_)
  refine r_aload_n 0 0 dH_open_29 rfl rfl ?_
  refine r_iload 4 4 dH_open_30 rfl ?_
  refine r_putI (k := 3) fX0 rfl rfl (by decide) kw_33 rfl rfl (by decide +kernel) 3 rfl dH_open_32 rfl (by omega) (by omega) (fun w_32 ew_32 => ?_)
  have hA : ∀ q, w_32.1 r q = w.1 r q := fun q => (by rw [ew_32, zput_i _ _ _ _ (by omega), ew_26, zput_i _ _ _ _ (by omega), ew_21, zput_i _ _ _ _ (by omega), ew_9, zput_i _ _ _ _ (by omega)])
  refine r_iload_n 2 2 dH_open_35 rfl rfl ?_
  refine r_iconst dH_open_36 ?_
  refine r_iadd dH_open_37 ?_
  refine r_nmI (fun x_38 ex_38 => ?_)
  refine r_istore (ls' := [(5, zI x_38), (0, zR 1), (1, zR r), (2, zI f), (3, zI nd), (4, zI ng)]) 5 dH_open_38 (by decide) rfl ?_
  refine r_iconst dH_open_40 ?_
  refine r_istore (ls' := [(6, zI 0), (5, zI x_38), (0, zR 1), (1, zR r), (2, zI f), (3, zI nd), (4, zI ng)]) 6 dH_open_41 (by decide) rfl ?_
  have L_43 : ∀ (n_43 : Nat) (at9 : Int) (d : Int) (wl : zW) (hd0 : 0 ≤ d) (hd1 : d ≤ nd) (hat : at9 = f + 3 + 3 * d) (hw : ∀ i k, wl.1 i k = (if i = 7 ∧ 0 ≤ k ∧ k < d then w.1 r (f + (4 + 3 * k)) - 48 else if i = 8 ∧ 0 ≤ k ∧ k < d then w.1 r (f + (5 + 3 * k)) - 48 else w_32.1 i k)), nd - d < (n_43 : Int) → zM mH_open (zZm 1 (zrV fun w' => ∀ i k, w'.1 i k = zHoC w (fun q => w.1 r (f + q)) nd ng i k)) 43 [(6, zI d), (5, zI at9), (0, zR 1), (1, zR r), (2, zI f), (3, zI nd), (4, zI ng)] [] wl := by
    intro n_43
    induction n_43 with
    | zero => intro at9 d wl hd0 hd1 hat hw hm_43; exfalso; omega
    | succ n_43 ih_43 =>
      intro at9 d wl hd0 hd1 hat hw hm_43
      have er : ∀ q, wl.1 r q = w.1 r q := fun q => (by rw [hw, if_neg (by omega), if_neg (by omega), hA])
      refine r_iload 6 0 dH_open_43 rfl ?_
      refine r_aload_n 0 2 dH_open_45 rfl rfl ?_
      refine r_getI (k := 2) fX0 rfl rfl (by decide) kw_31 rfl 2 rfl dH_open_46 rfl (fun y_46 ey_46 ly_46 uy_46 => ?_)
      rw [hw 1 2, if_neg (by omega), if_neg (by omega), ew_32, zput_k _ _ (by decide), ew_26, zput_s] at ey_46
      refine r_ic_ge 93 dH_open_49 (by decide) ⟨by omega, by omega⟩ ⟨by omega, by omega⟩ (fun c_49 => ?_) (fun c_49 => ?_)
      · refine r_iconst dH_open_93 ?_
        refine r_istore (ls' := [(6, zI 0), (5, zI at9), (0, zR 1), (1, zR r), (2, zI f), (3, zI nd), (4, zI ng)]) 6 dH_open_94 (by decide) rfl ?_
        have L_96 : ∀ (n_96 : Nat) (at8 : Int) (g : Int) (wm : zW) (hg0 : 0 ≤ g) (hg1 : g ≤ ng) (hat8 : at8 = f + 3 + 3 * nd + 4 * g) (hm : ∀ i k, wm.1 i k = (if i = 9 ∧ 0 ≤ k ∧ k < g then zKd (w.1 r (f + (4 + 3 * nd + 4 * k))) else if i = 10 ∧ 0 ≤ k ∧ k < g then w.1 r (f + (5 + 3 * nd + 4 * k)) - 48 else if i = 11 ∧ 0 ≤ k ∧ k < g then w.1 r (f + (6 + 3 * nd + 4 * k)) - 48 else wl.1 i k)), ng - g < (n_96 : Int) → zM mH_open (zZm 1 (zrV fun w' => ∀ i k, w'.1 i k = zHoC w (fun q => w.1 r (f + q)) nd ng i k)) 96 [(6, zI g), (5, zI at8), (0, zR 1), (1, zR r), (2, zI f), (3, zI nd), (4, zI ng)] [] wm := by
          intro n_96
          induction n_96 with
          | zero => intro at8 g wm hg0 hg1 hat8 hm hm_96; exfalso; omega
          | succ n_96 ih_96 =>
            intro at8 g wm hg0 hg1 hat8 hm hm_96
            have er2 : ∀ q, wm.1 r q = w.1 r q := fun q => (by rw [hm, if_neg (by omega), if_neg (by omega), if_neg (by omega), er])
            refine r_iload 6 0 dH_open_96 rfl ?_
            refine r_aload_n 0 2 dH_open_98 rfl rfl ?_
            refine r_getI (k := 3) fX0 rfl rfl (by decide) kw_33 rfl 3 rfl dH_open_99 rfl (fun y_99 ey_99 ly_99 uy_99 => ?_)
            rw [hm 1 3, if_neg (by omega), if_neg (by omega), if_neg (by omega), hw 1 3, if_neg (by omega), if_neg (by omega), ew_32, zput_s] at ey_99
            refine r_ic_ge 162 dH_open_102 (by decide) ⟨by omega, by omega⟩ ⟨by omega, by omega⟩ (fun c_102 => ?_) (fun c_102 => ?_)
            · refine r_vret rfl dH_open_162 ⟨rfl, ?_⟩
              intro i k
              rw [zHoC_e, hm, hw, ew_32, zput_e, ew_26, zput_e, ew_21, zput_e, ew_9, zput_e, show g = ng by omega, show d = nd by omega]
              (repeat' split) <;> first | rfl | omega
            · refine r_aload_n 0 2 dH_open_105 rfl rfl ?_
              refine r_getR (k := 6) (b := 9) fX0 rfl rfl rfl (by decide) kw_42 rfl dH_open_106 ?_
              refine r_iload 6 0 dH_open_109 rfl ?_
              refine r_aload_n 1 3 dH_open_111 rfl rfl ?_
              refine r_iload 5 1 dH_open_112 rfl ?_
              refine r_iconst dH_open_114 ?_
              refine r_iadd dH_open_115 ?_
              refine r_iaload hS (by decide) dH_open_116 (by omega) (by omega) (hB _) (fun y_116 ey_116 ly_116 uy_116 => ?_)
              have e116 : y_116 = w.1 r (f + (4 + 3 * nd + 4 * g)) := (by rw [ey_116, er2, show at8 + 1 = f + (4 + 3 * nd + 4 * g) by omega])
              have hg9 := hG g hg0 (by omega)
              refine r_cSI (cH_kindOf wm y_116 (by omega)) qH_kindOf rfl kw_259 dH_open_117 (st0 := [zI y_116, zI g, zR 9]) (st := [zI g, zR 9]) rfl ⟨Nat.le_of_ble_eq_true rfl, Nat.le_of_ble_eq_true rfl⟩ ⟨Nat.le_of_ble_eq_true rfl, Nat.le_of_ble_eq_true rfl⟩ (Nat.le_of_ble_eq_true rfl) (fun a_117 w_117 h_117 ok_117 => ?_)
              obtain ⟨rfl, h_117⟩ := h_117
              change a_117 = zKd y_116 at h_117
              have hk9 := zKd_in y_116
              refine r_iastore rfl (by decide) dH_open_120 (by omega) (by omega) rfl (by omega) (by omega) (fun w_120 ew_120 => ?_)
              refine r_aload_n 0 2 dH_open_121 rfl rfl ?_
              refine r_getR (k := 7) (b := 10) fX0 rfl rfl rfl (by decide) kw_44 rfl dH_open_122 ?_
              refine r_iload 6 0 dH_open_125 rfl ?_
              refine r_aload_n 1 3 dH_open_127 rfl rfl ?_
              refine r_iload 5 1 dH_open_128 rfl ?_
              refine r_iconst dH_open_130 ?_
              refine r_iadd dH_open_131 ?_
              refine r_iaload hS (by decide) dH_open_132 (by omega) (by omega) (hB _) (fun y_132 ey_132 ly_132 uy_132 => ?_)
              rw [ew_120, zput_i (i := 9) (i' := r) _ _ _ _ (by omega)] at ey_132
              have e132 : y_132 = w.1 r (f + (5 + 3 * nd + 4 * g)) := (by rw [ey_132, er2, show at8 + 2 = f + (5 + 3 * nd + 4 * g) by omega])
              refine r_bipush dH_open_133 (by decide) ?_
              refine r_isub dH_open_135 ?_
              refine r_iastore rfl (by decide) dH_open_136 (by omega) (by omega) rfl (by omega) (by omega) (fun w_136 ew_136 => ?_)
              refine r_aload_n 0 2 dH_open_137 rfl rfl ?_
              refine r_getR (k := 8) (b := 11) fX0 rfl rfl rfl (by decide) kw_46 rfl dH_open_138 ?_
              refine r_iload 6 0 dH_open_141 rfl ?_
              refine r_aload_n 1 3 dH_open_143 rfl rfl ?_
              refine r_iload 5 1 dH_open_144 rfl ?_
              refine r_iconst dH_open_146 ?_
              refine r_iadd dH_open_147 ?_
              refine r_iaload hS (by decide) dH_open_148 (by omega) (by omega) (hB _) (fun y_148 ey_148 ly_148 uy_148 => ?_)
              rw [ew_136, zput_i (i := 10) (i' := r) _ _ _ _ (by omega)] at ey_148
              rw [ew_120, zput_i (i := 9) (i' := r) _ _ _ _ (by omega)] at ey_148
              have e148 : y_148 = w.1 r (f + (6 + 3 * nd + 4 * g)) := (by rw [ey_148, er2, show at8 + 3 = f + (6 + 3 * nd + 4 * g) by omega])
              refine r_bipush dH_open_149 (by decide) ?_
              refine r_isub dH_open_151 ?_
              refine r_iastore rfl (by decide) dH_open_152 (by omega) (by omega) rfl (by omega) (by omega) (fun w_152 ew_152 => ?_)
              refine r_iinc (ls' := [(5, zI (at8 + 4)), (6, zI g), (0, zR 1), (1, zR r), (2, zI f), (3, zI nd), (4, zI ng)]) 5 1 dH_open_153 rfl (by decide) rfl ?_
              refine r_iinc (ls' := [(6, zI (g + 1)), (5, zI (at8 + 4)), (0, zR 1), (1, zR r), (2, zI f), (3, zI nd), (4, zI ng)]) 6 1 dH_open_156 rfl (by decide) rfl ?_
              refine r_goto 96 dH_open_159 (by decide) ?_
              exact ih_96 (at8 + 4) (g + 1) w_152 (by omega) (by omega) (by omega) (fun i k => by rw [ew_152, zput_e, ew_136, zput_e, ew_120, zput_e]; by_cases q1 : i = 11 ∧ k = g; (rw [if_pos q1, if_neg (by omega), if_neg (by omega), if_pos (by omega), q1.2]; omega); (rw [if_neg q1]; by_cases q2 : i = 10 ∧ k = g; (rw [if_pos q2, if_neg (by omega), if_pos (by omega), q2.2]; omega); (rw [if_neg q2]; by_cases q3 : i = 9 ∧ k = g; (rw [if_pos q3, if_pos (by omega), q3.2, ← e116]; exact h_117); (rw [if_neg q3, hm]; (repeat' split) <;> first | rfl | omega)))) (by omega)
        exact L_96 7 at9 0 wl (by omega) (by omega) (by omega) (fun i k => by rw [if_neg (by omega), if_neg (by omega), if_neg (by omega)]) (by omega)
      · refine r_aload_n 0 2 dH_open_52 rfl rfl ?_
        refine r_getR (k := 4) (b := 7) fX0 rfl rfl rfl (by decide) kw_36 rfl dH_open_53 ?_
        refine r_iload 6 0 dH_open_56 rfl ?_
        refine r_aload_n 1 3 dH_open_58 rfl rfl ?_
        refine r_iload 5 1 dH_open_59 rfl ?_
        refine r_iconst dH_open_61 ?_
        refine r_iadd dH_open_62 ?_
        refine r_iaload hS (by decide) dH_open_63 (by omega) (by omega) (hB _) (fun y_63 ey_63 ly_63 uy_63 => ?_)
        have e63 : y_63 = w.1 r (f + (4 + 3 * d)) := (by rw [ey_63, er, show at9 + 1 = f + (4 + 3 * d) by omega])
        have hd9 := hD d hd0 (by omega)
        refine r_bipush dH_open_64 (by decide) ?_
        refine r_isub dH_open_66 ?_
        refine r_iastore rfl (by decide) dH_open_67 (by omega) (by omega) rfl (by omega) (by omega) (fun w_67 ew_67 => ?_)
        refine r_aload_n 0 2 dH_open_68 rfl rfl ?_
        refine r_getR (k := 5) (b := 8) fX0 rfl rfl rfl (by decide) kw_38 rfl dH_open_69 ?_
        refine r_iload 6 0 dH_open_72 rfl ?_
        refine r_aload_n 1 3 dH_open_74 rfl rfl ?_
        refine r_iload 5 1 dH_open_75 rfl ?_
        refine r_iconst dH_open_77 ?_
        refine r_iadd dH_open_78 ?_
        refine r_iaload hS (by decide) dH_open_79 (by omega) (by omega) (hB _) (fun y_79 ey_79 ly_79 uy_79 => ?_)
        rw [ew_67, zput_i (i := 7) (i' := r) _ _ _ _ (by omega)] at ey_79
        have e79 : y_79 = w.1 r (f + (5 + 3 * d)) := (by rw [ey_79, er, show at9 + 2 = f + (5 + 3 * d) by omega])
        refine r_bipush dH_open_80 (by decide) ?_
        refine r_isub dH_open_82 ?_
        refine r_iastore rfl (by decide) dH_open_83 (by omega) (by omega) rfl (by omega) (by omega) (fun w_83 ew_83 => ?_)
        refine r_iinc (ls' := [(5, zI (at9 + 3)), (6, zI d), (0, zR 1), (1, zR r), (2, zI f), (3, zI nd), (4, zI ng)]) 5 1 dH_open_84 rfl (by decide) rfl ?_
        refine r_iinc (ls' := [(6, zI (d + 1)), (5, zI (at9 + 3)), (0, zR 1), (1, zR r), (2, zI f), (3, zI nd), (4, zI ng)]) 6 1 dH_open_87 rfl (by decide) rfl ?_
        refine r_goto 43 dH_open_90 (by decide) ?_
        exact ih_43 (at9 + 3) (d + 1) w_83 (by omega) (by omega) (by omega) (fun i k => by rw [ew_83, zput_e, ew_67, zput_e]; by_cases q1 : i = 8 ∧ k = d; (rw [if_pos q1, if_neg (by omega), if_pos (by omega), q1.2]; omega); (rw [if_neg q1]; by_cases q2 : i = 7 ∧ k = d; (rw [if_pos q2, if_pos (by omega), q2.2]; omega); (rw [if_neg q2, hw]; (repeat' split) <;> first | rfl | omega))) (by omega)
  exact L_43 5 x_38 0 w_32 (by omega) (by omega) (by omega) (fun i k => by rw [if_neg (by omega), if_neg (by omega)]) (by omega)
